/-! ===== BEGIN model2: the reference's methods but mayTake, take, pass, eligible ===== -/
def s0Step (U : XV) (f : Int32) (k : Nat) : XV := xs U 4 k (if nI k = f then 0 else if U 2 k = -1 then 100000000 else U 2 k)
def s0 (V : XV) (f : Int32) : Nat → XV
  | 0 => V
  | k + 1 => s0Step (s0 V f k) f k
def sStep (U : XV) (k : Nat) : XV := if U 3 k = -1 then U else if U 4 (k % 8) ≤ U 4 (k / 8) + U 3 k then U else xs U 4 (k % 8) (U 4 (k / 8) + U 3 k)
def sIn (V : XV) : Nat → XV
  | 0 => V
  | k + 1 => sStep (sIn V k) k
def sOut (V : XV) : Nat → XV
  | 0 => V
  | n + 1 => sIn (sOut V n) 64
theorem szV_ex : ∃ g : XV → Int32 → XV, ∀ V f, g V f = sOut (s0 V f 8) 8 := ⟨fun V f => sOut (s0 V f 8) 8, fun _ _ => rfl⟩
/-- what sizeOf leaves; behind a choice, so that nothing unrolls it -/
noncomputable def szV : XV → Int32 → XV := Classical.choose szV_ex
theorem szV_eq (V : XV) (f : Int32) : szV V f = sOut (s0 V f 8) 8 := Classical.choose_spec szV_ex V f
noncomputable def szI (V : XV) (f t : Int32) : Int32 := if szV V f 4 t.toNatClampNeg < 100000000 then szV V f 4 t.toNatClampNeg else -1
def judgeM (V : XV) (q : Nat) : XV := if V 16 q = 0 then V else if V 19 q ≤ V 21 q then (if V 22 q * 1000 ≤ V 21 q * V 20 q then (if 2 ≤ V 17 q then V else xs (xs (xs V 17 q (V 17 q + 1)) 21 q 0) 22 q 0) else xs V 16 q 0) else V
def addM0 (V : XV) (n : Nat) (k v : Int32) : XV := xs (xs (xs (xs (xs (xs V 5 n k) 6 n v) 7 n 100) 8 n 0) 9 n 23) 11 n (-1)
def addM (V : XV) (n : Nat) (k v : Int32) : XV := xs (addM0 V n k v) 0 6 (addM0 V n k v 0 6 + 1)
def reportM1 (V : XV) (d c : Nat) (z : Int32) : XV := xs (xs (xs V 6 d (if z = 0 then V 6 d else V 13 c)) 10 d 0) 11 d (-1)
def reportM2 (V : XV) (d c : Nat) (dz z : Int32) : XV := xs (reportM1 V d c z) 23 c (reportM1 V d c z 23 c ||| (1 <<< (dz &&& 31)))
def reportM3 (V : XV) (d c : Nat) (dz z : Int32) : XV := xs (reportM2 V d c dz z) 21 c (reportM2 V d c dz z 21 c + 1)
def reportM4 (V : XV) (d c : Nat) (dz z : Int32) : XV := xs (reportM3 V d c dz z) 22 c (reportM3 V d c dz z 22 c + (if z = 0 then 1 else 0))
def reportM (V : XV) (d c : Nat) (dz z : Int32) : XV := judgeM (reportM4 V d c dz z) c
def beginM0 (V : XV) (rep : Int32) : XV := if rep = -1 then V else xs V 16 rep.toNatClampNeg 0
def beginM1 (V : XV) (n : Nat) (t k vs rep : Int32) : XV := xs (xs (xs (xs (beginM0 V rep) 13 n t) 14 n k) 15 n vs) 16 n 1
def beginM2 (V : XV) (n : Nat) (t k vs rep : Int32) : XV := xs (xs (xs (xs (xs (beginM1 V n t k vs rep) 18 (3 * n) 10) 18 (3 * n + 1) 50) 18 (3 * n + 2) 100) 19 n 3) 20 n 200
def beginM (V : XV) (n : Nat) (t k vs rep : Int32) : XV := xs (beginM2 V n t k vs rep) 0 15 (beginM2 V n t k vs rep 0 15 + 1)
def rulesM (V : XV) (q : Nat) (f s n th : Int32) : XV := xs (xs (xs (xs V 18 (3 * q) f) 18 (3 * q + 1) s) 19 q n) 20 q th
def toggleM (V : XV) (q : Nat) : XV := if V 16 q = 0 then xs (xs (xs V 16 q 1) 21 q 0) 22 q 0 else xs V 16 q 0
theorem lt64 {i : Nat} (h : i < 64) : ¬ (64 : Int32) ≤ nI i := nI_ge h (by decide)
theorem div8 {k : Nat} (h : k < 64) : (nI k / 8).toNatClampNeg = k / 8 ∧ vp_in (nI k / 8) 8 := by
  have e : nI k / 8 = nI (k / 8) := pk_div (by omega) (by decide) (by decide)
  rw [e]
  exact ⟨nI_clamp (by omega), vp_in_nI (by omega) (by decide)⟩
theorem mod8 {k : Nat} (h : k < 64) : (nI k - nI k / 8 * 8).toNatClampNeg = k % 8 ∧ vp_in (nI k - nI k / 8 * 8) 8 := by
  have e : nI k - nI k / 8 * 8 = nI (k % 8) := pk_rem (by omega) (by decide) (by decide)
  rw [e]
  exact ⟨nI_clamp (by omega), vp_in_nI (by omega) (by decide)⟩
theorem hinX4_allow_X4 : ∀ w ∈ wsX40, w ∈ wsX4_allow := by decide +kernel
def rmX4_allow : Room := { frames := 2, cells := 0, slots := 0, locals := 42 }
set_option maxHeartbeats 4000000 in
set_option maxRecDepth 100000 in
theorem k_X4_allow (l : Launch) (D : va_G) (cy : Nat → ClassId) (b : Nat → Nat) (A : Nat → Prop) (X : va_W) (V : XV) (v k : Int32)  : Met l yX4_allow wsX4_allow rmX4_allow (va_Pc [.ref (b 0), .int v, .int k] (xPre D (tyC cy) A (mW cy b X V))) (va_Qi (fun (r : Int32) (u : XV) => (¬ codeAllow v k = 0 → r = 0 ∧ u = xs V 0 0 (codeAllow v k)) ∧ (codeAllow v k = 0 → r = V 1 v.toNatClampNeg ∧ u = xs (xs V 0 0 (codeAllow v k)) 1 v.toNatClampNeg k)) (fun u t => xPost D (tyC cy) A (mW cy b X u) t) A) 0 0 A := by
  refine x_met (own := RX4) (by decide) rfl rfl (Nat.le_of_ble_eq_true rfl) rfl ?_
  intro p e s m below meth c hnm C hE
  refine x_aload_n (i := 0) C dX4_allow_0 rfl rfl ?_
  refine x_iload_n (i := 1) C dX4_allow_1 rfl rfl ?_
  refine x_callSi C hE (k_X4_isVersion l D _ A _ _) (va_cwS 1 C.2.2.2.2.1 gX4_allow_X4_isVersion rfl rfl rfl (by decide +kernel) ⟨Nat.le_of_ble_eq_true rfl, Nat.le_of_ble_eq_true rfl⟩)  rfl rfl (Nat.le_of_ble_eq_true rfl) dX4_allow_2 ⟨Nat.le_of_ble_eq_true rfl, Nat.le_of_ble_eq_true rfl⟩ (fun r_2 u_2 h_2 => ?_)
  subst h_2
  refine x_join (J := 27) (st' := [.ref (b 0)]) (fun z => z = codeAllow v k) (fun w_27 e_27 => ?_) (fun j_27 => ?_)
  · subst e_27
    refine x_callVi C hE (k_X4_refused l D cy b A X _ _) (cwV 1 C.2.2.2.2.1 gX4_allow_X4_refused rfl rfl rfl (by decide +kernel) ⟨Nat.le_of_ble_eq_true rfl, Nat.le_of_ble_eq_true rfl⟩) 0 (mW_M cy b X _) rfl rfl rfl rfl (Nat.le_of_ble_eq_true rfl) dX4_allow_27 ⟨Nat.le_of_ble_eq_true rfl, Nat.le_of_ble_eq_true rfl⟩ (fun r_27 u_27 h_27 => ?_)
    obtain ⟨e8_27, e9_27⟩ := h_27
    rw [e8_27, e9_27]
    refine x_if_eq C 35 dX4_allow_30 (by decide) (fun c_30 => ?_) (fun c_30 => ?_)
    · refine x_aload_n (i := 0) C dX4_allow_35 rfl rfl ?_
      refine x_getMr C 2 1 (fun _ _ => rfl) (by decide) hinX4_allow_X4 (by decide +kernel) dX4_allow_36 ?_
      refine x_iload_n (i := 1) C dX4_allow_39 rfl rfl ?_
      refine x_ialdM C (by decide) (inB_7 (codeAllow_in (cod0 c_30)).1) rfl dX4_allow_40 ?_
      refine x_istore_n (i := 3) C dX4_allow_41 rfl (by decide) ?_
      refine x_aload_n (i := 0) C dX4_allow_42 rfl rfl ?_
      refine x_getMr C 2 1 (fun _ _ => rfl) (by decide) hinX4_allow_X4 (by decide +kernel) dX4_allow_43 ?_
      refine x_iload_n (i := 1) C dX4_allow_46 rfl rfl ?_
      refine x_iload_n (i := 2) C dX4_allow_47 rfl rfl ?_
      refine x_iastM C (by decide) (inB_7 (codeAllow_in (cod0 c_30)).1) rfl dX4_allow_48 ?_
      refine x_iload_n (i := 3) C dX4_allow_49 rfl rfl ?_
      exact x_iret  C dX4_allow_50 ⟨Nat.le_of_ble_eq_true rfl, Nat.le_of_ble_eq_true rfl⟩ ⟨fun h9 => absurd (cod0 c_30) h9, fun _ => ⟨rfl, rfl⟩⟩
    refine x_iconst (v := 0) C dX4_allow_33 (by decide) ?_
    exact x_iret  C dX4_allow_34 ⟨Nat.le_of_ble_eq_true rfl, Nat.le_of_ble_eq_true rfl⟩ ⟨fun _ => ⟨rfl, rfl⟩, fun h9 => absurd h9 (cod1 c_30)⟩
  refine x_if_ne C 12 dX4_allow_5 (by decide) (fun c_5 => ?_) (fun c_5 => ?_)
  · refine x_iload_n (i := 2) C dX4_allow_12 rfl rfl ?_
    refine x_iconst (v := 0) C dX4_allow_13 (by decide) ?_
    refine x_bipush (v := 15) C dX4_allow_14 (by decide) ?_
    refine x_callSi C hE (k_X4_in l D _ A _ _ _ _) (va_cwS 3 C.2.2.2.2.1 gX4_allow_X4_in rfl rfl rfl (by decide +kernel) ⟨Nat.le_of_ble_eq_true rfl, Nat.le_of_ble_eq_true rfl⟩)  rfl rfl (Nat.le_of_ble_eq_true rfl) dX4_allow_16 ⟨Nat.le_of_ble_eq_true rfl, Nat.le_of_ble_eq_true rfl⟩ (fun r_16 u_16 h_16 => ?_)
    subst h_16
    refine x_if_eq C 26 dX4_allow_19 (by decide) (fun c_19 => ?_) (fun c_19 => ?_)
    · refine x_iconst (v := 2) C dX4_allow_26 (by decide) ?_
      exact j_27 _ (by (try simp only [b2i_0, Bool.not_eq_false] at c_5 c_19); simp [codeAllow, c_5, c_19])
    refine x_iconst (v := 0) C dX4_allow_22 (by decide) ?_
    refine x_goto C 27 dX4_allow_23 (by decide) ?_
    exact j_27 _ (by (try simp only [b2i_0, Bool.not_eq_false] at c_5 c_19); simp [codeAllow, c_5, c_19])
  refine x_iconst (v := 1) C dX4_allow_8 (by decide) ?_
  refine x_goto C 27 dX4_allow_9 (by decide) ?_
  exact j_27 _ (by (try simp only [b2i_0, Bool.not_eq_false] at c_5); simp [codeAllow, c_5])
theorem hinX4_setImage_X4 : ∀ w ∈ wsX40, w ∈ wsX4_setImage := by decide +kernel
def rmX4_setImage : Room := { frames := 2, cells := 0, slots := 0, locals := 42 }
set_option maxHeartbeats 4000000 in
set_option maxRecDepth 100000 in
theorem k_X4_setImage (l : Launch) (D : va_G) (cy : Nat → ClassId) (b : Nat → Nat) (A : Nat → Prop) (X : va_W) (V : XV) (v z9 : Int32)  : Met l yX4_setImage wsX4_setImage rmX4_setImage (va_Pc [.ref (b 0), .int v, .int z9] (xPre D (tyC cy) A (mW cy b X V))) (va_Qi (fun (r : Int32) (u : XV) => (¬ codeImage v z9 = 0 → r = 0 ∧ u = xs V 0 0 (codeImage v z9)) ∧ (codeImage v z9 = 0 → r = V 2 v.toNatClampNeg ∧ u = xs (xs V 0 0 (codeImage v z9)) 2 v.toNatClampNeg z9)) (fun u t => xPost D (tyC cy) A (mW cy b X u) t) A) 0 0 A := by
  refine x_met (own := RX4) (by decide) rfl rfl (Nat.le_of_ble_eq_true rfl) rfl ?_
  intro p e s m below meth c hnm C hE
  refine x_aload_n (i := 0) C dX4_setImage_0 rfl rfl ?_
  refine x_iload_n (i := 1) C dX4_setImage_1 rfl rfl ?_
  refine x_callSi C hE (k_X4_isVersion l D _ A _ _) (va_cwS 1 C.2.2.2.2.1 gX4_setImage_X4_isVersion rfl rfl rfl (by decide +kernel) ⟨Nat.le_of_ble_eq_true rfl, Nat.le_of_ble_eq_true rfl⟩)  rfl rfl (Nat.le_of_ble_eq_true rfl) dX4_setImage_2 ⟨Nat.le_of_ble_eq_true rfl, Nat.le_of_ble_eq_true rfl⟩ (fun r_2 u_2 h_2 => ?_)
  subst h_2
  refine x_join (J := 24) (st' := [.ref (b 0)]) (fun z => z = codeImage v z9) (fun w_24 e_24 => ?_) (fun j_24 => ?_)
  · subst e_24
    refine x_callVi C hE (k_X4_refused l D cy b A X _ _) (cwV 1 C.2.2.2.2.1 gX4_setImage_X4_refused rfl rfl rfl (by decide +kernel) ⟨Nat.le_of_ble_eq_true rfl, Nat.le_of_ble_eq_true rfl⟩) 0 (mW_M cy b X _) rfl rfl rfl rfl (Nat.le_of_ble_eq_true rfl) dX4_setImage_24 ⟨Nat.le_of_ble_eq_true rfl, Nat.le_of_ble_eq_true rfl⟩ (fun r_24 u_24 h_24 => ?_)
    obtain ⟨e8_24, e9_24⟩ := h_24
    rw [e8_24, e9_24]
    refine x_if_eq C 32 dX4_setImage_27 (by decide) (fun c_27 => ?_) (fun c_27 => ?_)
    · refine x_aload_n (i := 0) C dX4_setImage_32 rfl rfl ?_
      refine x_getMr C 3 2 (fun _ _ => rfl) (by decide) hinX4_setImage_X4 (by decide +kernel) dX4_setImage_33 ?_
      refine x_iload_n (i := 1) C dX4_setImage_36 rfl rfl ?_
      refine x_ialdM C (by decide) (inB_7 (codeImage_in (cod0 c_27)).1) rfl dX4_setImage_37 ?_
      refine x_istore_n (i := 3) C dX4_setImage_38 rfl (by decide) ?_
      refine x_aload_n (i := 0) C dX4_setImage_39 rfl rfl ?_
      refine x_getMr C 3 2 (fun _ _ => rfl) (by decide) hinX4_setImage_X4 (by decide +kernel) dX4_setImage_40 ?_
      refine x_iload_n (i := 1) C dX4_setImage_43 rfl rfl ?_
      refine x_iload_n (i := 2) C dX4_setImage_44 rfl rfl ?_
      refine x_iastM C (by decide) (inB_7 (codeImage_in (cod0 c_27)).1) rfl dX4_setImage_45 ?_
      refine x_iload_n (i := 3) C dX4_setImage_46 rfl rfl ?_
      exact x_iret  C dX4_setImage_47 ⟨Nat.le_of_ble_eq_true rfl, Nat.le_of_ble_eq_true rfl⟩ ⟨fun h9 => absurd (cod0 c_27) h9, fun _ => ⟨rfl, rfl⟩⟩
    refine x_iconst (v := 0) C dX4_setImage_30 (by decide) ?_
    exact x_iret  C dX4_setImage_31 ⟨Nat.le_of_ble_eq_true rfl, Nat.le_of_ble_eq_true rfl⟩ ⟨fun _ => ⟨rfl, rfl⟩, fun h9 => absurd h9 (cod1 c_27)⟩
  refine x_if_ne C 12 dX4_setImage_5 (by decide) (fun c_5 => ?_) (fun c_5 => ?_)
  · refine x_iload_n (i := 2) C dX4_setImage_12 rfl rfl ?_
    refine x_callSi C hE (k_X4_isSize l D _ A _ _) (va_cwS 1 C.2.2.2.2.1 gX4_setImage_X4_isSize rfl rfl rfl (by decide +kernel) ⟨Nat.le_of_ble_eq_true rfl, Nat.le_of_ble_eq_true rfl⟩)  rfl rfl (Nat.le_of_ble_eq_true rfl) dX4_setImage_13 ⟨Nat.le_of_ble_eq_true rfl, Nat.le_of_ble_eq_true rfl⟩ (fun r_13 u_13 h_13 => ?_)
    subst h_13
    refine x_if_eq C 23 dX4_setImage_16 (by decide) (fun c_16 => ?_) (fun c_16 => ?_)
    · refine x_iconst (v := 2) C dX4_setImage_23 (by decide) ?_
      exact j_24 _ (by (try simp only [b2i_0, Bool.not_eq_false] at c_5 c_16); simp [codeImage, c_5, c_16])
    refine x_iconst (v := 0) C dX4_setImage_19 (by decide) ?_
    refine x_goto C 24 dX4_setImage_20 (by decide) ?_
    exact j_24 _ (by (try simp only [b2i_0, Bool.not_eq_false] at c_5 c_16); simp [codeImage, c_5, c_16])
  refine x_iconst (v := 1) C dX4_setImage_8 (by decide) ?_
  refine x_goto C 24 dX4_setImage_9 (by decide) ?_
  exact j_24 _ (by (try simp only [b2i_0, Bool.not_eq_false] at c_5); simp [codeImage, c_5])
theorem hinX4_setDelta_X4 : ∀ w ∈ wsX40, w ∈ wsX4_setDelta := by decide +kernel
def rmX4_setDelta : Room := { frames := 2, cells := 0, slots := 0, locals := 42 }
set_option maxHeartbeats 4000000 in
set_option maxRecDepth 100000 in
theorem k_X4_setDelta (l : Launch) (D : va_G) (cy : Nat → ClassId) (b : Nat → Nat) (A : Nat → Prop) (X : va_W) (V : XV) (f t z9 : Int32)  : Met l yX4_setDelta wsX4_setDelta rmX4_setDelta (va_Pc [.ref (b 0), .int f, .int t, .int z9] (xPre D (tyC cy) A (mW cy b X V))) (va_Qi (fun (r : Int32) (u : XV) => (¬ codeDelta f t z9 = 0 → r = 0 ∧ u = xs V 0 0 (codeDelta f t z9)) ∧ (codeDelta f t z9 = 0 → r = V 3 (8 * f.toNatClampNeg + t.toNatClampNeg) ∧ u = xs (xs V 0 0 (codeDelta f t z9)) 3 (8 * f.toNatClampNeg + t.toNatClampNeg) z9)) (fun u t => xPost D (tyC cy) A (mW cy b X u) t) A) 0 0 A := by
  refine x_met (own := RX4) (by decide) rfl rfl (Nat.le_of_ble_eq_true rfl) rfl ?_
  intro p e s m below meth c hnm C hE
  refine x_iload_n (i := 1) C dX4_setDelta_0 rfl rfl ?_
  refine x_callSi C hE (k_X4_isVersion l D _ A _ _) (va_cwS 1 C.2.2.2.2.1 gX4_setDelta_X4_isVersion rfl rfl rfl (by decide +kernel) ⟨Nat.le_of_ble_eq_true rfl, Nat.le_of_ble_eq_true rfl⟩)  rfl rfl (Nat.le_of_ble_eq_true rfl) dX4_setDelta_1 ⟨Nat.le_of_ble_eq_true rfl, Nat.le_of_ble_eq_true rfl⟩ (fun r_1 u_1 h_1 => ?_)
  subst h_1
  refine x_join (J := 19) (st' := []) (fun z => z = b2i (inB f 0 7 && inB t 0 7)) (fun w_19 e_19 => ?_) (fun j_19 => ?_)
  · subst e_19
    refine x_istore (i := 4) C dX4_setDelta_19 (by decide) ?_
    refine x_aload_n (i := 0) C dX4_setDelta_21 rfl rfl ?_
    refine x_iload (i := 4) C dX4_setDelta_22 rfl ?_
    refine x_join (J := 48) (st' := [.ref (b 0)]) (fun z => z = codeDelta f t z9) (fun w_48 e_48 => ?_) (fun j_48 => ?_)
    · subst e_48
      refine x_callVi C hE (k_X4_refused l D cy b A X _ _) (cwV 1 C.2.2.2.2.1 gX4_setDelta_X4_refused rfl rfl rfl (by decide +kernel) ⟨Nat.le_of_ble_eq_true rfl, Nat.le_of_ble_eq_true rfl⟩) 0 (mW_M cy b X _) rfl rfl rfl rfl (Nat.le_of_ble_eq_true rfl) dX4_setDelta_48 ⟨Nat.le_of_ble_eq_true rfl, Nat.le_of_ble_eq_true rfl⟩ (fun r_48 u_48 h_48 => ?_)
      obtain ⟨e8_48, e9_48⟩ := h_48
      rw [e8_48, e9_48]
      refine x_if_eq C 56 dX4_setDelta_51 (by decide) (fun c_51 => ?_) (fun c_51 => ?_)
      · refine x_aload_n (i := 0) C dX4_setDelta_56 rfl rfl ?_
        refine x_getMr C 4 3 (fun _ _ => rfl) (by decide) hinX4_setDelta_X4 (by decide +kernel) dX4_setDelta_57 ?_
        refine x_bipush (v := 8) C dX4_setDelta_60 (by decide) ?_
        refine x_iload_n (i := 1) C dX4_setDelta_62 rfl rfl ?_
        refine x_imul C dX4_setDelta_63 ?_
        refine x_iload_n (i := 2) C dX4_setDelta_64 rfl rfl ?_
        refine x_iadd C dX4_setDelta_65 ?_
        refine x_ialdM C (by decide) (idx8 (inB_7 (codeDelta_in (cod0 c_51)).1) (inB_7 (codeDelta_in (cod0 c_51)).2)).2 (idx8 (inB_7 (codeDelta_in (cod0 c_51)).1) (inB_7 (codeDelta_in (cod0 c_51)).2)).1 dX4_setDelta_66 ?_
        refine x_istore (i := 5) C dX4_setDelta_67 (by decide) ?_
        refine x_aload_n (i := 0) C dX4_setDelta_69 rfl rfl ?_
        refine x_getMr C 4 3 (fun _ _ => rfl) (by decide) hinX4_setDelta_X4 (by decide +kernel) dX4_setDelta_70 ?_
        refine x_bipush (v := 8) C dX4_setDelta_73 (by decide) ?_
        refine x_iload_n (i := 1) C dX4_setDelta_75 rfl rfl ?_
        refine x_imul C dX4_setDelta_76 ?_
        refine x_iload_n (i := 2) C dX4_setDelta_77 rfl rfl ?_
        refine x_iadd C dX4_setDelta_78 ?_
        refine x_iload_n (i := 3) C dX4_setDelta_79 rfl rfl ?_
        refine x_iastM C (by decide) (idx8 (inB_7 (codeDelta_in (cod0 c_51)).1) (inB_7 (codeDelta_in (cod0 c_51)).2)).2 (idx8 (inB_7 (codeDelta_in (cod0 c_51)).1) (inB_7 (codeDelta_in (cod0 c_51)).2)).1 dX4_setDelta_80 ?_
        refine x_iload (i := 5) C dX4_setDelta_81 rfl ?_
        exact x_iret  C dX4_setDelta_83 ⟨Nat.le_of_ble_eq_true rfl, Nat.le_of_ble_eq_true rfl⟩ ⟨fun h9 => absurd (cod0 c_51) h9, fun _ => ⟨rfl, rfl⟩⟩
      refine x_iconst (v := 0) C dX4_setDelta_54 (by decide) ?_
      exact x_iret  C dX4_setDelta_55 ⟨Nat.le_of_ble_eq_true rfl, Nat.le_of_ble_eq_true rfl⟩ ⟨fun _ => ⟨rfl, rfl⟩, fun h9 => absurd h9 (cod1 c_51)⟩
    refine x_if_ne C 31 dX4_setDelta_24 (by decide) (fun c_24 => ?_) (fun c_24 => ?_)
    · refine x_iload_n (i := 1) C dX4_setDelta_31 rfl rfl ?_
      refine x_iload_n (i := 2) C dX4_setDelta_32 rfl rfl ?_
      refine x_icmp_eq C 47 dX4_setDelta_33 (by decide) (fun c_33 => ?_) (fun c_33 => ?_)
      · refine x_iconst (v := 2) C dX4_setDelta_47 (by decide) ?_
        exact j_48 _ ((if_pos (b2i_n0 c_24)).trans (if_pos c_33)).symm
      refine x_iload_n (i := 3) C dX4_setDelta_36 rfl rfl ?_
      refine x_callSi C hE (k_X4_isSize l D _ A _ _) (va_cwS 1 C.2.2.2.2.1 gX4_setDelta_X4_isSize rfl rfl rfl (by decide +kernel) ⟨Nat.le_of_ble_eq_true rfl, Nat.le_of_ble_eq_true rfl⟩)  rfl rfl (Nat.le_of_ble_eq_true rfl) dX4_setDelta_37 ⟨Nat.le_of_ble_eq_true rfl, Nat.le_of_ble_eq_true rfl⟩ (fun r_37 u_37 h_37 => ?_)
      subst h_37
      refine x_if_eq C 47 dX4_setDelta_40 (by decide) (fun c_40 => ?_) (fun c_40 => ?_)
      · refine x_iconst (v := 2) C dX4_setDelta_47 (by decide) ?_
        exact j_48 _ ((if_pos (b2i_n0 c_24)).trans ((if_neg c_33).trans (if_neg (b2i_z c_40)))).symm
      refine x_iconst (v := 0) C dX4_setDelta_43 (by decide) ?_
      refine x_goto C 48 dX4_setDelta_44 (by decide) ?_
      exact j_48 _ ((if_pos (b2i_n0 c_24)).trans ((if_neg c_33).trans (if_pos (b2i_n0 c_40)))).symm
    refine x_iconst (v := 1) C dX4_setDelta_27 (by decide) ?_
    refine x_goto C 48 dX4_setDelta_28 (by decide) ?_
    exact j_48 _ (if_neg (b2i_z c_24)).symm
  refine x_if_eq C 18 dX4_setDelta_4 (by decide) (fun c_4 => ?_) (fun c_4 => ?_)
  · refine x_iconst (v := 0) C dX4_setDelta_18 (by decide) ?_
    exact j_19 _ (by (try simp only [b2i_0, Bool.not_eq_false] at c_4); simp [b2i, c_4])
  refine x_iload_n (i := 2) C dX4_setDelta_7 rfl rfl ?_
  refine x_callSi C hE (k_X4_isVersion l D _ A _ _) (va_cwS 1 C.2.2.2.2.1 gX4_setDelta_X4_isVersion rfl rfl rfl (by decide +kernel) ⟨Nat.le_of_ble_eq_true rfl, Nat.le_of_ble_eq_true rfl⟩)  rfl rfl (Nat.le_of_ble_eq_true rfl) dX4_setDelta_8 ⟨Nat.le_of_ble_eq_true rfl, Nat.le_of_ble_eq_true rfl⟩ (fun r_8 u_8 h_8 => ?_)
  subst h_8
  refine x_if_eq C 18 dX4_setDelta_11 (by decide) (fun c_11 => ?_) (fun c_11 => ?_)
  · refine x_iconst (v := 0) C dX4_setDelta_18 (by decide) ?_
    exact j_19 _ (by (try simp only [b2i_0, Bool.not_eq_false] at c_4 c_11); simp [b2i, c_4, c_11])
  refine x_iconst (v := 1) C dX4_setDelta_14 (by decide) ?_
  refine x_goto C 19 dX4_setDelta_15 (by decide) ?_
  exact j_19 _ (by (try simp only [b2i_0, Bool.not_eq_false] at c_4 c_11); simp [b2i, c_4, c_11])
theorem hinX4_sizeOf_X4 : ∀ w ∈ wsX40, w ∈ wsX4_sizeOf := by decide +kernel
def rmX4_sizeOf : Room := { frames := 0, cells := 0, slots := 0, locals := 0 }
set_option maxHeartbeats 4000000 in
set_option maxRecDepth 100000 in
theorem k_X4_sizeOf (l : Launch) (D : va_G) (cy : Nat → ClassId) (b : Nat → Nat) (A : Nat → Prop) (X : va_W) (V : XV) (f t : Int32) (ht : vp_in t 8) : Met l yX4_sizeOf wsX4_sizeOf rmX4_sizeOf (va_Pc [.ref (b 0), .int f, .int t] (xPre D (tyC cy) A (mW cy b X V))) (va_Qi (fun (r : Int32) (u : XV) => r = szI V f t ∧ u = szV V f) (fun u t => xPost D (tyC cy) A (mW cy b X u) t) A) 0 0 A := by
  refine x_met (own := RX4) (by decide) rfl rfl (Nat.le_of_ble_eq_true rfl) rfl ?_
  intro p e s m below meth c hnm C hE
  refine x_iconst (v := 0) C dX4_sizeOf_0 (by decide) ?_
  refine x_istore_n (i := 3) C dX4_sizeOf_1 rfl (by decide) ?_
  refine x_subm (lv' := [(3, .int (nI 0)), (0, .ref (b 0)), (1, .int f), (2, .int t)]) ?_ rfl
  refine x_count (N := 8) (fun k => xA p l e rmX4_sizeOf s m _ below meth c D A 5 0 0 _ 2 [(3, .int (nI k)), (0, .ref (b 0)), (1, .int f), (2, .int t)] [] (mW cy b X (s0 V f k))) ?_ ?_
  · refine x_iload_n (i := 3) C dX4_sizeOf_2 rfl rfl ?_
    refine x_bipush (v := 8) C dX4_sizeOf_3 (by decide) ?_
    refine x_icmp_ge C 50 dX4_sizeOf_5 (by decide) (fun c_5 => ?_) (fun c_5 => absurd le8 c_5)
    refine x_iconst (v := 0) C dX4_sizeOf_50 (by decide) ?_
    refine x_istore_n (i := 3) C dX4_sizeOf_51 rfl (by decide) ?_
    refine x_subm (lv' := [(3, .int (nI 0)), (0, .ref (b 0)), (1, .int f), (2, .int t)]) ?_ rfl
    refine x_count (N := 8) (fun n => xA p l e rmX4_sizeOf s m _ below meth c D A 5 0 0 _ 52 [(3, .int (nI n)), (0, .ref (b 0)), (1, .int f), (2, .int t)] [] (mW cy b X (sOut (s0 V f 8) n))) ?_ ?_
    · refine x_iload_n (i := 3) C dX4_sizeOf_52 rfl rfl ?_
      refine x_bipush (v := 8) C dX4_sizeOf_53 (by decide) ?_
      refine x_icmp_ge C 150 dX4_sizeOf_55 (by decide) (fun c_55 => ?_) (fun c_55 => absurd le8 c_55)
      refine x_aload_n (i := 0) C dX4_sizeOf_150 rfl rfl ?_
      refine x_getMr C 5 4 (fun _ _ => rfl) (by decide) hinX4_sizeOf_X4 (by decide +kernel) dX4_sizeOf_151 ?_
      refine x_iload_n (i := 2) C dX4_sizeOf_154 rfl rfl ?_
      refine x_ialdM C (by decide) ht rfl dX4_sizeOf_155 ?_
      refine x_ldc (v := 100000000) C (by decide +kernel) dX4_sizeOf_156 ?_
      refine x_icmp_lt C 165 dX4_sizeOf_158 (by decide) (fun c_158 => ?_) (fun c_158 => ?_)
      · refine x_aload_n (i := 0) C dX4_sizeOf_165 rfl rfl ?_
        refine x_getMr C 5 4 (fun _ _ => rfl) (by decide) hinX4_sizeOf_X4 (by decide +kernel) dX4_sizeOf_166 ?_
        refine x_iload_n (i := 2) C dX4_sizeOf_169 rfl rfl ?_
        refine x_ialdM C (by decide) ht rfl dX4_sizeOf_170 ?_
        exact x_iret  C dX4_sizeOf_171 ⟨Nat.le_of_ble_eq_true rfl, Nat.le_of_ble_eq_true rfl⟩ ⟨by unfold szI; rw [szV_eq, if_pos c_158], (szV_eq V f).symm⟩
      refine x_iconst (v := (-1)) C dX4_sizeOf_161 (by decide) ?_
      refine x_goto C 171 dX4_sizeOf_162 (by decide) ?_
      exact x_iret  C dX4_sizeOf_171 ⟨Nat.le_of_ble_eq_true rfl, Nat.le_of_ble_eq_true rfl⟩ ⟨by unfold szI; rw [szV_eq, if_neg c_158], (szV_eq V f).symm⟩
    intro n hn ihn
    refine x_iload_n (i := 3) C dX4_sizeOf_52 rfl rfl ?_
    refine x_bipush (v := 8) C dX4_sizeOf_53 (by decide) ?_
    refine x_icmp_ge C 150 dX4_sizeOf_55 (by decide) (fun c_55 => absurd c_55 (lt8 hn)) (fun c_55 => ?_)
    refine x_iconst (v := 0) C dX4_sizeOf_58 (by decide) ?_
    refine x_istore (i := 4) C dX4_sizeOf_59 (by decide) ?_
    refine x_subm (lv' := [(4, .int (nI 0)), (3, .int (nI n)), (0, .ref (b 0)), (1, .int f), (2, .int t)]) ?_ rfl
    refine x_count (N := 64) (fun k => xA p l e rmX4_sizeOf s m _ below meth c D A 5 0 0 _ 61 [(4, .int (nI k)), (3, .int (nI n)), (0, .ref (b 0)), (1, .int f), (2, .int t)] [] (mW cy b X (sIn (sOut (s0 V f 8) n) k))) ?_ ?_
    · refine x_iload (i := 4) C dX4_sizeOf_61 rfl ?_
      refine x_bipush (v := 64) C dX4_sizeOf_63 (by decide) ?_
      refine x_icmp_ge C 144 dX4_sizeOf_65 (by decide) (fun c_65 => ?_) (fun c_65 => absurd (by decide) c_65)
      refine x_iinc (v := nI (n + 1)) C dX4_sizeOf_144 rfl (inc1 n) ?_
      refine x_goto C 52 dX4_sizeOf_147 (by decide) ?_
      refine x_subm (lv' := [(3, .int (nI (n + 1))), (0, .ref (b 0)), (1, .int f), (2, .int t)]) ?_ rfl
      exact ihn
    intro k hk ihk
    refine x_iload (i := 4) C dX4_sizeOf_61 rfl ?_
    refine x_bipush (v := 64) C dX4_sizeOf_63 (by decide) ?_
    refine x_icmp_ge C 144 dX4_sizeOf_65 (by decide) (fun c_65 => absurd c_65 (lt64 hk)) (fun c_65 => ?_)
    refine x_aload_n (i := 0) C dX4_sizeOf_68 rfl rfl ?_
    refine x_getMr C 4 3 (fun _ _ => rfl) (by decide) hinX4_sizeOf_X4 (by decide +kernel) dX4_sizeOf_69 ?_
    refine x_iload (i := 4) C dX4_sizeOf_72 rfl ?_
    refine x_ialdM C (by decide) (vp_in_nI hk (by decide)) (nI_clamp (by omega)) dX4_sizeOf_74 ?_
    refine x_iconst (v := (-1)) C dX4_sizeOf_75 (by decide) ?_
    refine x_icmp_eq C 138 dX4_sizeOf_76 (by decide) (fun c_76 => ?_) (fun c_76 => ?_)
    · refine x_iinc (v := nI (k + 1)) C dX4_sizeOf_138 rfl (inc1 k) ?_
      refine x_goto C 61 dX4_sizeOf_141 (by decide) ?_
      first | (have e8 : sIn (sOut (s0 V f 8) n) (k + 1) = (sIn (sOut (s0 V f 8) n) k) := if_pos c_76; rw [e8] at ihk; exact x_subm ihk rfl) | (have e8 : sIn (sOut (s0 V f 8) n) (k + 1) = (sIn (sOut (s0 V f 8) n) k) := (if_neg c_76).trans (if_pos c_107); rw [e8] at ihk; exact x_subm ihk rfl) | (have e8 : sIn (sOut (s0 V f 8) n) (k + 1) = xs (sIn (sOut (s0 V f 8) n) k) 4 (k % 8) ((sIn (sOut (s0 V f 8) n) k) 4 (k / 8) + (sIn (sOut (s0 V f 8) n) k) 3 k) := (if_neg c_76).trans (if_neg c_107); rw [e8] at ihk; exact x_subm ihk rfl)
    refine x_aload_n (i := 0) C dX4_sizeOf_79 rfl rfl ?_
    refine x_getMr C 5 4 (fun _ _ => rfl) (by decide) hinX4_sizeOf_X4 (by decide +kernel) dX4_sizeOf_80 ?_
    refine x_iload (i := 4) C dX4_sizeOf_83 rfl ?_
    refine x_bipush (v := 8) C dX4_sizeOf_85 (by decide) ?_
    refine x_idiv C dX4_sizeOf_87 (by decide) ?_
    refine x_ialdM C (by decide) (div8 hk).2 (div8 hk).1 dX4_sizeOf_88 ?_
    refine x_aload_n (i := 0) C dX4_sizeOf_89 rfl rfl ?_
    refine x_getMr C 4 3 (fun _ _ => rfl) (by decide) hinX4_sizeOf_X4 (by decide +kernel) dX4_sizeOf_90 ?_
    refine x_iload (i := 4) C dX4_sizeOf_93 rfl ?_
    refine x_ialdM C (by decide) (vp_in_nI hk (by decide)) (nI_clamp (by omega)) dX4_sizeOf_95 ?_
    refine x_iadd C dX4_sizeOf_96 ?_
    refine x_aload_n (i := 0) C dX4_sizeOf_97 rfl rfl ?_
    refine x_getMr C 5 4 (fun _ _ => rfl) (by decide) hinX4_sizeOf_X4 (by decide +kernel) dX4_sizeOf_98 ?_
    refine x_iload (i := 4) C dX4_sizeOf_101 rfl ?_
    refine x_bipush (v := 8) C dX4_sizeOf_103 (by decide) ?_
    refine x_irem C dX4_sizeOf_105 (by decide) ?_
    refine x_ialdM C (by decide) (mod8 hk).2 (mod8 hk).1 dX4_sizeOf_106 ?_
    refine x_icmp_ge C 138 dX4_sizeOf_107 (by decide) (fun c_107 => ?_) (fun c_107 => ?_)
    · refine x_iinc (v := nI (k + 1)) C dX4_sizeOf_138 rfl (inc1 k) ?_
      refine x_goto C 61 dX4_sizeOf_141 (by decide) ?_
      first | (have e8 : sIn (sOut (s0 V f 8) n) (k + 1) = (sIn (sOut (s0 V f 8) n) k) := if_pos c_76; rw [e8] at ihk; exact x_subm ihk rfl) | (have e8 : sIn (sOut (s0 V f 8) n) (k + 1) = (sIn (sOut (s0 V f 8) n) k) := (if_neg c_76).trans (if_pos c_107); rw [e8] at ihk; exact x_subm ihk rfl) | (have e8 : sIn (sOut (s0 V f 8) n) (k + 1) = xs (sIn (sOut (s0 V f 8) n) k) 4 (k % 8) ((sIn (sOut (s0 V f 8) n) k) 4 (k / 8) + (sIn (sOut (s0 V f 8) n) k) 3 k) := (if_neg c_76).trans (if_neg c_107); rw [e8] at ihk; exact x_subm ihk rfl)
    refine x_aload_n (i := 0) C dX4_sizeOf_110 rfl rfl ?_
    refine x_getMr C 5 4 (fun _ _ => rfl) (by decide) hinX4_sizeOf_X4 (by decide +kernel) dX4_sizeOf_111 ?_
    refine x_iload (i := 4) C dX4_sizeOf_114 rfl ?_
    refine x_bipush (v := 8) C dX4_sizeOf_116 (by decide) ?_
    refine x_irem C dX4_sizeOf_118 (by decide) ?_
    refine x_aload_n (i := 0) C dX4_sizeOf_119 rfl rfl ?_
    refine x_getMr C 5 4 (fun _ _ => rfl) (by decide) hinX4_sizeOf_X4 (by decide +kernel) dX4_sizeOf_120 ?_
    refine x_iload (i := 4) C dX4_sizeOf_123 rfl ?_
    refine x_bipush (v := 8) C dX4_sizeOf_125 (by decide) ?_
    refine x_idiv C dX4_sizeOf_127 (by decide) ?_
    refine x_ialdM C (by decide) (div8 hk).2 (div8 hk).1 dX4_sizeOf_128 ?_
    refine x_aload_n (i := 0) C dX4_sizeOf_129 rfl rfl ?_
    refine x_getMr C 4 3 (fun _ _ => rfl) (by decide) hinX4_sizeOf_X4 (by decide +kernel) dX4_sizeOf_130 ?_
    refine x_iload (i := 4) C dX4_sizeOf_133 rfl ?_
    refine x_ialdM C (by decide) (vp_in_nI hk (by decide)) (nI_clamp (by omega)) dX4_sizeOf_135 ?_
    refine x_iadd C dX4_sizeOf_136 ?_
    refine x_iastM C (by decide) (mod8 hk).2 (mod8 hk).1 dX4_sizeOf_137 ?_
    refine x_iinc (v := nI (k + 1)) C dX4_sizeOf_138 rfl (inc1 k) ?_
    refine x_goto C 61 dX4_sizeOf_141 (by decide) ?_
    first | (have e8 : sIn (sOut (s0 V f 8) n) (k + 1) = (sIn (sOut (s0 V f 8) n) k) := if_pos c_76; rw [e8] at ihk; exact x_subm ihk rfl) | (have e8 : sIn (sOut (s0 V f 8) n) (k + 1) = (sIn (sOut (s0 V f 8) n) k) := (if_neg c_76).trans (if_pos c_107); rw [e8] at ihk; exact x_subm ihk rfl) | (have e8 : sIn (sOut (s0 V f 8) n) (k + 1) = xs (sIn (sOut (s0 V f 8) n) k) 4 (k % 8) ((sIn (sOut (s0 V f 8) n) k) 4 (k / 8) + (sIn (sOut (s0 V f 8) n) k) 3 k) := (if_neg c_76).trans (if_neg c_107); rw [e8] at ihk; exact x_subm ihk rfl)
  intro k hk ihk
  refine x_iload_n (i := 3) C dX4_sizeOf_2 rfl rfl ?_
  refine x_bipush (v := 8) C dX4_sizeOf_3 (by decide) ?_
  refine x_icmp_ge C 50 dX4_sizeOf_5 (by decide) (fun c_5 => absurd c_5 (lt8 hk)) (fun c_5 => ?_)
  refine x_aload_n (i := 0) C dX4_sizeOf_8 rfl rfl ?_
  refine x_getMr C 5 4 (fun _ _ => rfl) (by decide) hinX4_sizeOf_X4 (by decide +kernel) dX4_sizeOf_9 ?_
  refine x_iload_n (i := 3) C dX4_sizeOf_12 rfl rfl ?_
  refine x_iload_n (i := 3) C dX4_sizeOf_13 rfl rfl ?_
  refine x_iload_n (i := 1) C dX4_sizeOf_14 rfl rfl ?_
  refine x_icmp_ne C 22 dX4_sizeOf_15 (by decide) (fun c_15 => ?_) (fun c_15 => ?_)
  · refine x_aload_n (i := 0) C dX4_sizeOf_22 rfl rfl ?_
    refine x_getMr C 3 2 (fun _ _ => rfl) (by decide) hinX4_sizeOf_X4 (by decide +kernel) dX4_sizeOf_23 ?_
    refine x_iload_n (i := 3) C dX4_sizeOf_26 rfl rfl ?_
    refine x_ialdM C (by decide) (in8 hk) (cl8 hk) dX4_sizeOf_27 ?_
    refine x_iconst (v := (-1)) C dX4_sizeOf_28 (by decide) ?_
    refine x_icmp_ne C 37 dX4_sizeOf_29 (by decide) (fun c_29 => ?_) (fun c_29 => ?_)
    · refine x_aload_n (i := 0) C dX4_sizeOf_37 rfl rfl ?_
      refine x_getMr C 3 2 (fun _ _ => rfl) (by decide) hinX4_sizeOf_X4 (by decide +kernel) dX4_sizeOf_38 ?_
      refine x_iload_n (i := 3) C dX4_sizeOf_41 rfl rfl ?_
      refine x_ialdM C (by decide) (in8 hk) (cl8 hk) dX4_sizeOf_42 ?_
      refine x_iastM C (by decide) (in8 hk) (cl8 hk) dX4_sizeOf_43 ?_
      refine x_iinc (v := nI (k + 1)) C dX4_sizeOf_44 rfl (inc1 k) ?_
      refine x_goto C 2 dX4_sizeOf_47 (by decide) ?_
      first | (have e8 : s0 V f (k + 1) = xs (s0 V f k) 4 k (0) := congrArg (fun y => xs (s0 V f k) 4 k y) (if_pos c_15); rw [e8] at ihk; exact x_subm ihk rfl) | (have e8 : s0 V f (k + 1) = xs (s0 V f k) 4 k (100000000) := congrArg (fun y => xs (s0 V f k) 4 k y) ((if_neg c_15).trans (if_pos c_29)); rw [e8] at ihk; exact x_subm ihk rfl) | (have e8 : s0 V f (k + 1) = xs (s0 V f k) 4 k ((s0 V f k) 2 k) := congrArg (fun y => xs (s0 V f k) 4 k y) ((if_neg c_15).trans (if_neg c_29)); rw [e8] at ihk; exact x_subm ihk rfl)
    refine x_ldc (v := 100000000) C (by decide +kernel) dX4_sizeOf_32 ?_
    refine x_goto C 43 dX4_sizeOf_34 (by decide) ?_
    refine x_iastM C (by decide) (in8 hk) (cl8 hk) dX4_sizeOf_43 ?_
    refine x_iinc (v := nI (k + 1)) C dX4_sizeOf_44 rfl (inc1 k) ?_
    refine x_goto C 2 dX4_sizeOf_47 (by decide) ?_
    first | (have e8 : s0 V f (k + 1) = xs (s0 V f k) 4 k (0) := congrArg (fun y => xs (s0 V f k) 4 k y) (if_pos c_15); rw [e8] at ihk; exact x_subm ihk rfl) | (have e8 : s0 V f (k + 1) = xs (s0 V f k) 4 k (100000000) := congrArg (fun y => xs (s0 V f k) 4 k y) ((if_neg c_15).trans (if_pos c_29)); rw [e8] at ihk; exact x_subm ihk rfl) | (have e8 : s0 V f (k + 1) = xs (s0 V f k) 4 k ((s0 V f k) 2 k) := congrArg (fun y => xs (s0 V f k) 4 k y) ((if_neg c_15).trans (if_neg c_29)); rw [e8] at ihk; exact x_subm ihk rfl)
  refine x_iconst (v := 0) C dX4_sizeOf_18 (by decide) ?_
  refine x_goto C 43 dX4_sizeOf_19 (by decide) ?_
  refine x_iastM C (by decide) (in8 hk) (cl8 hk) dX4_sizeOf_43 ?_
  refine x_iinc (v := nI (k + 1)) C dX4_sizeOf_44 rfl (inc1 k) ?_
  refine x_goto C 2 dX4_sizeOf_47 (by decide) ?_
  first | (have e8 : s0 V f (k + 1) = xs (s0 V f k) 4 k (0) := congrArg (fun y => xs (s0 V f k) 4 k y) (if_pos c_15); rw [e8] at ihk; exact x_subm ihk rfl) | (have e8 : s0 V f (k + 1) = xs (s0 V f k) 4 k (100000000) := congrArg (fun y => xs (s0 V f k) 4 k y) ((if_neg c_15).trans (if_pos c_29)); rw [e8] at ihk; exact x_subm ihk rfl) | (have e8 : s0 V f (k + 1) = xs (s0 V f k) 4 k ((s0 V f k) 2 k) := congrArg (fun y => xs (s0 V f k) 4 k y) ((if_neg c_15).trans (if_neg c_29)); rw [e8] at ihk; exact x_subm ihk rfl)
def rmX4_size : Room := { frames := 2, cells := 0, slots := 0, locals := 42 }
set_option maxHeartbeats 4000000 in
set_option maxRecDepth 100000 in
theorem k_X4_size (l : Launch) (D : va_G) (cy : Nat → ClassId) (b : Nat → Nat) (A : Nat → Prop) (X : va_W) (V : XV) (f t : Int32)  : Met l yX4_size wsX4_size rmX4_size (va_Pc [.ref (b 0), .int f, .int t] (xPre D (tyC cy) A (mW cy b X V))) (va_Qi (fun (r : Int32) (u : XV) => (¬ codeSize f t = 0 → r = 0 ∧ u = xs V 0 0 (codeSize f t)) ∧ (codeSize f t = 0 → r = szI (xs V 0 0 (codeSize f t)) f t ∧ u = szV (xs V 0 0 (codeSize f t)) f)) (fun u t => xPost D (tyC cy) A (mW cy b X u) t) A) 0 0 A := by
  refine x_met (own := RX4) (by decide) rfl rfl (Nat.le_of_ble_eq_true rfl) rfl ?_
  intro p e s m below meth c hnm C hE
  refine x_aload_n (i := 0) C dX4_size_0 rfl rfl ?_
  refine x_iload_n (i := 1) C dX4_size_1 rfl rfl ?_
  refine x_callSi C hE (k_X4_isVersion l D _ A _ _) (va_cwS 1 C.2.2.2.2.1 gX4_size_X4_isVersion rfl rfl rfl (by decide +kernel) ⟨Nat.le_of_ble_eq_true rfl, Nat.le_of_ble_eq_true rfl⟩)  rfl rfl (Nat.le_of_ble_eq_true rfl) dX4_size_2 ⟨Nat.le_of_ble_eq_true rfl, Nat.le_of_ble_eq_true rfl⟩ (fun r_2 u_2 h_2 => ?_)
  subst h_2
  refine x_join (J := 20) (st' := [.ref (b 0)]) (fun z => z = codeSize f t) (fun w_20 e_20 => ?_) (fun j_20 => ?_)
  · subst e_20
    refine x_callVi C hE (k_X4_refused l D cy b A X _ _) (cwV 1 C.2.2.2.2.1 gX4_size_X4_refused rfl rfl rfl (by decide +kernel) ⟨Nat.le_of_ble_eq_true rfl, Nat.le_of_ble_eq_true rfl⟩) 0 (mW_M cy b X _) rfl rfl rfl rfl (Nat.le_of_ble_eq_true rfl) dX4_size_20 ⟨Nat.le_of_ble_eq_true rfl, Nat.le_of_ble_eq_true rfl⟩ (fun r_20 u_20 h_20 => ?_)
    obtain ⟨e8_20, e9_20⟩ := h_20
    rw [e8_20, e9_20]
    refine x_if_eq C 30 dX4_size_23 (by decide) (fun c_23 => ?_) (fun c_23 => ?_)
    · refine x_aload_n (i := 0) C dX4_size_30 rfl rfl ?_
      refine x_iload_n (i := 1) C dX4_size_31 rfl rfl ?_
      refine x_iload_n (i := 2) C dX4_size_32 rfl rfl ?_
      refine x_callVi C hE (k_X4_sizeOf l D cy b A X _ _ _ (inB_7 (codeSize_in (cod0 c_23)).2)) (cwV 2 C.2.2.2.2.1 gX4_size_X4_sizeOf rfl rfl rfl (by decide +kernel) ⟨Nat.le_of_ble_eq_true rfl, Nat.le_of_ble_eq_true rfl⟩) 0 (mW_M cy b X _) rfl rfl rfl rfl (Nat.le_of_ble_eq_true rfl) dX4_size_33 ⟨Nat.le_of_ble_eq_true rfl, Nat.le_of_ble_eq_true rfl⟩ (fun r_33 u_33 h_33 => ?_)
      obtain ⟨e8_33, e9_33⟩ := h_33
      rw [e8_33, e9_33]
      exact x_iret  C dX4_size_36 ⟨Nat.le_of_ble_eq_true rfl, Nat.le_of_ble_eq_true rfl⟩ ⟨fun h9 => absurd (cod0 c_23) h9, fun _ => ⟨rfl, rfl⟩⟩
    refine x_iconst (v := 0) C dX4_size_26 (by decide) ?_
    refine x_goto C 36 dX4_size_27 (by decide) ?_
    exact x_iret  C dX4_size_36 ⟨Nat.le_of_ble_eq_true rfl, Nat.le_of_ble_eq_true rfl⟩ ⟨fun _ => ⟨rfl, rfl⟩, fun h9 => absurd h9 (cod1 c_23)⟩
  refine x_if_eq C 19 dX4_size_5 (by decide) (fun c_5 => ?_) (fun c_5 => ?_)
  · refine x_iconst (v := 1) C dX4_size_19 (by decide) ?_
    exact j_20 _ (by (try simp only [b2i_0, Bool.not_eq_false] at c_5); simp [codeSize, c_5])
  refine x_iload_n (i := 2) C dX4_size_8 rfl rfl ?_
  refine x_callSi C hE (k_X4_isVersion l D _ A _ _) (va_cwS 1 C.2.2.2.2.1 gX4_size_X4_isVersion rfl rfl rfl (by decide +kernel) ⟨Nat.le_of_ble_eq_true rfl, Nat.le_of_ble_eq_true rfl⟩)  rfl rfl (Nat.le_of_ble_eq_true rfl) dX4_size_9 ⟨Nat.le_of_ble_eq_true rfl, Nat.le_of_ble_eq_true rfl⟩ (fun r_9 u_9 h_9 => ?_)
  subst h_9
  refine x_if_eq C 19 dX4_size_12 (by decide) (fun c_12 => ?_) (fun c_12 => ?_)
  · refine x_iconst (v := 1) C dX4_size_19 (by decide) ?_
    exact j_20 _ (by (try simp only [b2i_0, Bool.not_eq_false] at c_5 c_12); simp [codeSize, c_5, c_12])
  refine x_iconst (v := 0) C dX4_size_15 (by decide) ?_
  refine x_goto C 20 dX4_size_16 (by decide) ?_
  exact j_20 _ (by (try simp only [b2i_0, Bool.not_eq_false] at c_5 c_12); simp [codeSize, c_5, c_12])
def rmX4_sizeByWays : Room := { frames := 3, cells := 0, slots := 0, locals := 64 }
set_option maxHeartbeats 4000000 in
set_option maxRecDepth 100000 in
theorem k_X4_sizeByWays (l : Launch) (D : va_G) (cy : Nat → ClassId) (b : Nat → Nat) (A : Nat → Prop) (X : va_W) (V : XV) (f t : Int32)  : Met l yX4_sizeByWays wsX4_sizeByWays rmX4_sizeByWays (va_Pc [.ref (b 0), .int f, .int t] (xPre D (tyC cy) A (mW cy b X V))) (va_Qi (fun (r : Int32) (u : XV) => (¬ codeSize f t = 0 → r = 0 ∧ u = xs V 0 0 (codeSize f t)) ∧ (codeSize f t = 0 → r = szI (xs V 0 0 (codeSize f t)) f t ∧ u = szV (xs V 0 0 (codeSize f t)) f)) (fun u t => xPost D (tyC cy) A (mW cy b X u) t) A) 0 0 A := by
  refine x_met (own := RX4) (by decide) rfl rfl (Nat.le_of_ble_eq_true rfl) rfl ?_
  intro p e s m below meth c hnm C hE
  refine x_aload_n (i := 0) C dX4_sizeByWays_0 rfl rfl ?_
  refine x_iload_n (i := 1) C dX4_sizeByWays_1 rfl rfl ?_
  refine x_iload_n (i := 2) C dX4_sizeByWays_2 rfl rfl ?_
  refine x_callVi C hE (k_X4_size l D cy b A X _ _ _) (cwV 2 C.2.2.2.2.1 gX4_sizeByWays_X4_size rfl rfl rfl (by decide +kernel) ⟨Nat.le_of_ble_eq_true rfl, Nat.le_of_ble_eq_true rfl⟩) 0 (mW_M cy b X _) rfl rfl rfl rfl (Nat.le_of_ble_eq_true rfl) dX4_sizeByWays_3 ⟨Nat.le_of_ble_eq_true rfl, Nat.le_of_ble_eq_true rfl⟩ (fun r_3 u_3 h_3 => ?_)
  skip
  exact x_iret  C dX4_sizeByWays_6 ⟨Nat.le_of_ble_eq_true rfl, Nat.le_of_ble_eq_true rfl⟩ h_3
theorem codeAdd_n {V : XV} {k v : Int32} {n : Nat} (h : codeAdd V k v = 0) (hn : V 0 6 = nI n) (hn10 : n ≤ 10) : n < 10 := by
  have h2 := (ite_ne (ite_ne h (by decide)).2 (by decide)).1
  simp only [Bool.and_eq_true, Bool.not_eq_true', decide_eq_false_iff_not] at h2
  rcases Nat.lt_or_ge n 10 with q | q
  · exact q
  · exact absurd (show (10 : Int32) ≤ V 0 6 by rw [hn]; exact nI_le q (by omega)) h2.2.1
theorem hinX4_addDevice_X4 : ∀ w ∈ wsX40, w ∈ wsX4_addDevice := by decide +kernel
def rmX4_addDevice : Room := { frames := 2, cells := 0, slots := 0, locals := 42 }
set_option maxHeartbeats 4000000 in
set_option maxRecDepth 100000 in
theorem k_X4_addDevice (l : Launch) (D : va_G) (cy : Nat → ClassId) (b : Nat → Nat) (A : Nat → Prop) (X : va_W) (V : XV) (k v : Int32) {n : Nat} (hn : V 0 6 = nI n) (hn10 : n ≤ 10) : Met l yX4_addDevice wsX4_addDevice rmX4_addDevice (va_Pc [.ref (b 0), .int k, .int v] (xPre D (tyC cy) A (mW cy b X V))) (va_Qi (fun (r : Int32) (u : XV) => (¬ codeAdd V k v = 0 → r = 0 ∧ u = xs V 0 0 (codeAdd V k v)) ∧ (codeAdd V k v = 0 → r = addM (xs V 0 0 (codeAdd V k v)) n k v 0 6 - 1 ∧ u = addM (xs V 0 0 (codeAdd V k v)) n k v)) (fun u t => xPost D (tyC cy) A (mW cy b X u) t) A) 0 0 A := by
  refine x_met (own := RX4) (by decide) rfl rfl (Nat.le_of_ble_eq_true rfl) rfl ?_
  intro p e s m below meth c hnm C hE
  refine x_iload_n (i := 1) C dX4_addDevice_0 rfl rfl ?_
  refine x_iconst (v := 0) C dX4_addDevice_1 (by decide) ?_
  refine x_iconst (v := 3) C dX4_addDevice_2 (by decide) ?_
  refine x_callSi C hE (k_X4_in l D _ A _ _ _ _) (va_cwS 3 C.2.2.2.2.1 gX4_addDevice_X4_in rfl rfl rfl (by decide +kernel) ⟨Nat.le_of_ble_eq_true rfl, Nat.le_of_ble_eq_true rfl⟩)  rfl rfl (Nat.le_of_ble_eq_true rfl) dX4_addDevice_3 ⟨Nat.le_of_ble_eq_true rfl, Nat.le_of_ble_eq_true rfl⟩ (fun r_3 u_3 h_3 => ?_)
  subst h_3
  refine x_join (J := 21) (st' := []) (fun z => z = b2i (inB k 0 3 && inB v 0 7)) (fun w_21 e_21 => ?_) (fun j_21 => ?_)
  · subst e_21
    refine x_istore_n (i := 3) C dX4_addDevice_21 rfl (by decide) ?_
    refine x_iload_n (i := 3) C dX4_addDevice_22 rfl rfl ?_
    refine x_join (J := 54) (st' := []) (fun z => z = b2i ((inB k 0 3 && inB v 0 7) && (!decide (10 ≤ V 0 6) && hasB (V 1 v.toNatClampNeg) k))) (fun w_54 e_54 => ?_) (fun j_54 => ?_)
    · subst e_54
      refine x_istore (i := 4) C dX4_addDevice_54 (by decide) ?_
      refine x_aload_n (i := 0) C dX4_addDevice_56 rfl rfl ?_
      refine x_iload_n (i := 3) C dX4_addDevice_57 rfl rfl ?_
      refine x_join (J := 75) (st' := [.ref (b 0)]) (fun z => z = codeAdd V k v) (fun w_75 e_75 => ?_) (fun j_75 => ?_)
      · subst e_75
        refine x_callVi C hE (k_X4_refused l D cy b A X _ _) (cwV 1 C.2.2.2.2.1 gX4_addDevice_X4_refused rfl rfl rfl (by decide +kernel) ⟨Nat.le_of_ble_eq_true rfl, Nat.le_of_ble_eq_true rfl⟩) 0 (mW_M cy b X _) rfl rfl rfl rfl (Nat.le_of_ble_eq_true rfl) dX4_addDevice_75 ⟨Nat.le_of_ble_eq_true rfl, Nat.le_of_ble_eq_true rfl⟩ (fun r_75 u_75 h_75 => ?_)
        obtain ⟨e8_75, e9_75⟩ := h_75
        rw [e8_75, e9_75]
        refine x_if_eq C 83 dX4_addDevice_78 (by decide) (fun c_78 => ?_) (fun c_78 => ?_)
        · refine x_aload_n (i := 0) C dX4_addDevice_83 rfl rfl ?_
          have z9 := cod0 c_78
          have hn9 : n < 10 := codeAdd_n z9 hn hn10
          refine x_getMr C 7 5 (fun _ _ => rfl) (by decide) hinX4_addDevice_X4 (by decide +kernel) dX4_addDevice_84 ?_
          refine x_aload_n (i := 0) C dX4_addDevice_87 rfl rfl ?_
          refine x_getM C 6 mI_6 hinX4_addDevice_X4 (by decide +kernel) dX4_addDevice_88 ?_
          refine x_iload_n (i := 1) C dX4_addDevice_91 rfl rfl ?_
          refine x_iastM C (by decide) (vp_eq (show _ = nI n by simp [xs_eq, hn]) hn9 (by decide)) (cl_eq (show _ = nI n by simp [xs_eq, hn]) (by omega)) dX4_addDevice_92 ?_
          refine x_aload_n (i := 0) C dX4_addDevice_93 rfl rfl ?_
          refine x_getMr C 8 6 (fun _ _ => rfl) (by decide) hinX4_addDevice_X4 (by decide +kernel) dX4_addDevice_94 ?_
          refine x_aload_n (i := 0) C dX4_addDevice_97 rfl rfl ?_
          refine x_getM C 6 mI_6 hinX4_addDevice_X4 (by decide +kernel) dX4_addDevice_98 ?_
          refine x_iload_n (i := 2) C dX4_addDevice_101 rfl rfl ?_
          refine x_iastM C (by decide) (vp_eq (show _ = nI n by simp [xs_eq, hn]) hn9 (by decide)) (cl_eq (show _ = nI n by simp [xs_eq, hn]) (by omega)) dX4_addDevice_102 ?_
          refine x_aload_n (i := 0) C dX4_addDevice_103 rfl rfl ?_
          refine x_getMr C 9 7 (fun _ _ => rfl) (by decide) hinX4_addDevice_X4 (by decide +kernel) dX4_addDevice_104 ?_
          refine x_aload_n (i := 0) C dX4_addDevice_107 rfl rfl ?_
          refine x_getM C 6 mI_6 hinX4_addDevice_X4 (by decide +kernel) dX4_addDevice_108 ?_
          refine x_bipush (v := 100) C dX4_addDevice_111 (by decide) ?_
          refine x_iastM C (by decide) (vp_eq (show _ = nI n by simp [xs_eq, hn]) hn9 (by decide)) (cl_eq (show _ = nI n by simp [xs_eq, hn]) (by omega)) dX4_addDevice_113 ?_
          refine x_aload_n (i := 0) C dX4_addDevice_114 rfl rfl ?_
          refine x_getMr C 10 8 (fun _ _ => rfl) (by decide) hinX4_addDevice_X4 (by decide +kernel) dX4_addDevice_115 ?_
          refine x_aload_n (i := 0) C dX4_addDevice_118 rfl rfl ?_
          refine x_getM C 6 mI_6 hinX4_addDevice_X4 (by decide +kernel) dX4_addDevice_119 ?_
          refine x_iconst (v := 0) C dX4_addDevice_122 (by decide) ?_
          refine x_iastM C (by decide) (vp_eq (show _ = nI n by simp [xs_eq, hn]) hn9 (by decide)) (cl_eq (show _ = nI n by simp [xs_eq, hn]) (by omega)) dX4_addDevice_123 ?_
          refine x_aload_n (i := 0) C dX4_addDevice_124 rfl rfl ?_
          refine x_getMr C 11 9 (fun _ _ => rfl) (by decide) hinX4_addDevice_X4 (by decide +kernel) dX4_addDevice_125 ?_
          refine x_aload_n (i := 0) C dX4_addDevice_128 rfl rfl ?_
          refine x_getM C 6 mI_6 hinX4_addDevice_X4 (by decide +kernel) dX4_addDevice_129 ?_
          refine x_bipush (v := 23) C dX4_addDevice_132 (by decide) ?_
          refine x_iastM C (by decide) (vp_eq (show _ = nI n by simp [xs_eq, hn]) hn9 (by decide)) (cl_eq (show _ = nI n by simp [xs_eq, hn]) (by omega)) dX4_addDevice_134 ?_
          refine x_aload_n (i := 0) C dX4_addDevice_135 rfl rfl ?_
          refine x_getMr C 13 11 (fun _ _ => rfl) (by decide) hinX4_addDevice_X4 (by decide +kernel) dX4_addDevice_136 ?_
          refine x_aload_n (i := 0) C dX4_addDevice_139 rfl rfl ?_
          refine x_getM C 6 mI_6 hinX4_addDevice_X4 (by decide +kernel) dX4_addDevice_140 ?_
          refine x_iconst (v := (-1)) C dX4_addDevice_143 (by decide) ?_
          refine x_iastM C (by decide) (vp_eq (show _ = nI n by simp [xs_eq, hn]) hn9 (by decide)) (cl_eq (show _ = nI n by simp [xs_eq, hn]) (by omega)) dX4_addDevice_144 ?_
          refine x_aload_n (i := 0) C dX4_addDevice_145 rfl rfl ?_
          refine x_dup C dX4_addDevice_146 rfl ?_
          refine x_getM C 6 mI_6 hinX4_addDevice_X4 (by decide +kernel) dX4_addDevice_147 ?_
          refine x_iconst (v := 1) C dX4_addDevice_150 (by decide) ?_
          refine x_iadd C dX4_addDevice_151 ?_
          refine x_putM C 6 mI_6 hinX4_addDevice_X4 (by decide +kernel) dX4_addDevice_152 ?_
          refine x_aload_n (i := 0) C dX4_addDevice_155 rfl rfl ?_
          refine x_getM C 6 mI_6 hinX4_addDevice_X4 (by decide +kernel) dX4_addDevice_156 ?_
          refine x_iconst (v := 1) C dX4_addDevice_159 (by decide) ?_
          refine x_isub C dX4_addDevice_160 ?_
          exact x_iret  C dX4_addDevice_161 ⟨Nat.le_of_ble_eq_true rfl, Nat.le_of_ble_eq_true rfl⟩ ⟨fun h9 => absurd (cod0 c_78) h9, fun _ => ⟨rfl, rfl⟩⟩
        refine x_iconst (v := 0) C dX4_addDevice_81 (by decide) ?_
        exact x_iret  C dX4_addDevice_82 ⟨Nat.le_of_ble_eq_true rfl, Nat.le_of_ble_eq_true rfl⟩ ⟨fun _ => ⟨rfl, rfl⟩, fun h9 => absurd h9 (cod1 c_78)⟩
      refine x_if_ne C 65 dX4_addDevice_58 (by decide) (fun c_58 => ?_) (fun c_58 => ?_)
      · refine x_iload (i := 4) C dX4_addDevice_65 rfl ?_
        refine x_if_eq C 74 dX4_addDevice_67 (by decide) (fun c_67 => ?_) (fun c_67 => ?_)
        · refine x_iconst (v := 2) C dX4_addDevice_74 (by decide) ?_
          exact j_75 _ ((if_pos (b2i_n0 c_58)).trans (if_neg (b2i_z c_67))).symm
        refine x_iconst (v := 0) C dX4_addDevice_70 (by decide) ?_
        refine x_goto C 75 dX4_addDevice_71 (by decide) ?_
        exact j_75 _ ((if_pos (b2i_n0 c_58)).trans (if_pos (b2i_n0 c_67))).symm
      refine x_iconst (v := 1) C dX4_addDevice_61 (by decide) ?_
      refine x_goto C 75 dX4_addDevice_62 (by decide) ?_
      exact j_75 _ (if_neg (b2i_z c_58)).symm
    refine x_if_eq C 53 dX4_addDevice_23 (by decide) (fun c_23 => ?_) (fun c_23 => ?_)
    · refine x_iconst (v := 0) C dX4_addDevice_53 (by decide) ?_
      exact j_54 _ (by (try simp only [b2i_0, Bool.not_eq_false] at c_23); simp [b2i, hasB, c_23])
    refine x_aload_n (i := 0) C dX4_addDevice_26 rfl rfl ?_
    refine x_getM C 6 mI_6 hinX4_addDevice_X4 (by decide +kernel) dX4_addDevice_27 ?_
    refine x_bipush (v := 10) C dX4_addDevice_30 (by decide) ?_
    refine x_icmp_ge C 53 dX4_addDevice_32 (by decide) (fun c_32 => ?_) (fun c_32 => ?_)
    · refine x_iconst (v := 0) C dX4_addDevice_53 (by decide) ?_
      exact j_54 _ (by (try simp only [b2i_0, Bool.not_eq_false] at c_23 c_32); simp [b2i, hasB, c_23, c_32])
    refine x_aload_n (i := 0) C dX4_addDevice_35 rfl rfl ?_
    refine x_getMr C 2 1 (fun _ _ => rfl) (by decide) hinX4_addDevice_X4 (by decide +kernel) dX4_addDevice_36 ?_
    refine x_iload_n (i := 2) C dX4_addDevice_39 rfl rfl ?_
    refine x_ialdM C (by decide) (inB_7 (by have h9 := b2i_n0 c_23; simp only [Bool.and_eq_true] at h9; exact h9.2)) rfl dX4_addDevice_40 ?_
    refine x_iload_n (i := 1) C dX4_addDevice_41 rfl rfl ?_
    refine x_ishr C dX4_addDevice_42 ?_
    refine x_iconst (v := 1) C dX4_addDevice_43 (by decide) ?_
    refine x_iand C dX4_addDevice_44 ?_
    refine x_iconst (v := 1) C dX4_addDevice_45 (by decide) ?_
    refine x_icmp_ne C 53 dX4_addDevice_46 (by decide) (fun c_46 => ?_) (fun c_46 => ?_)
    · refine x_iconst (v := 0) C dX4_addDevice_53 (by decide) ?_
      exact j_54 _ (by (try simp only [b2i_0, Bool.not_eq_false] at c_23 c_32 c_46); simp [b2i, hasB, c_23, c_32, c_46])
    refine x_iconst (v := 1) C dX4_addDevice_49 (by decide) ?_
    refine x_goto C 54 dX4_addDevice_50 (by decide) ?_
    exact j_54 _ (by (try simp only [b2i_0, Bool.not_eq_false] at c_23 c_32 c_46); simp [b2i, hasB, c_23, c_32, c_46])
  refine x_if_eq C 20 dX4_addDevice_6 (by decide) (fun c_6 => ?_) (fun c_6 => ?_)
  · refine x_iconst (v := 0) C dX4_addDevice_20 (by decide) ?_
    exact j_21 _ (by (try simp only [b2i_0, Bool.not_eq_false] at c_6); simp [b2i, c_6])
  refine x_iload_n (i := 2) C dX4_addDevice_9 rfl rfl ?_
  refine x_callSi C hE (k_X4_isVersion l D _ A _ _) (va_cwS 1 C.2.2.2.2.1 gX4_addDevice_X4_isVersion rfl rfl rfl (by decide +kernel) ⟨Nat.le_of_ble_eq_true rfl, Nat.le_of_ble_eq_true rfl⟩)  rfl rfl (Nat.le_of_ble_eq_true rfl) dX4_addDevice_10 ⟨Nat.le_of_ble_eq_true rfl, Nat.le_of_ble_eq_true rfl⟩ (fun r_10 u_10 h_10 => ?_)
  subst h_10
  refine x_if_eq C 20 dX4_addDevice_13 (by decide) (fun c_13 => ?_) (fun c_13 => ?_)
  · refine x_iconst (v := 0) C dX4_addDevice_20 (by decide) ?_
    exact j_21 _ (by (try simp only [b2i_0, Bool.not_eq_false] at c_6 c_13); simp [b2i, c_6, c_13])
  refine x_iconst (v := 1) C dX4_addDevice_16 (by decide) ?_
  refine x_goto C 21 dX4_addDevice_17 (by decide) ?_
  exact j_21 _ (by (try simp only [b2i_0, Bool.not_eq_false] at c_6 c_13); simp [b2i, c_6, c_13])
theorem hinX4_charge_X4 : ∀ w ∈ wsX40, w ∈ wsX4_charge := by decide +kernel
def rmX4_charge : Room := { frames := 2, cells := 0, slots := 0, locals := 43 }
set_option maxHeartbeats 4000000 in
set_option maxRecDepth 100000 in
theorem k_X4_charge (l : Launch) (D : va_G) (cy : Nat → ClassId) (b : Nat → Nat) (A : Nat → Prop) (X : va_W) (V : XV) (d z9 : Int32) {n : Nat} (hn : V 0 6 = nI n) (hn10 : n ≤ 10) : Met l yX4_charge wsX4_charge rmX4_charge (va_Pc [.ref (b 0), .int d, .int z9] (xPre D (tyC cy) A (mW cy b X V))) (va_Qi (fun (r : Int32) (u : XV) => (¬ codeCharge V d z9 = 0 → r = 0 ∧ u = xs V 0 0 (codeCharge V d z9)) ∧ (codeCharge V d z9 = 0 → r = V 7 d.toNatClampNeg ∧ u = xs (xs V 0 0 (codeCharge V d z9)) 7 d.toNatClampNeg z9)) (fun u t => xPost D (tyC cy) A (mW cy b X u) t) A) 0 0 A := by
  refine x_met (own := RX4) (by decide) rfl rfl (Nat.le_of_ble_eq_true rfl) rfl ?_
  intro p e s m below meth c hnm C hE
  refine x_aload_n (i := 0) C dX4_charge_0 rfl rfl ?_
  refine x_aload_n (i := 0) C dX4_charge_1 rfl rfl ?_
  refine x_iload_n (i := 1) C dX4_charge_2 rfl rfl ?_
  refine x_callVi C hE (k_X4_isDevice l D cy b A X _ _) (cwV 1 C.2.2.2.2.1 gX4_charge_X4_isDevice rfl rfl rfl (by decide +kernel) ⟨Nat.le_of_ble_eq_true rfl, Nat.le_of_ble_eq_true rfl⟩) 0 (mW_M cy b X _) rfl rfl rfl rfl (Nat.le_of_ble_eq_true rfl) dX4_charge_3 ⟨Nat.le_of_ble_eq_true rfl, Nat.le_of_ble_eq_true rfl⟩ (fun r_3 u_3 h_3 => ?_)
  obtain ⟨e8_3, e9_3⟩ := h_3
  rw [e8_3, e9_3]
  refine x_join (J := 28) (st' := [.ref (b 0)]) (fun z => z = codeCharge V d z9) (fun w_28 e_28 => ?_) (fun j_28 => ?_)
  · subst e_28
    refine x_callVi C hE (k_X4_refused l D cy b A X _ _) (cwV 1 C.2.2.2.2.1 gX4_charge_X4_refused rfl rfl rfl (by decide +kernel) ⟨Nat.le_of_ble_eq_true rfl, Nat.le_of_ble_eq_true rfl⟩) 0 (mW_M cy b X _) rfl rfl rfl rfl (Nat.le_of_ble_eq_true rfl) dX4_charge_28 ⟨Nat.le_of_ble_eq_true rfl, Nat.le_of_ble_eq_true rfl⟩ (fun r_28 u_28 h_28 => ?_)
    obtain ⟨e8_28, e9_28⟩ := h_28
    rw [e8_28, e9_28]
    refine x_if_eq C 36 dX4_charge_31 (by decide) (fun c_31 => ?_) (fun c_31 => ?_)
    · refine x_aload_n (i := 0) C dX4_charge_36 rfl rfl ?_
      refine x_getMr C 9 7 (fun _ _ => rfl) (by decide) hinX4_charge_X4 (by decide +kernel) dX4_charge_37 ?_
      refine x_iload_n (i := 1) C dX4_charge_40 rfl rfl ?_
      refine x_ialdM C (by decide) (codeCharge_in (cod0 c_31) hn hn10) rfl dX4_charge_41 ?_
      refine x_istore_n (i := 3) C dX4_charge_42 rfl (by decide) ?_
      refine x_aload_n (i := 0) C dX4_charge_43 rfl rfl ?_
      refine x_getMr C 9 7 (fun _ _ => rfl) (by decide) hinX4_charge_X4 (by decide +kernel) dX4_charge_44 ?_
      refine x_iload_n (i := 1) C dX4_charge_47 rfl rfl ?_
      refine x_iload_n (i := 2) C dX4_charge_48 rfl rfl ?_
      refine x_iastM C (by decide) (codeCharge_in (cod0 c_31) hn hn10) rfl dX4_charge_49 ?_
      refine x_iload_n (i := 3) C dX4_charge_50 rfl rfl ?_
      exact x_iret  C dX4_charge_51 ⟨Nat.le_of_ble_eq_true rfl, Nat.le_of_ble_eq_true rfl⟩ ⟨fun h9 => absurd (cod0 c_31) h9, fun _ => ⟨rfl, rfl⟩⟩
    refine x_iconst (v := 0) C dX4_charge_34 (by decide) ?_
    exact x_iret  C dX4_charge_35 ⟨Nat.le_of_ble_eq_true rfl, Nat.le_of_ble_eq_true rfl⟩ ⟨fun _ => ⟨rfl, rfl⟩, fun h9 => absurd h9 (cod1 c_31)⟩
  refine x_if_ne C 13 dX4_charge_6 (by decide) (fun c_6 => ?_) (fun c_6 => ?_)
  · refine x_iload_n (i := 2) C dX4_charge_13 rfl rfl ?_
    refine x_iconst (v := 0) C dX4_charge_14 (by decide) ?_
    refine x_bipush (v := 100) C dX4_charge_15 (by decide) ?_
    refine x_callSi C hE (k_X4_in l D _ A _ _ _ _) (va_cwS 3 C.2.2.2.2.1 gX4_charge_X4_in rfl rfl rfl (by decide +kernel) ⟨Nat.le_of_ble_eq_true rfl, Nat.le_of_ble_eq_true rfl⟩)  rfl rfl (Nat.le_of_ble_eq_true rfl) dX4_charge_17 ⟨Nat.le_of_ble_eq_true rfl, Nat.le_of_ble_eq_true rfl⟩ (fun r_17 u_17 h_17 => ?_)
    subst h_17
    refine x_if_eq C 27 dX4_charge_20 (by decide) (fun c_20 => ?_) (fun c_20 => ?_)
    · refine x_iconst (v := 2) C dX4_charge_27 (by decide) ?_
      exact j_28 _ (by (try simp only [b2i_0, Bool.not_eq_false] at c_6 c_20); simp [codeCharge, c_6, c_20])
    refine x_iconst (v := 0) C dX4_charge_23 (by decide) ?_
    refine x_goto C 28 dX4_charge_24 (by decide) ?_
    exact j_28 _ (by (try simp only [b2i_0, Bool.not_eq_false] at c_6 c_20); simp [codeCharge, c_6, c_20])
  refine x_iconst (v := 1) C dX4_charge_9 (by decide) ?_
  refine x_goto C 28 dX4_charge_10 (by decide) ?_
  exact j_28 _ (by (try simp only [b2i_0, Bool.not_eq_false] at c_6); simp [codeCharge, c_6])
theorem hinX4_setWindow_X4 : ∀ w ∈ wsX40, w ∈ wsX4_setWindow := by decide +kernel
def rmX4_setWindow : Room := { frames := 2, cells := 0, slots := 0, locals := 43 }
set_option maxHeartbeats 4000000 in
set_option maxRecDepth 100000 in
theorem k_X4_setWindow (l : Launch) (D : va_G) (cy : Nat → ClassId) (b : Nat → Nat) (A : Nat → Prop) (X : va_W) (V : XV) (d f t : Int32) {n : Nat} (hn : V 0 6 = nI n) (hn10 : n ≤ 10) : Met l yX4_setWindow wsX4_setWindow rmX4_setWindow (va_Pc [.ref (b 0), .int d, .int f, .int t] (xPre D (tyC cy) A (mW cy b X V))) (va_Qv (fun (u : XV) => (¬ codeWindow V d f t = 0 → u = xs V 0 0 (codeWindow V d f t)) ∧ (codeWindow V d f t = 0 → u = xs (xs (xs V 0 0 (codeWindow V d f t)) 8 d.toNatClampNeg f) 9 d.toNatClampNeg t)) (fun u t => xPost D (tyC cy) A (mW cy b X u) t) A) 0 0 A := by
  refine x_met (own := RX4) (by decide) rfl rfl (Nat.le_of_ble_eq_true rfl) rfl ?_
  intro p e s m below meth c hnm C hE
  refine x_aload_n (i := 0) C dX4_setWindow_0 rfl rfl ?_
  refine x_aload_n (i := 0) C dX4_setWindow_1 rfl rfl ?_
  refine x_iload_n (i := 1) C dX4_setWindow_2 rfl rfl ?_
  refine x_callVi C hE (k_X4_isDevice l D cy b A X _ _) (cwV 1 C.2.2.2.2.1 gX4_setWindow_X4_isDevice rfl rfl rfl (by decide +kernel) ⟨Nat.le_of_ble_eq_true rfl, Nat.le_of_ble_eq_true rfl⟩) 0 (mW_M cy b X _) rfl rfl rfl rfl (Nat.le_of_ble_eq_true rfl) dX4_setWindow_3 ⟨Nat.le_of_ble_eq_true rfl, Nat.le_of_ble_eq_true rfl⟩ (fun r_3 u_3 h_3 => ?_)
  obtain ⟨e8_3, e9_3⟩ := h_3
  rw [e8_3, e9_3]
  refine x_join (J := 38) (st' := [.ref (b 0)]) (fun z => z = codeWindow V d f t) (fun w_38 e_38 => ?_) (fun j_38 => ?_)
  · subst e_38
    refine x_callVi C hE (k_X4_refused l D cy b A X _ _) (cwV 1 C.2.2.2.2.1 gX4_setWindow_X4_refused rfl rfl rfl (by decide +kernel) ⟨Nat.le_of_ble_eq_true rfl, Nat.le_of_ble_eq_true rfl⟩) 0 (mW_M cy b X _) rfl rfl rfl rfl (Nat.le_of_ble_eq_true rfl) dX4_setWindow_38 ⟨Nat.le_of_ble_eq_true rfl, Nat.le_of_ble_eq_true rfl⟩ (fun r_38 u_38 h_38 => ?_)
    obtain ⟨e8_38, e9_38⟩ := h_38
    rw [e8_38, e9_38]
    refine x_if_ne C 58 dX4_setWindow_41 (by decide) (fun c_41 => ?_) (fun c_41 => ?_)
    · exact x_vret  C dX4_setWindow_58 ⟨Nat.le_of_ble_eq_true rfl, Nat.le_of_ble_eq_true rfl⟩ ⟨fun _ => rfl, fun h9 => absurd h9 (cod1 c_41)⟩
    refine x_aload_n (i := 0) C dX4_setWindow_44 rfl rfl ?_
    refine x_getMr C 10 8 (fun _ _ => rfl) (by decide) hinX4_setWindow_X4 (by decide +kernel) dX4_setWindow_45 ?_
    refine x_iload_n (i := 1) C dX4_setWindow_48 rfl rfl ?_
    refine x_iload_n (i := 2) C dX4_setWindow_49 rfl rfl ?_
    refine x_iastM C (by decide) (codeWindow_in (cod0 c_41) hn hn10) rfl dX4_setWindow_50 ?_
    refine x_aload_n (i := 0) C dX4_setWindow_51 rfl rfl ?_
    refine x_getMr C 11 9 (fun _ _ => rfl) (by decide) hinX4_setWindow_X4 (by decide +kernel) dX4_setWindow_52 ?_
    refine x_iload_n (i := 1) C dX4_setWindow_55 rfl rfl ?_
    refine x_iload_n (i := 3) C dX4_setWindow_56 rfl rfl ?_
    refine x_iastM C (by decide) (codeWindow_in (cod0 c_41) hn hn10) rfl dX4_setWindow_57 ?_
    exact x_vret  C dX4_setWindow_58 ⟨Nat.le_of_ble_eq_true rfl, Nat.le_of_ble_eq_true rfl⟩ ⟨fun h9 => absurd (cod0 c_41) h9, fun _ => rfl⟩
  refine x_if_ne C 13 dX4_setWindow_6 (by decide) (fun c_6 => ?_) (fun c_6 => ?_)
  · refine x_iload_n (i := 2) C dX4_setWindow_13 rfl rfl ?_
    refine x_iconst (v := 0) C dX4_setWindow_14 (by decide) ?_
    refine x_bipush (v := 23) C dX4_setWindow_15 (by decide) ?_
    refine x_callSi C hE (k_X4_in l D _ A _ _ _ _) (va_cwS 3 C.2.2.2.2.1 gX4_setWindow_X4_in rfl rfl rfl (by decide +kernel) ⟨Nat.le_of_ble_eq_true rfl, Nat.le_of_ble_eq_true rfl⟩)  rfl rfl (Nat.le_of_ble_eq_true rfl) dX4_setWindow_17 ⟨Nat.le_of_ble_eq_true rfl, Nat.le_of_ble_eq_true rfl⟩ (fun r_17 u_17 h_17 => ?_)
    subst h_17
    refine x_if_eq C 37 dX4_setWindow_20 (by decide) (fun c_20 => ?_) (fun c_20 => ?_)
    · refine x_iconst (v := 2) C dX4_setWindow_37 (by decide) ?_
      exact j_38 _ (by (try simp only [b2i_0, Bool.not_eq_false] at c_6 c_20); simp [codeWindow, c_6, c_20])
    refine x_iload_n (i := 3) C dX4_setWindow_23 rfl rfl ?_
    refine x_iconst (v := 0) C dX4_setWindow_24 (by decide) ?_
    refine x_bipush (v := 23) C dX4_setWindow_25 (by decide) ?_
    refine x_callSi C hE (k_X4_in l D _ A _ _ _ _) (va_cwS 3 C.2.2.2.2.1 gX4_setWindow_X4_in rfl rfl rfl (by decide +kernel) ⟨Nat.le_of_ble_eq_true rfl, Nat.le_of_ble_eq_true rfl⟩)  rfl rfl (Nat.le_of_ble_eq_true rfl) dX4_setWindow_27 ⟨Nat.le_of_ble_eq_true rfl, Nat.le_of_ble_eq_true rfl⟩ (fun r_27 u_27 h_27 => ?_)
    subst h_27
    refine x_if_eq C 37 dX4_setWindow_30 (by decide) (fun c_30 => ?_) (fun c_30 => ?_)
    · refine x_iconst (v := 2) C dX4_setWindow_37 (by decide) ?_
      exact j_38 _ (by (try simp only [b2i_0, Bool.not_eq_false] at c_6 c_20 c_30); simp [codeWindow, c_6, c_20, c_30])
    refine x_iconst (v := 0) C dX4_setWindow_33 (by decide) ?_
    refine x_goto C 38 dX4_setWindow_34 (by decide) ?_
    exact j_38 _ (by (try simp only [b2i_0, Bool.not_eq_false] at c_6 c_20 c_30); simp [codeWindow, c_6, c_20, c_30])
  refine x_iconst (v := 1) C dX4_setWindow_9 (by decide) ?_
  refine x_goto C 38 dX4_setWindow_10 (by decide) ?_
  exact j_38 _ (by (try simp only [b2i_0, Bool.not_eq_false] at c_6); simp [codeWindow, c_6])
theorem hinX4_judge_X4 : ∀ w ∈ wsX40, w ∈ wsX4_judge := by decide +kernel
def rmX4_judge : Room := { frames := 0, cells := 0, slots := 0, locals := 0 }
set_option maxHeartbeats 4000000 in
set_option maxRecDepth 100000 in
theorem k_X4_judge (l : Launch) (D : va_G) (cy : Nat → ClassId) (b : Nat → Nat) (A : Nat → Prop) (X : va_W) (V : XV) (q : Int32) (hq : vp_in q 6) : Met l yX4_judge wsX4_judge rmX4_judge (va_Pc [.ref (b 0), .int q] (xPre D (tyC cy) A (mW cy b X V))) (va_Qv (fun (u : XV) => u = judgeM V q.toNatClampNeg) (fun u t => xPost D (tyC cy) A (mW cy b X u) t) A) 0 0 A := by
  refine x_met (own := RX4) (by decide) rfl rfl (Nat.le_of_ble_eq_true rfl) rfl ?_
  intro p e s m below meth c hnm C hE
  refine x_aload_n (i := 0) C dX4_judge_0 rfl rfl ?_
  refine x_getMr C 19 16 (fun _ _ => rfl) (by decide) hinX4_judge_X4 (by decide +kernel) dX4_judge_1 ?_
  refine x_iload_n (i := 1) C dX4_judge_4 rfl rfl ?_
  refine x_zaldM C hq rfl dX4_judge_5 ?_
  refine x_if_eq C 24 dX4_judge_6 (by decide) (fun c_6 => ?_) (fun c_6 => ?_)
  · exact x_vret  C dX4_judge_24 ⟨Nat.le_of_ble_eq_true rfl, Nat.le_of_ble_eq_true rfl⟩ (by unfold judgeM; simp [c_6])
  refine x_aload_n (i := 0) C dX4_judge_9 rfl rfl ?_
  refine x_getMr C 24 21 (fun _ _ => rfl) (by decide) hinX4_judge_X4 (by decide +kernel) dX4_judge_10 ?_
  refine x_iload_n (i := 1) C dX4_judge_13 rfl rfl ?_
  refine x_ialdM C (by decide) hq rfl dX4_judge_14 ?_
  refine x_aload_n (i := 0) C dX4_judge_15 rfl rfl ?_
  refine x_getMr C 22 19 (fun _ _ => rfl) (by decide) hinX4_judge_X4 (by decide +kernel) dX4_judge_16 ?_
  refine x_iload_n (i := 1) C dX4_judge_19 rfl rfl ?_
  refine x_ialdM C (by decide) hq rfl dX4_judge_20 ?_
  refine x_icmp_ge C 25 dX4_judge_21 (by decide) (fun c_21 => ?_) (fun c_21 => ?_)
  · refine x_aload_n (i := 0) C dX4_judge_25 rfl rfl ?_
    refine x_getMr C 25 22 (fun _ _ => rfl) (by decide) hinX4_judge_X4 (by decide +kernel) dX4_judge_26 ?_
    refine x_iload_n (i := 1) C dX4_judge_29 rfl rfl ?_
    refine x_ialdM C (by decide) hq rfl dX4_judge_30 ?_
    refine x_sipush (v := 1000) C dX4_judge_31 (by decide) ?_
    refine x_imul C dX4_judge_34 ?_
    refine x_aload_n (i := 0) C dX4_judge_35 rfl rfl ?_
    refine x_getMr C 24 21 (fun _ _ => rfl) (by decide) hinX4_judge_X4 (by decide +kernel) dX4_judge_36 ?_
    refine x_iload_n (i := 1) C dX4_judge_39 rfl rfl ?_
    refine x_ialdM C (by decide) hq rfl dX4_judge_40 ?_
    refine x_aload_n (i := 0) C dX4_judge_41 rfl rfl ?_
    refine x_getMr C 23 20 (fun _ _ => rfl) (by decide) hinX4_judge_X4 (by decide +kernel) dX4_judge_42 ?_
    refine x_iload_n (i := 1) C dX4_judge_45 rfl rfl ?_
    refine x_ialdM C (by decide) hq rfl dX4_judge_46 ?_
    refine x_imul C dX4_judge_47 ?_
    refine x_icmp_le C 61 dX4_judge_48 (by decide) (fun c_48 => ?_) (fun c_48 => ?_)
    · refine x_aload_n (i := 0) C dX4_judge_61 rfl rfl ?_
      refine x_getMr C 20 17 (fun _ _ => rfl) (by decide) hinX4_judge_X4 (by decide +kernel) dX4_judge_62 ?_
      refine x_iload_n (i := 1) C dX4_judge_65 rfl rfl ?_
      refine x_ialdM C (by decide) (by assumption) rfl dX4_judge_66 ?_
      refine x_iconst (v := 2) C dX4_judge_67 (by decide) ?_
      refine x_icmp_ge C 95 dX4_judge_68 (by decide) (fun c_68 => ?_) (fun c_68 => ?_)
      · exact x_vret  C dX4_judge_95 ⟨Nat.le_of_ble_eq_true rfl, Nat.le_of_ble_eq_true rfl⟩ (by unfold judgeM; simp [c_6, c_21, c_48, c_68])
      refine x_aload_n (i := 0) C dX4_judge_71 rfl rfl ?_
      refine x_getMr C 20 17 (fun _ _ => rfl) (by decide) hinX4_judge_X4 (by decide +kernel) dX4_judge_72 ?_
      refine x_iload_n (i := 1) C dX4_judge_75 rfl rfl ?_
      refine x_dup2_11 C dX4_judge_76 rfl rfl ?_
      refine x_ialdM C (by decide) hq rfl dX4_judge_77 ?_
      refine x_iconst (v := 1) C dX4_judge_78 (by decide) ?_
      refine x_iadd C dX4_judge_79 ?_
      refine x_iastM C (by decide) hq rfl dX4_judge_80 ?_
      refine x_aload_n (i := 0) C dX4_judge_81 rfl rfl ?_
      refine x_getMr C 24 21 (fun _ _ => rfl) (by decide) hinX4_judge_X4 (by decide +kernel) dX4_judge_82 ?_
      refine x_iload_n (i := 1) C dX4_judge_85 rfl rfl ?_
      refine x_iconst (v := 0) C dX4_judge_86 (by decide) ?_
      refine x_iastM C (by decide) hq rfl dX4_judge_87 ?_
      refine x_aload_n (i := 0) C dX4_judge_88 rfl rfl ?_
      refine x_getMr C 25 22 (fun _ _ => rfl) (by decide) hinX4_judge_X4 (by decide +kernel) dX4_judge_89 ?_
      refine x_iload_n (i := 1) C dX4_judge_92 rfl rfl ?_
      refine x_iconst (v := 0) C dX4_judge_93 (by decide) ?_
      refine x_iastM C (by decide) hq rfl dX4_judge_94 ?_
      exact x_vret  C dX4_judge_95 ⟨Nat.le_of_ble_eq_true rfl, Nat.le_of_ble_eq_true rfl⟩ (by unfold judgeM; simp [c_6, c_21, c_48, c_68])
    refine x_aload_n (i := 0) C dX4_judge_51 rfl rfl ?_
    refine x_getMr C 19 16 (fun _ _ => rfl) (by decide) hinX4_judge_X4 (by decide +kernel) dX4_judge_52 ?_
    refine x_iload_n (i := 1) C dX4_judge_55 rfl rfl ?_
    refine x_iconst (v := 0) C dX4_judge_56 (by decide) ?_
    refine x_zastM C hq rfl rfl dX4_judge_57 ?_
    refine x_goto C 95 dX4_judge_58 (by decide) ?_
    exact x_vret  C dX4_judge_95 ⟨Nat.le_of_ble_eq_true rfl, Nat.le_of_ble_eq_true rfl⟩ (by unfold judgeM; simp [c_6, c_21, c_48])
  exact x_vret  C dX4_judge_24 ⟨Nat.le_of_ble_eq_true rfl, Nat.le_of_ble_eq_true rfl⟩ (by unfold judgeM; simp [c_6, c_21])
theorem hinX4_report_X4 : ∀ w ∈ wsX40, w ∈ wsX4_report := by decide +kernel
def rmX4_report : Room := { frames := 2, cells := 0, slots := 0, locals := 43 }
set_option maxHeartbeats 4000000 in
set_option maxRecDepth 100000 in
theorem k_X4_report (l : Launch) (D : va_G) (cy : Nat → ClassId) (b : Nat → Nat) (A : Nat → Prop) (X : va_W) (V : XV) (d z9 : Int32) {n : Nat} (hn : V 0 6 = nI n) (hn10 : n ≤ 10) (hT : vp_in d 10 ∧ V 10 d.toNatClampNeg = 2 → vp_in (V 11 d.toNatClampNeg) 6) : Met l yX4_report wsX4_report rmX4_report (va_Pc [.ref (b 0), .int d, .int z9] (xPre D (tyC cy) A (mW cy b X V))) (va_Qi (fun (r : Int32) (u : XV) => (¬ codeReport V d = 0 → r = 0 ∧ u = xs V 0 0 (codeReport V d)) ∧ (codeReport V d = 0 → r = reportM (xs V 0 0 (codeReport V d)) d.toNatClampNeg (V 11 d.toNatClampNeg).toNatClampNeg d z9 6 d.toNatClampNeg ∧ u = reportM (xs V 0 0 (codeReport V d)) d.toNatClampNeg (V 11 d.toNatClampNeg).toNatClampNeg d z9)) (fun u t => xPost D (tyC cy) A (mW cy b X u) t) A) 0 0 A := by
  refine x_met (own := RX4) (by decide) rfl rfl (Nat.le_of_ble_eq_true rfl) rfl ?_
  intro p e s m below meth c hnm C hE
  refine x_aload_n (i := 0) C dX4_report_0 rfl rfl ?_
  refine x_aload_n (i := 0) C dX4_report_1 rfl rfl ?_
  refine x_iload_n (i := 1) C dX4_report_2 rfl rfl ?_
  refine x_callVi C hE (k_X4_isDevice l D cy b A X _ _) (cwV 1 C.2.2.2.2.1 gX4_report_X4_isDevice rfl rfl rfl (by decide +kernel) ⟨Nat.le_of_ble_eq_true rfl, Nat.le_of_ble_eq_true rfl⟩) 0 (mW_M cy b X _) rfl rfl rfl rfl (Nat.le_of_ble_eq_true rfl) dX4_report_3 ⟨Nat.le_of_ble_eq_true rfl, Nat.le_of_ble_eq_true rfl⟩ (fun r_3 u_3 h_3 => ?_)
  obtain ⟨e8_3, e9_3⟩ := h_3
  rw [e8_3, e9_3]
  refine x_join (J := 28) (st' := [.ref (b 0)]) (fun z => z = codeReport V d) (fun w_28 e_28 => ?_) (fun j_28 => ?_)
  · subst e_28
    refine x_callVi C hE (k_X4_refused l D cy b A X _ _) (cwV 1 C.2.2.2.2.1 gX4_report_X4_refused rfl rfl rfl (by decide +kernel) ⟨Nat.le_of_ble_eq_true rfl, Nat.le_of_ble_eq_true rfl⟩) 0 (mW_M cy b X _) rfl rfl rfl rfl (Nat.le_of_ble_eq_true rfl) dX4_report_28 ⟨Nat.le_of_ble_eq_true rfl, Nat.le_of_ble_eq_true rfl⟩ (fun r_28 u_28 h_28 => ?_)
    obtain ⟨e8_28, e9_28⟩ := h_28
    rw [e8_28, e9_28]
    refine x_if_eq C 36 dX4_report_31 (by decide) (fun c_31 => ?_) (fun c_31 => ?_)
    · have hd9 := (codeReport_in (cod0 c_31) hn hn10).1
      have hc9 := hT (codeReport_in (cod0 c_31) hn hn10)
      refine x_aload_n (i := 0) C dX4_report_36 rfl rfl ?_
      refine x_getMr C 13 11 (fun _ _ => rfl) (by decide) hinX4_report_X4 (by decide +kernel) dX4_report_37 ?_
      refine x_iload_n (i := 1) C dX4_report_40 rfl rfl ?_
      refine x_ialdM C (by decide) hd9 rfl dX4_report_41 ?_
      refine x_istore_n (i := 3) C dX4_report_42 rfl (by decide) ?_
      refine x_aload_n (i := 0) C dX4_report_43 rfl rfl ?_
      refine x_getMr C 8 6 (fun _ _ => rfl) (by decide) hinX4_report_X4 (by decide +kernel) dX4_report_44 ?_
      refine x_iload_n (i := 1) C dX4_report_47 rfl rfl ?_
      refine x_iload_n (i := 2) C dX4_report_48 rfl rfl ?_
      refine x_if_eq C 61 dX4_report_49 (by decide) (fun c_49 => ?_) (fun c_49 => ?_)
      · refine x_aload_n (i := 0) C dX4_report_61 rfl rfl ?_
        refine x_getMr C 8 6 (fun _ _ => rfl) (by decide) hinX4_report_X4 (by decide +kernel) dX4_report_62 ?_
        refine x_iload_n (i := 1) C dX4_report_65 rfl rfl ?_
        refine x_ialdM C (by decide) hd9 rfl dX4_report_66 ?_
        refine x_iastM C (by decide) hd9 rfl dX4_report_67 ?_
        refine x_aload_n (i := 0) C dX4_report_68 rfl rfl ?_
        refine x_getMr C 12 10 (fun _ _ => rfl) (by decide) hinX4_report_X4 (by decide +kernel) dX4_report_69 ?_
        refine x_iload_n (i := 1) C dX4_report_72 rfl rfl ?_
        refine x_iconst (v := 0) C dX4_report_73 (by decide) ?_
        refine x_iastM C (by decide) hd9 rfl dX4_report_74 ?_
        refine x_aload_n (i := 0) C dX4_report_75 rfl rfl ?_
        refine x_getMr C 13 11 (fun _ _ => rfl) (by decide) hinX4_report_X4 (by decide +kernel) dX4_report_76 ?_
        refine x_iload_n (i := 1) C dX4_report_79 rfl rfl ?_
        refine x_iconst (v := (-1)) C dX4_report_80 (by decide) ?_
        refine x_iastM C (by decide) hd9 rfl dX4_report_81 ?_
        refine x_aload_n (i := 0) C dX4_report_82 rfl rfl ?_
        refine x_getMr C 26 23 (fun _ _ => rfl) (by decide) hinX4_report_X4 (by decide +kernel) dX4_report_83 ?_
        refine x_iload_n (i := 3) C dX4_report_86 rfl rfl ?_
        refine x_dup2_11 C dX4_report_87 rfl rfl ?_
        refine x_ialdM C (by decide) hc9 rfl dX4_report_88 ?_
        refine x_iconst (v := 1) C dX4_report_89 (by decide) ?_
        refine x_iload_n (i := 1) C dX4_report_90 rfl rfl ?_
        refine x_ishl C dX4_report_91 ?_
        refine x_ior C dX4_report_92 ?_
        refine x_iastM C (by decide) hc9 rfl dX4_report_93 ?_
        refine x_aload_n (i := 0) C dX4_report_94 rfl rfl ?_
        refine x_getMr C 24 21 (fun _ _ => rfl) (by decide) hinX4_report_X4 (by decide +kernel) dX4_report_95 ?_
        refine x_iload_n (i := 3) C dX4_report_98 rfl rfl ?_
        refine x_dup2_11 C dX4_report_99 rfl rfl ?_
        refine x_ialdM C (by decide) hc9 rfl dX4_report_100 ?_
        refine x_iconst (v := 1) C dX4_report_101 (by decide) ?_
        refine x_iadd C dX4_report_102 ?_
        refine x_iastM C (by decide) hc9 rfl dX4_report_103 ?_
        refine x_aload_n (i := 0) C dX4_report_104 rfl rfl ?_
        refine x_getMr C 25 22 (fun _ _ => rfl) (by decide) hinX4_report_X4 (by decide +kernel) dX4_report_105 ?_
        refine x_iload_n (i := 3) C dX4_report_108 rfl rfl ?_
        refine x_dup2_11 C dX4_report_109 rfl rfl ?_
        refine x_ialdM C (by decide) hc9 rfl dX4_report_110 ?_
        refine x_iload_n (i := 2) C dX4_report_111 rfl rfl ?_
        refine x_if_eq C 119 dX4_report_112 (by decide) (fun c_112 => ?_) (fun c_112 => absurd c_49 c_112)
        refine x_iconst (v := 1) C dX4_report_119 (by decide) ?_
        refine x_iadd C dX4_report_120 ?_
        refine x_iastM C (by decide) hc9 rfl dX4_report_121 ?_
        refine x_aload_n (i := 0) C dX4_report_122 rfl rfl ?_
        refine x_iload_n (i := 3) C dX4_report_123 rfl rfl ?_
        refine x_callVv C hE (k_X4_judge l D cy b A X _ _ hc9) (cwV 1 C.2.2.2.2.1 gX4_report_X4_judge rfl rfl rfl (by decide +kernel) ⟨Nat.le_of_ble_eq_true rfl, Nat.le_of_ble_eq_true rfl⟩) 0 (mW_M cy b X _) rfl rfl rfl rfl (Nat.le_of_ble_eq_true rfl) dX4_report_124 ⟨Nat.le_of_ble_eq_true rfl, Nat.le_of_ble_eq_true rfl⟩ (fun u_124 h_124 => ?_)
        rw [h_124]
        refine x_aload_n (i := 0) C dX4_report_127 rfl rfl ?_
        refine x_getMr C 8 6 (fun _ _ => rfl) (by decide) hinX4_report_X4 (by decide +kernel) dX4_report_128 ?_
        refine x_iload_n (i := 1) C dX4_report_131 rfl rfl ?_
        refine x_ialdM C (by decide) hd9 rfl dX4_report_132 ?_
        exact x_iret  C dX4_report_133 ⟨Nat.le_of_ble_eq_true rfl, Nat.le_of_ble_eq_true rfl⟩ ⟨fun h9 => absurd (cod0 c_31) h9, fun _ => by unfold reportM reportM4 reportM3 reportM2 reportM1; simp only [if_pos c_49]; constructor <;> first | rfl | trivial⟩
      refine x_aload_n (i := 0) C dX4_report_52 rfl rfl ?_
      refine x_getMr C 16 13 (fun _ _ => rfl) (by decide) hinX4_report_X4 (by decide +kernel) dX4_report_53 ?_
      refine x_iload_n (i := 3) C dX4_report_56 rfl rfl ?_
      refine x_ialdM C (by decide) hc9 rfl dX4_report_57 ?_
      refine x_goto C 67 dX4_report_58 (by decide) ?_
      refine x_iastM C (by decide) hd9 rfl dX4_report_67 ?_
      refine x_aload_n (i := 0) C dX4_report_68 rfl rfl ?_
      refine x_getMr C 12 10 (fun _ _ => rfl) (by decide) hinX4_report_X4 (by decide +kernel) dX4_report_69 ?_
      refine x_iload_n (i := 1) C dX4_report_72 rfl rfl ?_
      refine x_iconst (v := 0) C dX4_report_73 (by decide) ?_
      refine x_iastM C (by decide) hd9 rfl dX4_report_74 ?_
      refine x_aload_n (i := 0) C dX4_report_75 rfl rfl ?_
      refine x_getMr C 13 11 (fun _ _ => rfl) (by decide) hinX4_report_X4 (by decide +kernel) dX4_report_76 ?_
      refine x_iload_n (i := 1) C dX4_report_79 rfl rfl ?_
      refine x_iconst (v := (-1)) C dX4_report_80 (by decide) ?_
      refine x_iastM C (by decide) hd9 rfl dX4_report_81 ?_
      refine x_aload_n (i := 0) C dX4_report_82 rfl rfl ?_
      refine x_getMr C 26 23 (fun _ _ => rfl) (by decide) hinX4_report_X4 (by decide +kernel) dX4_report_83 ?_
      refine x_iload_n (i := 3) C dX4_report_86 rfl rfl ?_
      refine x_dup2_11 C dX4_report_87 rfl rfl ?_
      refine x_ialdM C (by decide) hc9 rfl dX4_report_88 ?_
      refine x_iconst (v := 1) C dX4_report_89 (by decide) ?_
      refine x_iload_n (i := 1) C dX4_report_90 rfl rfl ?_
      refine x_ishl C dX4_report_91 ?_
      refine x_ior C dX4_report_92 ?_
      refine x_iastM C (by decide) hc9 rfl dX4_report_93 ?_
      refine x_aload_n (i := 0) C dX4_report_94 rfl rfl ?_
      refine x_getMr C 24 21 (fun _ _ => rfl) (by decide) hinX4_report_X4 (by decide +kernel) dX4_report_95 ?_
      refine x_iload_n (i := 3) C dX4_report_98 rfl rfl ?_
      refine x_dup2_11 C dX4_report_99 rfl rfl ?_
      refine x_ialdM C (by decide) hc9 rfl dX4_report_100 ?_
      refine x_iconst (v := 1) C dX4_report_101 (by decide) ?_
      refine x_iadd C dX4_report_102 ?_
      refine x_iastM C (by decide) hc9 rfl dX4_report_103 ?_
      refine x_aload_n (i := 0) C dX4_report_104 rfl rfl ?_
      refine x_getMr C 25 22 (fun _ _ => rfl) (by decide) hinX4_report_X4 (by decide +kernel) dX4_report_105 ?_
      refine x_iload_n (i := 3) C dX4_report_108 rfl rfl ?_
      refine x_dup2_11 C dX4_report_109 rfl rfl ?_
      refine x_ialdM C (by decide) hc9 rfl dX4_report_110 ?_
      refine x_iload_n (i := 2) C dX4_report_111 rfl rfl ?_
      refine x_if_eq C 119 dX4_report_112 (by decide) (fun c_112 => absurd c_112 c_49) (fun c_112 => ?_)
      refine x_iconst (v := 0) C dX4_report_115 (by decide) ?_
      refine x_goto C 120 dX4_report_116 (by decide) ?_
      refine x_iadd C dX4_report_120 ?_
      refine x_iastM C (by decide) hc9 rfl dX4_report_121 ?_
      refine x_aload_n (i := 0) C dX4_report_122 rfl rfl ?_
      refine x_iload_n (i := 3) C dX4_report_123 rfl rfl ?_
      refine x_callVv C hE (k_X4_judge l D cy b A X _ _ hc9) (cwV 1 C.2.2.2.2.1 gX4_report_X4_judge rfl rfl rfl (by decide +kernel) ⟨Nat.le_of_ble_eq_true rfl, Nat.le_of_ble_eq_true rfl⟩) 0 (mW_M cy b X _) rfl rfl rfl rfl (Nat.le_of_ble_eq_true rfl) dX4_report_124 ⟨Nat.le_of_ble_eq_true rfl, Nat.le_of_ble_eq_true rfl⟩ (fun u_124 h_124 => ?_)
      rw [h_124]
      refine x_aload_n (i := 0) C dX4_report_127 rfl rfl ?_
      refine x_getMr C 8 6 (fun _ _ => rfl) (by decide) hinX4_report_X4 (by decide +kernel) dX4_report_128 ?_
      refine x_iload_n (i := 1) C dX4_report_131 rfl rfl ?_
      refine x_ialdM C (by decide) hd9 rfl dX4_report_132 ?_
      exact x_iret  C dX4_report_133 ⟨Nat.le_of_ble_eq_true rfl, Nat.le_of_ble_eq_true rfl⟩ ⟨fun h9 => absurd (cod0 c_31) h9, fun _ => by unfold reportM reportM4 reportM3 reportM2 reportM1; simp only [if_neg c_49]; constructor <;> first | rfl | trivial⟩
    refine x_iconst (v := 0) C dX4_report_34 (by decide) ?_
    exact x_iret  C dX4_report_35 ⟨Nat.le_of_ble_eq_true rfl, Nat.le_of_ble_eq_true rfl⟩ ⟨fun _ => ⟨rfl, rfl⟩, fun h9 => absurd h9 (cod1 c_31)⟩
  refine x_if_ne C 13 dX4_report_6 (by decide) (fun c_6 => ?_) (fun c_6 => ?_)
  · refine x_aload_n (i := 0) C dX4_report_13 rfl rfl ?_
    refine x_getMr C 12 10 (fun _ _ => rfl) (by decide) hinX4_report_X4 (by decide +kernel) dX4_report_14 ?_
    refine x_iload_n (i := 1) C dX4_report_17 rfl rfl ?_
    refine x_ialdM C (by decide) (inB_in (b2i_n0 c_6) (pred_lt hn hn10 (by decide))) rfl dX4_report_18 ?_
    refine x_iconst (v := 2) C dX4_report_19 (by decide) ?_
    refine x_icmp_ne C 27 dX4_report_20 (by decide) (fun c_20 => ?_) (fun c_20 => ?_)
    · refine x_iconst (v := 2) C dX4_report_27 (by decide) ?_
      exact j_28 _ (by (try simp only [b2i_0, Bool.not_eq_false] at c_6 c_20); simp [codeReport, c_6, c_20])
    refine x_iconst (v := 0) C dX4_report_23 (by decide) ?_
    refine x_goto C 28 dX4_report_24 (by decide) ?_
    exact j_28 _ (by (try simp only [b2i_0, Bool.not_eq_false] at c_6 c_20); simp [codeReport, c_6, c_20])
  refine x_iconst (v := 1) C dX4_report_9 (by decide) ?_
  refine x_goto C 28 dX4_report_10 (by decide) ?_
  exact j_28 _ (by (try simp only [b2i_0, Bool.not_eq_false] at c_6); simp [codeReport, c_6])
theorem hinX4_devices_X4 : ∀ w ∈ wsX40, w ∈ wsX4_devices := by decide +kernel
def rmX4_devices : Room := { frames := 1, cells := 0, slots := 0, locals := 21 }
set_option maxHeartbeats 4000000 in
set_option maxRecDepth 100000 in
theorem k_X4_devices (l : Launch) (D : va_G) (cy : Nat → ClassId) (b : Nat → Nat) (A : Nat → Prop) (X : va_W) (V : XV)   : Met l yX4_devices wsX4_devices rmX4_devices (va_Pc [.ref (b 0)] (xPre D (tyC cy) A (mW cy b X V))) (va_Qi (fun (r : Int32) (u : XV) => r = V 0 6 ∧ u = xs V 0 0 0) (fun u t => xPost D (tyC cy) A (mW cy b X u) t) A) 0 0 A := by
  refine x_met (own := RX4) (by decide) rfl rfl (Nat.le_of_ble_eq_true rfl) rfl ?_
  intro p e s m below meth c hnm C hE
  refine x_aload_n (i := 0) C dX4_devices_0 rfl rfl ?_
  refine x_aload_n (i := 0) C dX4_devices_1 rfl rfl ?_
  refine x_getM C 6 mI_6 hinX4_devices_X4 (by decide +kernel) dX4_devices_2 ?_
  refine x_callVi C hE (k_X4_fine l D cy b A X _ _) (cwV 1 C.2.2.2.2.1 gX4_devices_X4_fine rfl rfl rfl (by decide +kernel) ⟨Nat.le_of_ble_eq_true rfl, Nat.le_of_ble_eq_true rfl⟩) 0 (mW_M cy b X _) rfl rfl rfl rfl (Nat.le_of_ble_eq_true rfl) dX4_devices_5 ⟨Nat.le_of_ble_eq_true rfl, Nat.le_of_ble_eq_true rfl⟩ (fun r_5 u_5 h_5 => ?_)
  obtain ⟨e8_5, e9_5⟩ := h_5
  rw [e8_5, e9_5]
  exact x_iret  C dX4_devices_8 ⟨Nat.le_of_ble_eq_true rfl, Nat.le_of_ble_eq_true rfl⟩ ⟨rfl, rfl⟩
def rmX4_noDevice : Room := { frames := 2, cells := 0, slots := 0, locals := 43 }
set_option maxHeartbeats 4000000 in
set_option maxRecDepth 100000 in
theorem k_X4_noDevice (l : Launch) (D : va_G) (cy : Nat → ClassId) (b : Nat → Nat) (A : Nat → Prop) (X : va_W) (V : XV) (d : Int32)  : Met l yX4_noDevice wsX4_noDevice rmX4_noDevice (va_Pc [.ref (b 0), .int d] (xPre D (tyC cy) A (mW cy b X V))) (va_Qi (fun (r : Int32) (u : XV) => r = b2i (!decide (codeDev V d = 0)) ∧ u = xs V 0 0 (codeDev V d)) (fun u t => xPost D (tyC cy) A (mW cy b X u) t) A) 0 0 A := by
  refine x_met (own := RX4) (by decide) rfl rfl (Nat.le_of_ble_eq_true rfl) rfl ?_
  intro p e s m below meth c hnm C hE
  refine x_aload_n (i := 0) C dX4_noDevice_0 rfl rfl ?_
  refine x_aload_n (i := 0) C dX4_noDevice_1 rfl rfl ?_
  refine x_iload_n (i := 1) C dX4_noDevice_2 rfl rfl ?_
  refine x_callVi C hE (k_X4_isDevice l D cy b A X _ _) (cwV 1 C.2.2.2.2.1 gX4_noDevice_X4_isDevice rfl rfl rfl (by decide +kernel) ⟨Nat.le_of_ble_eq_true rfl, Nat.le_of_ble_eq_true rfl⟩) 0 (mW_M cy b X _) rfl rfl rfl rfl (Nat.le_of_ble_eq_true rfl) dX4_noDevice_3 ⟨Nat.le_of_ble_eq_true rfl, Nat.le_of_ble_eq_true rfl⟩ (fun r_3 u_3 h_3 => ?_)
  obtain ⟨e8_3, e9_3⟩ := h_3
  rw [e8_3, e9_3]
  refine x_join (J := 14) (st' := [.ref (b 0)]) (fun z => z = codeDev V d) (fun w_14 e_14 => ?_) (fun j_14 => ?_)
  · subst e_14
    refine x_callVi C hE (k_X4_refused l D cy b A X _ _) (cwV 1 C.2.2.2.2.1 gX4_noDevice_X4_refused rfl rfl rfl (by decide +kernel) ⟨Nat.le_of_ble_eq_true rfl, Nat.le_of_ble_eq_true rfl⟩) 0 (mW_M cy b X _) rfl rfl rfl rfl (Nat.le_of_ble_eq_true rfl) dX4_noDevice_14 ⟨Nat.le_of_ble_eq_true rfl, Nat.le_of_ble_eq_true rfl⟩ (fun r_14 u_14 h_14 => ?_)
    obtain ⟨e8_14, e9_14⟩ := h_14
    rw [e8_14, e9_14]
    exact x_zret  C dX4_noDevice_17 ⟨Nat.le_of_ble_eq_true rfl, Nat.le_of_ble_eq_true rfl⟩ (nz (b2i_01 _)) ⟨rfl, rfl⟩
  refine x_if_eq C 13 dX4_noDevice_6 (by decide) (fun c_6 => ?_) (fun c_6 => ?_)
  · refine x_iconst (v := 1) C dX4_noDevice_13 (by decide) ?_
    exact j_14 _ (by (try simp only [b2i_0, Bool.not_eq_false] at c_6); simp [codeDev, c_6])
  refine x_iconst (v := 0) C dX4_noDevice_9 (by decide) ?_
  refine x_goto C 14 dX4_noDevice_10 (by decide) ?_
  exact j_14 _ (by (try simp only [b2i_0, Bool.not_eq_false] at c_6); simp [codeDev, c_6])
theorem hinX4_state_X4 : ∀ w ∈ wsX40, w ∈ wsX4_state := by decide +kernel
def rmX4_state : Room := { frames := 3, cells := 0, slots := 0, locals := 64 }
set_option maxHeartbeats 4000000 in
set_option maxRecDepth 100000 in
theorem k_X4_state (l : Launch) (D : va_G) (cy : Nat → ClassId) (b : Nat → Nat) (A : Nat → Prop) (X : va_W) (V : XV) (d : Int32) {n : Nat} (hn : V 0 6 = nI n) (hn10 : n ≤ 10) : Met l yX4_state wsX4_state rmX4_state (va_Pc [.ref (b 0), .int d] (xPre D (tyC cy) A (mW cy b X V))) (va_Qi (fun (r : Int32) (u : XV) => (¬ codeDev V d = 0 → r = 0 ∧ u = xs V 0 0 (codeDev V d)) ∧ (codeDev V d = 0 → r = V 10 d.toNatClampNeg ∧ u = xs V 0 0 (codeDev V d))) (fun u t => xPost D (tyC cy) A (mW cy b X u) t) A) 0 0 A := by
  refine x_met (own := RX4) (by decide) rfl rfl (Nat.le_of_ble_eq_true rfl) rfl ?_
  intro p e s m below meth c hnm C hE
  refine x_aload_n (i := 0) C dX4_state_0 rfl rfl ?_
  refine x_iload_n (i := 1) C dX4_state_1 rfl rfl ?_
  refine x_callVi C hE (k_X4_noDevice l D cy b A X _ _) (cwV 1 C.2.2.2.2.1 gX4_state_X4_noDevice rfl rfl rfl (by decide +kernel) ⟨Nat.le_of_ble_eq_true rfl, Nat.le_of_ble_eq_true rfl⟩) 0 (mW_M cy b X _) rfl rfl rfl rfl (Nat.le_of_ble_eq_true rfl) dX4_state_2 ⟨Nat.le_of_ble_eq_true rfl, Nat.le_of_ble_eq_true rfl⟩ (fun r_2 u_2 h_2 => ?_)
  obtain ⟨e8_2, e9_2⟩ := h_2
  rw [e8_2, e9_2]
  refine x_if_eq C 12 dX4_state_5 (by decide) (fun c_5 => ?_) (fun c_5 => ?_)
  · refine x_aload_n (i := 0) C dX4_state_12 rfl rfl ?_
    refine x_getMr C 12 10 (fun _ _ => rfl) (by decide) hinX4_state_X4 (by decide +kernel) dX4_state_13 ?_
    refine x_iload_n (i := 1) C dX4_state_16 rfl rfl ?_
    refine x_ialdM C (by decide) (codeDev_in (cod0 c_5) hn hn10) rfl dX4_state_17 ?_
    exact x_iret  C dX4_state_18 ⟨Nat.le_of_ble_eq_true rfl, Nat.le_of_ble_eq_true rfl⟩ ⟨fun h9 => absurd (cod0 c_5) h9, fun _ => ⟨rfl, rfl⟩⟩
  refine x_iconst (v := 0) C dX4_state_8 (by decide) ?_
  refine x_goto C 18 dX4_state_9 (by decide) ?_
  exact x_iret  C dX4_state_18 ⟨Nat.le_of_ble_eq_true rfl, Nat.le_of_ble_eq_true rfl⟩ ⟨fun _ => ⟨rfl, rfl⟩, fun h9 => absurd h9 (cod1 c_5)⟩
theorem hinX4_version_X4 : ∀ w ∈ wsX40, w ∈ wsX4_version := by decide +kernel
def rmX4_version : Room := { frames := 3, cells := 0, slots := 0, locals := 64 }
set_option maxHeartbeats 4000000 in
set_option maxRecDepth 100000 in
theorem k_X4_version (l : Launch) (D : va_G) (cy : Nat → ClassId) (b : Nat → Nat) (A : Nat → Prop) (X : va_W) (V : XV) (d : Int32) {n : Nat} (hn : V 0 6 = nI n) (hn10 : n ≤ 10) : Met l yX4_version wsX4_version rmX4_version (va_Pc [.ref (b 0), .int d] (xPre D (tyC cy) A (mW cy b X V))) (va_Qi (fun (r : Int32) (u : XV) => (¬ codeDev V d = 0 → r = 0 ∧ u = xs V 0 0 (codeDev V d)) ∧ (codeDev V d = 0 → r = V 6 d.toNatClampNeg ∧ u = xs V 0 0 (codeDev V d))) (fun u t => xPost D (tyC cy) A (mW cy b X u) t) A) 0 0 A := by
  refine x_met (own := RX4) (by decide) rfl rfl (Nat.le_of_ble_eq_true rfl) rfl ?_
  intro p e s m below meth c hnm C hE
  refine x_aload_n (i := 0) C dX4_version_0 rfl rfl ?_
  refine x_iload_n (i := 1) C dX4_version_1 rfl rfl ?_
  refine x_callVi C hE (k_X4_noDevice l D cy b A X _ _) (cwV 1 C.2.2.2.2.1 gX4_version_X4_noDevice rfl rfl rfl (by decide +kernel) ⟨Nat.le_of_ble_eq_true rfl, Nat.le_of_ble_eq_true rfl⟩) 0 (mW_M cy b X _) rfl rfl rfl rfl (Nat.le_of_ble_eq_true rfl) dX4_version_2 ⟨Nat.le_of_ble_eq_true rfl, Nat.le_of_ble_eq_true rfl⟩ (fun r_2 u_2 h_2 => ?_)
  obtain ⟨e8_2, e9_2⟩ := h_2
  rw [e8_2, e9_2]
  refine x_if_eq C 12 dX4_version_5 (by decide) (fun c_5 => ?_) (fun c_5 => ?_)
  · refine x_aload_n (i := 0) C dX4_version_12 rfl rfl ?_
    refine x_getMr C 8 6 (fun _ _ => rfl) (by decide) hinX4_version_X4 (by decide +kernel) dX4_version_13 ?_
    refine x_iload_n (i := 1) C dX4_version_16 rfl rfl ?_
    refine x_ialdM C (by decide) (codeDev_in (cod0 c_5) hn hn10) rfl dX4_version_17 ?_
    exact x_iret  C dX4_version_18 ⟨Nat.le_of_ble_eq_true rfl, Nat.le_of_ble_eq_true rfl⟩ ⟨fun h9 => absurd (cod0 c_5) h9, fun _ => ⟨rfl, rfl⟩⟩
  refine x_iconst (v := 0) C dX4_version_8 (by decide) ?_
  refine x_goto C 18 dX4_version_9 (by decide) ?_
  exact x_iret  C dX4_version_18 ⟨Nat.le_of_ble_eq_true rfl, Nat.le_of_ble_eq_true rfl⟩ ⟨fun _ => ⟨rfl, rfl⟩, fun h9 => absurd h9 (cod1 c_5)⟩
theorem hinX4_campaignOf_X4 : ∀ w ∈ wsX40, w ∈ wsX4_campaignOf := by decide +kernel
def rmX4_campaignOf : Room := { frames := 3, cells := 0, slots := 0, locals := 64 }
set_option maxHeartbeats 4000000 in
set_option maxRecDepth 100000 in
theorem k_X4_campaignOf (l : Launch) (D : va_G) (cy : Nat → ClassId) (b : Nat → Nat) (A : Nat → Prop) (X : va_W) (V : XV) (d : Int32) {n : Nat} (hn : V 0 6 = nI n) (hn10 : n ≤ 10) : Met l yX4_campaignOf wsX4_campaignOf rmX4_campaignOf (va_Pc [.ref (b 0), .int d] (xPre D (tyC cy) A (mW cy b X V))) (va_Qi (fun (r : Int32) (u : XV) => (¬ codeDev V d = 0 → r = 0 ∧ u = xs V 0 0 (codeDev V d)) ∧ (codeDev V d = 0 → r = V 11 d.toNatClampNeg ∧ u = xs V 0 0 (codeDev V d))) (fun u t => xPost D (tyC cy) A (mW cy b X u) t) A) 0 0 A := by
  refine x_met (own := RX4) (by decide) rfl rfl (Nat.le_of_ble_eq_true rfl) rfl ?_
  intro p e s m below meth c hnm C hE
  refine x_aload_n (i := 0) C dX4_campaignOf_0 rfl rfl ?_
  refine x_iload_n (i := 1) C dX4_campaignOf_1 rfl rfl ?_
  refine x_callVi C hE (k_X4_noDevice l D cy b A X _ _) (cwV 1 C.2.2.2.2.1 gX4_campaignOf_X4_noDevice rfl rfl rfl (by decide +kernel) ⟨Nat.le_of_ble_eq_true rfl, Nat.le_of_ble_eq_true rfl⟩) 0 (mW_M cy b X _) rfl rfl rfl rfl (Nat.le_of_ble_eq_true rfl) dX4_campaignOf_2 ⟨Nat.le_of_ble_eq_true rfl, Nat.le_of_ble_eq_true rfl⟩ (fun r_2 u_2 h_2 => ?_)
  obtain ⟨e8_2, e9_2⟩ := h_2
  rw [e8_2, e9_2]
  refine x_if_eq C 12 dX4_campaignOf_5 (by decide) (fun c_5 => ?_) (fun c_5 => ?_)
  · refine x_aload_n (i := 0) C dX4_campaignOf_12 rfl rfl ?_
    refine x_getMr C 13 11 (fun _ _ => rfl) (by decide) hinX4_campaignOf_X4 (by decide +kernel) dX4_campaignOf_13 ?_
    refine x_iload_n (i := 1) C dX4_campaignOf_16 rfl rfl ?_
    refine x_ialdM C (by decide) (codeDev_in (cod0 c_5) hn hn10) rfl dX4_campaignOf_17 ?_
    exact x_iret  C dX4_campaignOf_18 ⟨Nat.le_of_ble_eq_true rfl, Nat.le_of_ble_eq_true rfl⟩ ⟨fun h9 => absurd (cod0 c_5) h9, fun _ => ⟨rfl, rfl⟩⟩
  refine x_iconst (v := 0) C dX4_campaignOf_8 (by decide) ?_
  refine x_goto C 18 dX4_campaignOf_9 (by decide) ?_
  exact x_iret  C dX4_campaignOf_18 ⟨Nat.le_of_ble_eq_true rfl, Nat.le_of_ble_eq_true rfl⟩ ⟨fun _ => ⟨rfl, rfl⟩, fun h9 => absurd h9 (cod1 c_5)⟩
theorem hinX4_toGo_X4 : ∀ w ∈ wsX40, w ∈ wsX4_toGo := by decide +kernel
def rmX4_toGo : Room := { frames := 3, cells := 0, slots := 0, locals := 64 }
set_option maxHeartbeats 4000000 in
set_option maxRecDepth 100000 in
theorem k_X4_toGo (l : Launch) (D : va_G) (cy : Nat → ClassId) (b : Nat → Nat) (A : Nat → Prop) (X : va_W) (V : XV) (d : Int32) {n : Nat} (hn : V 0 6 = nI n) (hn10 : n ≤ 10) : Met l yX4_toGo wsX4_toGo rmX4_toGo (va_Pc [.ref (b 0), .int d] (xPre D (tyC cy) A (mW cy b X V))) (va_Qi (fun (r : Int32) (u : XV) => (¬ codeDev V d = 0 → r = 0 ∧ u = xs V 0 0 (codeDev V d)) ∧ (codeDev V d = 0 → r = V 12 d.toNatClampNeg ∧ u = xs V 0 0 (codeDev V d))) (fun u t => xPost D (tyC cy) A (mW cy b X u) t) A) 0 0 A := by
  refine x_met (own := RX4) (by decide) rfl rfl (Nat.le_of_ble_eq_true rfl) rfl ?_
  intro p e s m below meth c hnm C hE
  refine x_aload_n (i := 0) C dX4_toGo_0 rfl rfl ?_
  refine x_iload_n (i := 1) C dX4_toGo_1 rfl rfl ?_
  refine x_callVi C hE (k_X4_noDevice l D cy b A X _ _) (cwV 1 C.2.2.2.2.1 gX4_toGo_X4_noDevice rfl rfl rfl (by decide +kernel) ⟨Nat.le_of_ble_eq_true rfl, Nat.le_of_ble_eq_true rfl⟩) 0 (mW_M cy b X _) rfl rfl rfl rfl (Nat.le_of_ble_eq_true rfl) dX4_toGo_2 ⟨Nat.le_of_ble_eq_true rfl, Nat.le_of_ble_eq_true rfl⟩ (fun r_2 u_2 h_2 => ?_)
  obtain ⟨e8_2, e9_2⟩ := h_2
  rw [e8_2, e9_2]
  refine x_if_eq C 12 dX4_toGo_5 (by decide) (fun c_5 => ?_) (fun c_5 => ?_)
  · refine x_aload_n (i := 0) C dX4_toGo_12 rfl rfl ?_
    refine x_getMr C 14 12 (fun _ _ => rfl) (by decide) hinX4_toGo_X4 (by decide +kernel) dX4_toGo_13 ?_
    refine x_iload_n (i := 1) C dX4_toGo_16 rfl rfl ?_
    refine x_ialdM C (by decide) (codeDev_in (cod0 c_5) hn hn10) rfl dX4_toGo_17 ?_
    exact x_iret  C dX4_toGo_18 ⟨Nat.le_of_ble_eq_true rfl, Nat.le_of_ble_eq_true rfl⟩ ⟨fun h9 => absurd (cod0 c_5) h9, fun _ => ⟨rfl, rfl⟩⟩
  refine x_iconst (v := 0) C dX4_toGo_8 (by decide) ?_
  refine x_goto C 18 dX4_toGo_9 (by decide) ?_
  exact x_iret  C dX4_toGo_18 ⟨Nat.le_of_ble_eq_true rfl, Nat.le_of_ble_eq_true rfl⟩ ⟨fun _ => ⟨rfl, rfl⟩, fun h9 => absurd h9 (cod1 c_5)⟩
theorem hinX4_battery_X4 : ∀ w ∈ wsX40, w ∈ wsX4_battery := by decide +kernel
def rmX4_battery : Room := { frames := 3, cells := 0, slots := 0, locals := 64 }
set_option maxHeartbeats 4000000 in
set_option maxRecDepth 100000 in
theorem k_X4_battery (l : Launch) (D : va_G) (cy : Nat → ClassId) (b : Nat → Nat) (A : Nat → Prop) (X : va_W) (V : XV) (d : Int32) {n : Nat} (hn : V 0 6 = nI n) (hn10 : n ≤ 10) : Met l yX4_battery wsX4_battery rmX4_battery (va_Pc [.ref (b 0), .int d] (xPre D (tyC cy) A (mW cy b X V))) (va_Qi (fun (r : Int32) (u : XV) => (¬ codeDev V d = 0 → r = 0 ∧ u = xs V 0 0 (codeDev V d)) ∧ (codeDev V d = 0 → r = V 7 d.toNatClampNeg ∧ u = xs V 0 0 (codeDev V d))) (fun u t => xPost D (tyC cy) A (mW cy b X u) t) A) 0 0 A := by
  refine x_met (own := RX4) (by decide) rfl rfl (Nat.le_of_ble_eq_true rfl) rfl ?_
  intro p e s m below meth c hnm C hE
  refine x_aload_n (i := 0) C dX4_battery_0 rfl rfl ?_
  refine x_iload_n (i := 1) C dX4_battery_1 rfl rfl ?_
  refine x_callVi C hE (k_X4_noDevice l D cy b A X _ _) (cwV 1 C.2.2.2.2.1 gX4_battery_X4_noDevice rfl rfl rfl (by decide +kernel) ⟨Nat.le_of_ble_eq_true rfl, Nat.le_of_ble_eq_true rfl⟩) 0 (mW_M cy b X _) rfl rfl rfl rfl (Nat.le_of_ble_eq_true rfl) dX4_battery_2 ⟨Nat.le_of_ble_eq_true rfl, Nat.le_of_ble_eq_true rfl⟩ (fun r_2 u_2 h_2 => ?_)
  obtain ⟨e8_2, e9_2⟩ := h_2
  rw [e8_2, e9_2]
  refine x_if_eq C 12 dX4_battery_5 (by decide) (fun c_5 => ?_) (fun c_5 => ?_)
  · refine x_aload_n (i := 0) C dX4_battery_12 rfl rfl ?_
    refine x_getMr C 9 7 (fun _ _ => rfl) (by decide) hinX4_battery_X4 (by decide +kernel) dX4_battery_13 ?_
    refine x_iload_n (i := 1) C dX4_battery_16 rfl rfl ?_
    refine x_ialdM C (by decide) (codeDev_in (cod0 c_5) hn hn10) rfl dX4_battery_17 ?_
    exact x_iret  C dX4_battery_18 ⟨Nat.le_of_ble_eq_true rfl, Nat.le_of_ble_eq_true rfl⟩ ⟨fun h9 => absurd (cod0 c_5) h9, fun _ => ⟨rfl, rfl⟩⟩
  refine x_iconst (v := 0) C dX4_battery_8 (by decide) ?_
  refine x_goto C 18 dX4_battery_9 (by decide) ?_
  exact x_iret  C dX4_battery_18 ⟨Nat.le_of_ble_eq_true rfl, Nat.le_of_ble_eq_true rfl⟩ ⟨fun _ => ⟨rfl, rfl⟩, fun h9 => absurd h9 (cod1 c_5)⟩
def rmX4_noCampaign : Room := { frames := 2, cells := 0, slots := 0, locals := 43 }
set_option maxHeartbeats 4000000 in
set_option maxRecDepth 100000 in
theorem k_X4_noCampaign (l : Launch) (D : va_G) (cy : Nat → ClassId) (b : Nat → Nat) (A : Nat → Prop) (X : va_W) (V : XV) (q : Int32)  : Met l yX4_noCampaign wsX4_noCampaign rmX4_noCampaign (va_Pc [.ref (b 0), .int q] (xPre D (tyC cy) A (mW cy b X V))) (va_Qi (fun (r : Int32) (u : XV) => r = b2i (!decide (codeCam V q = 0)) ∧ u = xs V 0 0 (codeCam V q)) (fun u t => xPost D (tyC cy) A (mW cy b X u) t) A) 0 0 A := by
  refine x_met (own := RX4) (by decide) rfl rfl (Nat.le_of_ble_eq_true rfl) rfl ?_
  intro p e s m below meth c hnm C hE
  refine x_aload_n (i := 0) C dX4_noCampaign_0 rfl rfl ?_
  refine x_aload_n (i := 0) C dX4_noCampaign_1 rfl rfl ?_
  refine x_iload_n (i := 1) C dX4_noCampaign_2 rfl rfl ?_
  refine x_callVi C hE (k_X4_isCampaign l D cy b A X _ _) (cwV 1 C.2.2.2.2.1 gX4_noCampaign_X4_isCampaign rfl rfl rfl (by decide +kernel) ⟨Nat.le_of_ble_eq_true rfl, Nat.le_of_ble_eq_true rfl⟩) 0 (mW_M cy b X _) rfl rfl rfl rfl (Nat.le_of_ble_eq_true rfl) dX4_noCampaign_3 ⟨Nat.le_of_ble_eq_true rfl, Nat.le_of_ble_eq_true rfl⟩ (fun r_3 u_3 h_3 => ?_)
  obtain ⟨e8_3, e9_3⟩ := h_3
  rw [e8_3, e9_3]
  refine x_join (J := 14) (st' := [.ref (b 0)]) (fun z => z = codeCam V q) (fun w_14 e_14 => ?_) (fun j_14 => ?_)
  · subst e_14
    refine x_callVi C hE (k_X4_refused l D cy b A X _ _) (cwV 1 C.2.2.2.2.1 gX4_noCampaign_X4_refused rfl rfl rfl (by decide +kernel) ⟨Nat.le_of_ble_eq_true rfl, Nat.le_of_ble_eq_true rfl⟩) 0 (mW_M cy b X _) rfl rfl rfl rfl (Nat.le_of_ble_eq_true rfl) dX4_noCampaign_14 ⟨Nat.le_of_ble_eq_true rfl, Nat.le_of_ble_eq_true rfl⟩ (fun r_14 u_14 h_14 => ?_)
    obtain ⟨e8_14, e9_14⟩ := h_14
    rw [e8_14, e9_14]
    exact x_zret  C dX4_noCampaign_17 ⟨Nat.le_of_ble_eq_true rfl, Nat.le_of_ble_eq_true rfl⟩ (nz (b2i_01 _)) ⟨rfl, rfl⟩
  refine x_if_eq C 13 dX4_noCampaign_6 (by decide) (fun c_6 => ?_) (fun c_6 => ?_)
  · refine x_iconst (v := 1) C dX4_noCampaign_13 (by decide) ?_
    exact j_14 _ (by (try simp only [b2i_0, Bool.not_eq_false] at c_6); simp [codeCam, c_6])
  refine x_iconst (v := 0) C dX4_noCampaign_9 (by decide) ?_
  refine x_goto C 14 dX4_noCampaign_10 (by decide) ?_
  exact j_14 _ (by (try simp only [b2i_0, Bool.not_eq_false] at c_6); simp [codeCam, c_6])
theorem hinX4_ring_X4 : ∀ w ∈ wsX40, w ∈ wsX4_ring := by decide +kernel
def rmX4_ring : Room := { frames := 3, cells := 0, slots := 0, locals := 64 }
set_option maxHeartbeats 4000000 in
set_option maxRecDepth 100000 in
theorem k_X4_ring (l : Launch) (D : va_G) (cy : Nat → ClassId) (b : Nat → Nat) (A : Nat → Prop) (X : va_W) (V : XV) (q : Int32) {m9 : Nat} (hm : V 0 15 = nI m9) (hm6 : m9 ≤ 6) : Met l yX4_ring wsX4_ring rmX4_ring (va_Pc [.ref (b 0), .int q] (xPre D (tyC cy) A (mW cy b X V))) (va_Qi (fun (r : Int32) (u : XV) => (¬ codeCam V q = 0 → r = 0 ∧ u = xs V 0 0 (codeCam V q)) ∧ (codeCam V q = 0 → r = V 17 q.toNatClampNeg ∧ u = xs V 0 0 (codeCam V q))) (fun u t => xPost D (tyC cy) A (mW cy b X u) t) A) 0 0 A := by
  refine x_met (own := RX4) (by decide) rfl rfl (Nat.le_of_ble_eq_true rfl) rfl ?_
  intro p e s m below meth c hnm C hE
  refine x_aload_n (i := 0) C dX4_ring_0 rfl rfl ?_
  refine x_iload_n (i := 1) C dX4_ring_1 rfl rfl ?_
  refine x_callVi C hE (k_X4_noCampaign l D cy b A X _ _) (cwV 1 C.2.2.2.2.1 gX4_ring_X4_noCampaign rfl rfl rfl (by decide +kernel) ⟨Nat.le_of_ble_eq_true rfl, Nat.le_of_ble_eq_true rfl⟩) 0 (mW_M cy b X _) rfl rfl rfl rfl (Nat.le_of_ble_eq_true rfl) dX4_ring_2 ⟨Nat.le_of_ble_eq_true rfl, Nat.le_of_ble_eq_true rfl⟩ (fun r_2 u_2 h_2 => ?_)
  obtain ⟨e8_2, e9_2⟩ := h_2
  rw [e8_2, e9_2]
  refine x_if_eq C 12 dX4_ring_5 (by decide) (fun c_5 => ?_) (fun c_5 => ?_)
  · refine x_aload_n (i := 0) C dX4_ring_12 rfl rfl ?_
    refine x_getMr C 20 17 (fun _ _ => rfl) (by decide) hinX4_ring_X4 (by decide +kernel) dX4_ring_13 ?_
    refine x_iload_n (i := 1) C dX4_ring_16 rfl rfl ?_
    refine x_ialdM C (by decide) (codeCam_in (cod0 c_5) hm hm6) rfl dX4_ring_17 ?_
    exact x_iret  C dX4_ring_18 ⟨Nat.le_of_ble_eq_true rfl, Nat.le_of_ble_eq_true rfl⟩ ⟨fun h9 => absurd (cod0 c_5) h9, fun _ => ⟨rfl, rfl⟩⟩
  refine x_iconst (v := 0) C dX4_ring_8 (by decide) ?_
  refine x_goto C 18 dX4_ring_9 (by decide) ?_
  exact x_iret  C dX4_ring_18 ⟨Nat.le_of_ble_eq_true rfl, Nat.le_of_ble_eq_true rfl⟩ ⟨fun _ => ⟨rfl, rfl⟩, fun h9 => absurd h9 (cod1 c_5)⟩
theorem hinX4_reports_X4 : ∀ w ∈ wsX40, w ∈ wsX4_reports := by decide +kernel
def rmX4_reports : Room := { frames := 3, cells := 0, slots := 0, locals := 64 }
set_option maxHeartbeats 4000000 in
set_option maxRecDepth 100000 in
theorem k_X4_reports (l : Launch) (D : va_G) (cy : Nat → ClassId) (b : Nat → Nat) (A : Nat → Prop) (X : va_W) (V : XV) (q : Int32) {m9 : Nat} (hm : V 0 15 = nI m9) (hm6 : m9 ≤ 6) : Met l yX4_reports wsX4_reports rmX4_reports (va_Pc [.ref (b 0), .int q] (xPre D (tyC cy) A (mW cy b X V))) (va_Qi (fun (r : Int32) (u : XV) => (¬ codeCam V q = 0 → r = 0 ∧ u = xs V 0 0 (codeCam V q)) ∧ (codeCam V q = 0 → r = V 21 q.toNatClampNeg ∧ u = xs V 0 0 (codeCam V q))) (fun u t => xPost D (tyC cy) A (mW cy b X u) t) A) 0 0 A := by
  refine x_met (own := RX4) (by decide) rfl rfl (Nat.le_of_ble_eq_true rfl) rfl ?_
  intro p e s m below meth c hnm C hE
  refine x_aload_n (i := 0) C dX4_reports_0 rfl rfl ?_
  refine x_iload_n (i := 1) C dX4_reports_1 rfl rfl ?_
  refine x_callVi C hE (k_X4_noCampaign l D cy b A X _ _) (cwV 1 C.2.2.2.2.1 gX4_reports_X4_noCampaign rfl rfl rfl (by decide +kernel) ⟨Nat.le_of_ble_eq_true rfl, Nat.le_of_ble_eq_true rfl⟩) 0 (mW_M cy b X _) rfl rfl rfl rfl (Nat.le_of_ble_eq_true rfl) dX4_reports_2 ⟨Nat.le_of_ble_eq_true rfl, Nat.le_of_ble_eq_true rfl⟩ (fun r_2 u_2 h_2 => ?_)
  obtain ⟨e8_2, e9_2⟩ := h_2
  rw [e8_2, e9_2]
  refine x_if_eq C 12 dX4_reports_5 (by decide) (fun c_5 => ?_) (fun c_5 => ?_)
  · refine x_aload_n (i := 0) C dX4_reports_12 rfl rfl ?_
    refine x_getMr C 24 21 (fun _ _ => rfl) (by decide) hinX4_reports_X4 (by decide +kernel) dX4_reports_13 ?_
    refine x_iload_n (i := 1) C dX4_reports_16 rfl rfl ?_
    refine x_ialdM C (by decide) (codeCam_in (cod0 c_5) hm hm6) rfl dX4_reports_17 ?_
    exact x_iret  C dX4_reports_18 ⟨Nat.le_of_ble_eq_true rfl, Nat.le_of_ble_eq_true rfl⟩ ⟨fun h9 => absurd (cod0 c_5) h9, fun _ => ⟨rfl, rfl⟩⟩
  refine x_iconst (v := 0) C dX4_reports_8 (by decide) ?_
  refine x_goto C 18 dX4_reports_9 (by decide) ?_
  exact x_iret  C dX4_reports_18 ⟨Nat.le_of_ble_eq_true rfl, Nat.le_of_ble_eq_true rfl⟩ ⟨fun _ => ⟨rfl, rfl⟩, fun h9 => absurd h9 (cod1 c_5)⟩
theorem hinX4_isActive_X4 : ∀ w ∈ wsX40, w ∈ wsX4_isActive := by decide +kernel
def rmX4_isActive : Room := { frames := 3, cells := 0, slots := 0, locals := 64 }
set_option maxHeartbeats 4000000 in
set_option maxRecDepth 100000 in
theorem k_X4_isActive (l : Launch) (D : va_G) (cy : Nat → ClassId) (b : Nat → Nat) (A : Nat → Prop) (X : va_W) (V : XV) (q : Int32) {m9 : Nat} (hm : V 0 15 = nI m9) (hm6 : m9 ≤ 6) : Met l yX4_isActive wsX4_isActive rmX4_isActive (va_Pc [.ref (b 0), .int q] (xPre D (tyC cy) A (mW cy b X V))) (va_Qi (fun (r : Int32) (u : XV) => (¬ codeCam V q = 0 → r = 0 ∧ u = xs V 0 0 (codeCam V q)) ∧ (codeCam V q = 0 → r = b2i (!decide (V 16 q.toNatClampNeg = 0)) ∧ u = xs V 0 0 (codeCam V q))) (fun u t => xPost D (tyC cy) A (mW cy b X u) t) A) 0 0 A := by
  refine x_met (own := RX4) (by decide) rfl rfl (Nat.le_of_ble_eq_true rfl) rfl ?_
  intro p e s m below meth c hnm C hE
  refine x_aload_n (i := 0) C dX4_isActive_0 rfl rfl ?_
  refine x_iload_n (i := 1) C dX4_isActive_1 rfl rfl ?_
  refine x_callVi C hE (k_X4_noCampaign l D cy b A X _ _) (cwV 1 C.2.2.2.2.1 gX4_isActive_X4_noCampaign rfl rfl rfl (by decide +kernel) ⟨Nat.le_of_ble_eq_true rfl, Nat.le_of_ble_eq_true rfl⟩) 0 (mW_M cy b X _) rfl rfl rfl rfl (Nat.le_of_ble_eq_true rfl) dX4_isActive_2 ⟨Nat.le_of_ble_eq_true rfl, Nat.le_of_ble_eq_true rfl⟩ (fun r_2 u_2 h_2 => ?_)
  obtain ⟨e8_2, e9_2⟩ := h_2
  rw [e8_2, e9_2]
  refine x_if_ne C 21 dX4_isActive_5 (by decide) (fun c_5 => ?_) (fun c_5 => ?_)
  · refine x_iconst (v := 0) C dX4_isActive_21 (by decide) ?_
    exact x_zret  C dX4_isActive_22 ⟨Nat.le_of_ble_eq_true rfl, Nat.le_of_ble_eq_true rfl⟩ rfl ⟨fun _ => ⟨rfl, rfl⟩, fun h9 => absurd h9 (cod1 c_5)⟩
  refine x_aload_n (i := 0) C dX4_isActive_8 rfl rfl ?_
  refine x_getMr C 19 16 (fun _ _ => rfl) (by decide) hinX4_isActive_X4 (by decide +kernel) dX4_isActive_9 ?_
  refine x_iload_n (i := 1) C dX4_isActive_12 rfl rfl ?_
  refine x_zaldM C (codeCam_in (cod0 c_5) hm hm6) rfl dX4_isActive_13 ?_
  refine x_if_eq C 21 dX4_isActive_14 (by decide) (fun c_14 => ?_) (fun c_14 => ?_)
  · refine x_iconst (v := 0) C dX4_isActive_21 (by decide) ?_
    exact x_zret  C dX4_isActive_22 ⟨Nat.le_of_ble_eq_true rfl, Nat.le_of_ble_eq_true rfl⟩ rfl ⟨fun h9 => absurd (cod0 c_5) h9, fun _ => ⟨by have h8 : V 16 q.toNatClampNeg = 0 := c_14; simp [b2i, h8], rfl⟩⟩
  refine x_iconst (v := 1) C dX4_isActive_17 (by decide) ?_
  refine x_goto C 22 dX4_isActive_18 (by decide) ?_
  exact x_zret  C dX4_isActive_22 ⟨Nat.le_of_ble_eq_true rfl, Nat.le_of_ble_eq_true rfl⟩ rfl ⟨fun h9 => absurd (cod0 c_5) h9, fun _ => ⟨by have h8 : ¬ V 16 q.toNatClampNeg = 0 := c_14; simp [b2i, h8], rfl⟩⟩
theorem hinX4_toggle_X4 : ∀ w ∈ wsX40, w ∈ wsX4_toggle := by decide +kernel
def rmX4_toggle : Room := { frames := 3, cells := 0, slots := 0, locals := 64 }
set_option maxHeartbeats 4000000 in
set_option maxRecDepth 100000 in
theorem k_X4_toggle (l : Launch) (D : va_G) (cy : Nat → ClassId) (b : Nat → Nat) (A : Nat → Prop) (X : va_W) (V : XV) (q : Int32) {m9 : Nat} (hm : V 0 15 = nI m9) (hm6 : m9 ≤ 6) : Met l yX4_toggle wsX4_toggle rmX4_toggle (va_Pc [.ref (b 0), .int q] (xPre D (tyC cy) A (mW cy b X V))) (va_Qi (fun (r : Int32) (u : XV) => (¬ codeCam V q = 0 → r = 0 ∧ u = xs V 0 0 (codeCam V q)) ∧ (codeCam V q = 0 → r = toggleM (xs V 0 0 (codeCam V q)) q.toNatClampNeg 16 q.toNatClampNeg ∧ u = toggleM (xs V 0 0 (codeCam V q)) q.toNatClampNeg)) (fun u t => xPost D (tyC cy) A (mW cy b X u) t) A) 0 0 A := by
  refine x_met (own := RX4) (by decide) rfl rfl (Nat.le_of_ble_eq_true rfl) rfl ?_
  intro p e s m below meth c hnm C hE
  refine x_aload_n (i := 0) C dX4_toggle_0 rfl rfl ?_
  refine x_iload_n (i := 1) C dX4_toggle_1 rfl rfl ?_
  refine x_callVi C hE (k_X4_noCampaign l D cy b A X _ _) (cwV 1 C.2.2.2.2.1 gX4_toggle_X4_noCampaign rfl rfl rfl (by decide +kernel) ⟨Nat.le_of_ble_eq_true rfl, Nat.le_of_ble_eq_true rfl⟩) 0 (mW_M cy b X _) rfl rfl rfl rfl (Nat.le_of_ble_eq_true rfl) dX4_toggle_2 ⟨Nat.le_of_ble_eq_true rfl, Nat.le_of_ble_eq_true rfl⟩ (fun r_2 u_2 h_2 => ?_)
  obtain ⟨e8_2, e9_2⟩ := h_2
  rw [e8_2, e9_2]
  refine x_if_eq C 10 dX4_toggle_5 (by decide) (fun c_5 => ?_) (fun c_5 => ?_)
  · refine x_aload_n (i := 0) C dX4_toggle_10 rfl rfl ?_
    refine x_getMr C 19 16 (fun _ _ => rfl) (by decide) hinX4_toggle_X4 (by decide +kernel) dX4_toggle_11 ?_
    refine x_iload_n (i := 1) C dX4_toggle_14 rfl rfl ?_
    refine x_aload_n (i := 0) C dX4_toggle_15 rfl rfl ?_
    refine x_getMr C 19 16 (fun _ _ => rfl) (by decide) hinX4_toggle_X4 (by decide +kernel) dX4_toggle_16 ?_
    refine x_iload_n (i := 1) C dX4_toggle_19 rfl rfl ?_
    refine x_zaldM C (codeCam_in (cod0 c_5) hm hm6) rfl dX4_toggle_20 ?_
    refine x_if_ne C 28 dX4_toggle_21 (by decide) (fun c_21 => ?_) (fun c_21 => ?_)
    · refine x_iconst (v := 0) C dX4_toggle_28 (by decide) ?_
      refine x_zastM C (codeCam_in (cod0 c_5) hm hm6) rfl rfl dX4_toggle_29 ?_
      refine x_aload_n (i := 0) C dX4_toggle_30 rfl rfl ?_
      refine x_getMr C 19 16 (fun _ _ => rfl) (by decide) hinX4_toggle_X4 (by decide +kernel) dX4_toggle_31 ?_
      refine x_iload_n (i := 1) C dX4_toggle_34 rfl rfl ?_
      refine x_zaldM C (codeCam_in (cod0 c_5) hm hm6) rfl dX4_toggle_35 ?_
      refine x_if_eq C 53 dX4_toggle_36 (by decide) (fun c_36 => ?_) (fun c_36 => absurd (xs_self _ 16 _ 0) c_36)
      refine x_aload_n (i := 0) C dX4_toggle_53 rfl rfl ?_
      refine x_getMr C 19 16 (fun _ _ => rfl) (by decide) hinX4_toggle_X4 (by decide +kernel) dX4_toggle_54 ?_
      refine x_iload_n (i := 1) C dX4_toggle_57 rfl rfl ?_
      refine x_zaldM C (codeCam_in (cod0 c_5) hm hm6) rfl dX4_toggle_58 ?_
      exact x_zret  C dX4_toggle_59 ⟨Nat.le_of_ble_eq_true rfl, Nat.le_of_ble_eq_true rfl⟩ (nz (Or.inl (xs_self _ 16 _ 0))) ⟨fun h9 => absurd (cod0 c_5) h9, fun _ => by unfold toggleM; rw [if_neg c_21]; constructor <;> first | rfl | trivial⟩
    refine x_iconst (v := 1) C dX4_toggle_24 (by decide) ?_
    refine x_goto C 29 dX4_toggle_25 (by decide) ?_
    refine x_zastM C (codeCam_in (cod0 c_5) hm hm6) rfl rfl dX4_toggle_29 ?_
    refine x_aload_n (i := 0) C dX4_toggle_30 rfl rfl ?_
    refine x_getMr C 19 16 (fun _ _ => rfl) (by decide) hinX4_toggle_X4 (by decide +kernel) dX4_toggle_31 ?_
    refine x_iload_n (i := 1) C dX4_toggle_34 rfl rfl ?_
    refine x_zaldM C (codeCam_in (cod0 c_5) hm hm6) rfl dX4_toggle_35 ?_
    refine x_if_eq C 53 dX4_toggle_36 (by decide) (fun c_36 => absurd c_36 (by rw [xs_self]; decide)) (fun c_36 => ?_)
    refine x_aload_n (i := 0) C dX4_toggle_39 rfl rfl ?_
    refine x_getMr C 24 21 (fun _ _ => rfl) (by decide) hinX4_toggle_X4 (by decide +kernel) dX4_toggle_40 ?_
    refine x_iload_n (i := 1) C dX4_toggle_43 rfl rfl ?_
    refine x_iconst (v := 0) C dX4_toggle_44 (by decide) ?_
    refine x_iastM C (by decide) (codeCam_in (cod0 c_5) hm hm6) rfl dX4_toggle_45 ?_
    refine x_aload_n (i := 0) C dX4_toggle_46 rfl rfl ?_
    refine x_getMr C 25 22 (fun _ _ => rfl) (by decide) hinX4_toggle_X4 (by decide +kernel) dX4_toggle_47 ?_
    refine x_iload_n (i := 1) C dX4_toggle_50 rfl rfl ?_
    refine x_iconst (v := 0) C dX4_toggle_51 (by decide) ?_
    refine x_iastM C (by decide) (codeCam_in (cod0 c_5) hm hm6) rfl dX4_toggle_52 ?_
    refine x_aload_n (i := 0) C dX4_toggle_53 rfl rfl ?_
    refine x_getMr C 19 16 (fun _ _ => rfl) (by decide) hinX4_toggle_X4 (by decide +kernel) dX4_toggle_54 ?_
    refine x_iload_n (i := 1) C dX4_toggle_57 rfl rfl ?_
    refine x_zaldM C (codeCam_in (cod0 c_5) hm hm6) rfl dX4_toggle_58 ?_
    exact x_zret  C dX4_toggle_59 ⟨Nat.le_of_ble_eq_true rfl, Nat.le_of_ble_eq_true rfl⟩ (nz (Or.inr (by rw [xs_get _ _ (by omega), xs_get _ _ (by omega), xs_self]))) ⟨fun h9 => absurd (cod0 c_5) h9, fun _ => by unfold toggleM; rw [if_pos c_21]; constructor <;> first | rfl | trivial⟩
  refine x_iconst (v := 0) C dX4_toggle_8 (by decide) ?_
  exact x_zret  C dX4_toggle_9 ⟨Nat.le_of_ble_eq_true rfl, Nat.le_of_ble_eq_true rfl⟩ rfl ⟨fun _ => ⟨rfl, rfl⟩, fun h9 => absurd h9 (cod1 c_5)⟩
theorem hinX4_setRules_X4 : ∀ w ∈ wsX40, w ∈ wsX4_setRules := by decide +kernel
def rmX4_setRules : Room := { frames := 2, cells := 0, slots := 0, locals := 43 }
set_option maxHeartbeats 4000000 in
set_option maxRecDepth 100000 in
theorem k_X4_setRules (l : Launch) (D : va_G) (cy : Nat → ClassId) (b : Nat → Nat) (A : Nat → Prop) (X : va_W) (V : XV) (q f s9 n9 th : Int32) {m9 : Nat} (hm : V 0 15 = nI m9) (hm6 : m9 ≤ 6) : Met l yX4_setRules wsX4_setRules rmX4_setRules (va_Pc [.ref (b 0), .int q, .int f, .int s9, .int n9, .int th] (xPre D (tyC cy) A (mW cy b X V))) (va_Qv (fun (u : XV) => (¬ codeRules V q f s9 n9 th = 0 → u = xs V 0 0 (codeRules V q f s9 n9 th)) ∧ (codeRules V q f s9 n9 th = 0 → u = rulesM (xs V 0 0 (codeRules V q f s9 n9 th)) q.toNatClampNeg f s9 n9 th)) (fun u t => xPost D (tyC cy) A (mW cy b X u) t) A) 0 0 A := by
  refine x_met (own := RX4) (by decide) rfl rfl (Nat.le_of_ble_eq_true rfl) rfl ?_
  intro p e s m below meth c hnm C hE
  refine x_iload_n (i := 2) C dX4_setRules_0 rfl rfl ?_
  refine x_iconst (v := 0) C dX4_setRules_1 (by decide) ?_
  refine x_bipush (v := 100) C dX4_setRules_2 (by decide) ?_
  refine x_callSi C hE (k_X4_in l D _ A _ _ _ _) (va_cwS 3 C.2.2.2.2.1 gX4_setRules_X4_in rfl rfl rfl (by decide +kernel) ⟨Nat.le_of_ble_eq_true rfl, Nat.le_of_ble_eq_true rfl⟩)  rfl rfl (Nat.le_of_ble_eq_true rfl) dX4_setRules_4 ⟨Nat.le_of_ble_eq_true rfl, Nat.le_of_ble_eq_true rfl⟩ (fun r_4 u_4 h_4 => ?_)
  subst h_4
  refine x_join (J := 48) (st' := []) (fun z => z = b2i (inB f 0 100 && (inB s9 f 100 && (inB n9 1 10 && inB th 0 1000)))) (fun w_48 e_48 => ?_) (fun j_48 => ?_)
  · subst e_48
    refine x_istore (i := 6) C dX4_setRules_48 (by decide) ?_
    refine x_aload_n (i := 0) C dX4_setRules_50 rfl rfl ?_
    refine x_aload_n (i := 0) C dX4_setRules_51 rfl rfl ?_
    refine x_iload_n (i := 1) C dX4_setRules_52 rfl rfl ?_
    refine x_callVi C hE (k_X4_isCampaign l D cy b A X _ _) (cwV 1 C.2.2.2.2.1 gX4_setRules_X4_isCampaign rfl rfl rfl (by decide +kernel) ⟨Nat.le_of_ble_eq_true rfl, Nat.le_of_ble_eq_true rfl⟩) 0 (mW_M cy b X _) rfl rfl rfl rfl (Nat.le_of_ble_eq_true rfl) dX4_setRules_53 ⟨Nat.le_of_ble_eq_true rfl, Nat.le_of_ble_eq_true rfl⟩ (fun r_53 u_53 h_53 => ?_)
    obtain ⟨e8_53, e9_53⟩ := h_53
    rw [e8_53, e9_53]
    refine x_join (J := 73) (st' := [.ref (b 0)]) (fun z => z = codeRules V q f s9 n9 th) (fun w_73 e_73 => ?_) (fun j_73 => ?_)
    · subst e_73
      refine x_callVi C hE (k_X4_refused l D cy b A X _ _) (cwV 1 C.2.2.2.2.1 gX4_setRules_X4_refused rfl rfl rfl (by decide +kernel) ⟨Nat.le_of_ble_eq_true rfl, Nat.le_of_ble_eq_true rfl⟩) 0 (mW_M cy b X _) rfl rfl rfl rfl (Nat.le_of_ble_eq_true rfl) dX4_setRules_73 ⟨Nat.le_of_ble_eq_true rfl, Nat.le_of_ble_eq_true rfl⟩ (fun r_73 u_73 h_73 => ?_)
      obtain ⟨e8_73, e9_73⟩ := h_73
      rw [e8_73, e9_73]
      refine x_if_ne C 115 dX4_setRules_76 (by decide) (fun c_76 => ?_) (fun c_76 => ?_)
      · exact x_vret  C dX4_setRules_115 ⟨Nat.le_of_ble_eq_true rfl, Nat.le_of_ble_eq_true rfl⟩ ⟨fun _ => rfl, fun h9 => absurd h9 (cod1 c_76)⟩
      refine x_aload_n (i := 0) C dX4_setRules_79 rfl rfl ?_
      refine x_getMr C 21 18 (fun _ _ => rfl) (by decide) hinX4_setRules_X4 (by decide +kernel) dX4_setRules_80 ?_
      refine x_iconst (v := 3) C dX4_setRules_83 (by decide) ?_
      refine x_iload_n (i := 1) C dX4_setRules_84 rfl rfl ?_
      refine x_imul C dX4_setRules_85 ?_
      refine x_iload_n (i := 2) C dX4_setRules_86 rfl rfl ?_
      refine x_iastM C (by decide) (idx3 (codeRules_in (cod0 c_76) hm hm6)).2.1 (idx3 (codeRules_in (cod0 c_76) hm hm6)).1 dX4_setRules_87 ?_
      refine x_aload_n (i := 0) C dX4_setRules_88 rfl rfl ?_
      refine x_getMr C 21 18 (fun _ _ => rfl) (by decide) hinX4_setRules_X4 (by decide +kernel) dX4_setRules_89 ?_
      refine x_iconst (v := 3) C dX4_setRules_92 (by decide) ?_
      refine x_iload_n (i := 1) C dX4_setRules_93 rfl rfl ?_
      refine x_imul C dX4_setRules_94 ?_
      refine x_iconst (v := 1) C dX4_setRules_95 (by decide) ?_
      refine x_iadd C dX4_setRules_96 ?_
      refine x_iload_n (i := 3) C dX4_setRules_97 rfl rfl ?_
      refine x_iastM C (by decide) (idx3 (codeRules_in (cod0 c_76) hm hm6)).2.2.2.1 (idx3 (codeRules_in (cod0 c_76) hm hm6)).2.2.1 dX4_setRules_98 ?_
      refine x_aload_n (i := 0) C dX4_setRules_99 rfl rfl ?_
      refine x_getMr C 22 19 (fun _ _ => rfl) (by decide) hinX4_setRules_X4 (by decide +kernel) dX4_setRules_100 ?_
      refine x_iload_n (i := 1) C dX4_setRules_103 rfl rfl ?_
      refine x_iload (i := 4) C dX4_setRules_104 rfl ?_
      refine x_iastM C (by decide) (codeRules_in (cod0 c_76) hm hm6) rfl dX4_setRules_106 ?_
      refine x_aload_n (i := 0) C dX4_setRules_107 rfl rfl ?_
      refine x_getMr C 23 20 (fun _ _ => rfl) (by decide) hinX4_setRules_X4 (by decide +kernel) dX4_setRules_108 ?_
      refine x_iload_n (i := 1) C dX4_setRules_111 rfl rfl ?_
      refine x_iload (i := 5) C dX4_setRules_112 rfl ?_
      refine x_iastM C (by decide) (codeRules_in (cod0 c_76) hm hm6) rfl dX4_setRules_114 ?_
      exact x_vret  C dX4_setRules_115 ⟨Nat.le_of_ble_eq_true rfl, Nat.le_of_ble_eq_true rfl⟩ ⟨fun h9 => absurd (cod0 c_76) h9, fun _ => rfl⟩
    refine x_if_ne C 63 dX4_setRules_56 (by decide) (fun c_56 => ?_) (fun c_56 => ?_)
    · refine x_iload (i := 6) C dX4_setRules_63 rfl ?_
      refine x_if_eq C 72 dX4_setRules_65 (by decide) (fun c_65 => ?_) (fun c_65 => ?_)
      · refine x_iconst (v := 2) C dX4_setRules_72 (by decide) ?_
        exact j_73 _ (by (try simp only [b2i_0, Bool.not_eq_false] at c_56 c_65); simp [codeRules, c_56, c_65])
      refine x_iconst (v := 0) C dX4_setRules_68 (by decide) ?_
      refine x_goto C 73 dX4_setRules_69 (by decide) ?_
      exact j_73 _ (by (try simp only [b2i_0, Bool.not_eq_false] at c_56 c_65); simp [codeRules, c_56, c_65])
    refine x_iconst (v := 1) C dX4_setRules_59 (by decide) ?_
    refine x_goto C 73 dX4_setRules_60 (by decide) ?_
    exact j_73 _ (by (try simp only [b2i_0, Bool.not_eq_false] at c_56); simp [codeRules, c_56])
  refine x_if_eq C 47 dX4_setRules_7 (by decide) (fun c_7 => ?_) (fun c_7 => ?_)
  · refine x_iconst (v := 0) C dX4_setRules_47 (by decide) ?_
    exact j_48 _ (by (try simp only [b2i_0, Bool.not_eq_false] at c_7); simp [b2i, c_7])
  refine x_iload_n (i := 3) C dX4_setRules_10 rfl rfl ?_
  refine x_iload_n (i := 2) C dX4_setRules_11 rfl rfl ?_
  refine x_bipush (v := 100) C dX4_setRules_12 (by decide) ?_
  refine x_callSi C hE (k_X4_in l D _ A _ _ _ _) (va_cwS 3 C.2.2.2.2.1 gX4_setRules_X4_in rfl rfl rfl (by decide +kernel) ⟨Nat.le_of_ble_eq_true rfl, Nat.le_of_ble_eq_true rfl⟩)  rfl rfl (Nat.le_of_ble_eq_true rfl) dX4_setRules_14 ⟨Nat.le_of_ble_eq_true rfl, Nat.le_of_ble_eq_true rfl⟩ (fun r_14 u_14 h_14 => ?_)
  subst h_14
  refine x_if_eq C 47 dX4_setRules_17 (by decide) (fun c_17 => ?_) (fun c_17 => ?_)
  · refine x_iconst (v := 0) C dX4_setRules_47 (by decide) ?_
    exact j_48 _ (by (try simp only [b2i_0, Bool.not_eq_false] at c_7 c_17); simp [b2i, c_7, c_17])
  refine x_iload (i := 4) C dX4_setRules_20 rfl ?_
  refine x_iconst (v := 1) C dX4_setRules_22 (by decide) ?_
  refine x_bipush (v := 10) C dX4_setRules_23 (by decide) ?_
  refine x_callSi C hE (k_X4_in l D _ A _ _ _ _) (va_cwS 3 C.2.2.2.2.1 gX4_setRules_X4_in rfl rfl rfl (by decide +kernel) ⟨Nat.le_of_ble_eq_true rfl, Nat.le_of_ble_eq_true rfl⟩)  rfl rfl (Nat.le_of_ble_eq_true rfl) dX4_setRules_25 ⟨Nat.le_of_ble_eq_true rfl, Nat.le_of_ble_eq_true rfl⟩ (fun r_25 u_25 h_25 => ?_)
  subst h_25
  refine x_if_eq C 47 dX4_setRules_28 (by decide) (fun c_28 => ?_) (fun c_28 => ?_)
  · refine x_iconst (v := 0) C dX4_setRules_47 (by decide) ?_
    exact j_48 _ (by (try simp only [b2i_0, Bool.not_eq_false] at c_7 c_17 c_28); simp [b2i, c_7, c_17, c_28])
  refine x_iload (i := 5) C dX4_setRules_31 rfl ?_
  refine x_iconst (v := 0) C dX4_setRules_33 (by decide) ?_
  refine x_sipush (v := 1000) C dX4_setRules_34 (by decide) ?_
  refine x_callSi C hE (k_X4_in l D _ A _ _ _ _) (va_cwS 3 C.2.2.2.2.1 gX4_setRules_X4_in rfl rfl rfl (by decide +kernel) ⟨Nat.le_of_ble_eq_true rfl, Nat.le_of_ble_eq_true rfl⟩)  rfl rfl (Nat.le_of_ble_eq_true rfl) dX4_setRules_37 ⟨Nat.le_of_ble_eq_true rfl, Nat.le_of_ble_eq_true rfl⟩ (fun r_37 u_37 h_37 => ?_)
  subst h_37
  refine x_if_eq C 47 dX4_setRules_40 (by decide) (fun c_40 => ?_) (fun c_40 => ?_)
  · refine x_iconst (v := 0) C dX4_setRules_47 (by decide) ?_
    exact j_48 _ (by (try simp only [b2i_0, Bool.not_eq_false] at c_7 c_17 c_28 c_40); simp [b2i, c_7, c_17, c_28, c_40])
  refine x_iconst (v := 1) C dX4_setRules_43 (by decide) ?_
  refine x_goto C 48 dX4_setRules_44 (by decide) ?_
  exact j_48 _ (by (try simp only [b2i_0, Bool.not_eq_false] at c_7 c_17 c_28 c_40); simp [b2i, c_7, c_17, c_28, c_40])
theorem idx3e {x : Int32} {q : Nat} (h : x = nI q) (hq : q < 6) : (3 * x).toNatClampNeg = 3 * q ∧ vp_in (3 * x) 18 ∧ (3 * x + 1).toNatClampNeg = 3 * q + 1 ∧ vp_in (3 * x + 1) 18 ∧ (3 * x + 2).toNatClampNeg = 3 * q + 2 ∧ vp_in (3 * x + 2) 18 := by
  have h33 := idx3 (vp_eq h hq (by decide))
  rw [cl_eq h (by omega)] at h33
  exact h33
theorem codeBegin_n {V : XV} {t k vs rep : Int32} {m : Nat} (h : codeBegin V t k vs rep = 0) (hm : V 0 15 = nI m) (hm6 : m ≤ 6) : m < 6 ∧ (¬ rep = -1 → vp_in rep 6) := by
  obtain ⟨h1, h2⟩ := ite_ne h (by decide)
  obtain ⟨h3, h4⟩ := ite_ne h2 (by decide)
  constructor
  · rcases Nat.lt_or_ge m 6 with q | q
    · exact q
    · have e : V 0 15 = 6 := by rw [hm, show m = 6 by omega]; rfl
      rw [if_pos e] at h4
      exact absurd h4 (by decide)
  · intro hr
    simp only [Bool.and_eq_true, Bool.or_eq_true, decide_eq_true_eq] at h1
    rcases h1.2 with q | q
    · exact absurd q hr
    · exact inB_in q (pred_lt hm hm6 (by decide))
theorem hinX4_begin_X4 : ∀ w ∈ wsX40, w ∈ wsX4_begin := by decide +kernel
def rmX4_begin : Room := { frames := 2, cells := 0, slots := 0, locals := 43 }
set_option maxHeartbeats 4000000 in
set_option maxRecDepth 100000 in
theorem k_X4_begin (l : Launch) (D : va_G) (cy : Nat → ClassId) (b : Nat → Nat) (A : Nat → Prop) (X : va_W) (V : XV) (t k vs rep : Int32) {m9 : Nat} (hm : V 0 15 = nI m9) (hm6 : m9 ≤ 6) : Met l yX4_begin wsX4_begin rmX4_begin (va_Pc [.ref (b 0), .int t, .int k, .int vs, .int rep] (xPre D (tyC cy) A (mW cy b X V))) (va_Qi (fun (r : Int32) (u : XV) => (¬ codeBegin V t k vs rep = 0 → r = 0 ∧ u = xs V 0 0 (codeBegin V t k vs rep)) ∧ (codeBegin V t k vs rep = 0 → r = beginM (xs V 0 0 (codeBegin V t k vs rep)) m9 t k vs rep 0 15 - 1 ∧ u = beginM (xs V 0 0 (codeBegin V t k vs rep)) m9 t k vs rep)) (fun u t => xPost D (tyC cy) A (mW cy b X u) t) A) 0 0 A := by
  refine x_met (own := RX4) (by decide) rfl rfl (Nat.le_of_ble_eq_true rfl) rfl ?_
  intro p e s m below meth c hnm C hE
  refine x_iload_n (i := 1) C dX4_begin_0 rfl rfl ?_
  refine x_callSi C hE (k_X4_isVersion l D _ A _ _) (va_cwS 1 C.2.2.2.2.1 gX4_begin_X4_isVersion rfl rfl rfl (by decide +kernel) ⟨Nat.le_of_ble_eq_true rfl, Nat.le_of_ble_eq_true rfl⟩)  rfl rfl (Nat.le_of_ble_eq_true rfl) dX4_begin_1 ⟨Nat.le_of_ble_eq_true rfl, Nat.le_of_ble_eq_true rfl⟩ (fun r_1 u_1 h_1 => ?_)
  subst h_1
  refine x_join (J := 27) (st' := []) (fun z => z = b2i (inB t 0 7 && (decide (rep = -1) || inB rep 0 (V 0 15 - 1)))) (fun w_27 e_27 => ?_) (fun j_27 => ?_)
  · subst e_27
    refine x_istore (i := 5) C dX4_begin_27 (by decide) ?_
    refine x_iload_n (i := 2) C dX4_begin_29 rfl rfl ?_
    refine x_iconst (v := 0) C dX4_begin_30 (by decide) ?_
    refine x_bipush (v := 15) C dX4_begin_31 (by decide) ?_
    refine x_callSi C hE (k_X4_in l D _ A _ _ _ _) (va_cwS 3 C.2.2.2.2.1 gX4_begin_X4_in rfl rfl rfl (by decide +kernel) ⟨Nat.le_of_ble_eq_true rfl, Nat.le_of_ble_eq_true rfl⟩)  rfl rfl (Nat.le_of_ble_eq_true rfl) dX4_begin_33 ⟨Nat.le_of_ble_eq_true rfl, Nat.le_of_ble_eq_true rfl⟩ (fun r_33 u_33 h_33 => ?_)
    subst h_33
    refine x_join (J := 55) (st' := []) (fun z => z = b2i (inB k 0 15 && inB vs 0 255)) (fun w_55 e_55 => ?_) (fun j_55 => ?_)
    · subst e_55
      refine x_istore (i := 6) C dX4_begin_55 (by decide) ?_
      refine x_aload_n (i := 0) C dX4_begin_57 rfl rfl ?_
      refine x_iload (i := 5) C dX4_begin_58 rfl ?_
      refine x_join (J := 90) (st' := [.ref (b 0)]) (fun z => z = codeBegin V t k vs rep) (fun w_90 e_90 => ?_) (fun j_90 => ?_)
      · subst e_90
        refine x_callVi C hE (k_X4_refused l D cy b A X _ _) (cwV 1 C.2.2.2.2.1 gX4_begin_X4_refused rfl rfl rfl (by decide +kernel) ⟨Nat.le_of_ble_eq_true rfl, Nat.le_of_ble_eq_true rfl⟩) 0 (mW_M cy b X _) rfl rfl rfl rfl (Nat.le_of_ble_eq_true rfl) dX4_begin_90 ⟨Nat.le_of_ble_eq_true rfl, Nat.le_of_ble_eq_true rfl⟩ (fun r_90 u_90 h_90 => ?_)
        obtain ⟨e8_90, e9_90⟩ := h_90
        rw [e8_90, e9_90]
        refine x_if_eq C 98 dX4_begin_93 (by decide) (fun c_93 => ?_) (fun c_93 => ?_)
        · have z9 := cod0 c_93
          obtain ⟨hn9, hr9⟩ := codeBegin_n z9 hm hm6
          refine x_iload (i := 4) C dX4_begin_98 rfl ?_
          refine x_iconst (v := (-1)) C dX4_begin_100 (by decide) ?_
          refine x_icmp_eq C 112 dX4_begin_101 (by decide) (fun c_101 => ?_) (fun c_101 => ?_)
          · refine x_aload_n (i := 0) C dX4_begin_112 rfl rfl ?_
            refine x_getMr C 16 13 (fun _ _ => rfl) (by decide) hinX4_begin_X4 (by decide +kernel) dX4_begin_113 ?_
            refine x_aload_n (i := 0) C dX4_begin_116 rfl rfl ?_
            refine x_getM C 15 mI_15 hinX4_begin_X4 (by decide +kernel) dX4_begin_117 ?_
            refine x_iload_n (i := 1) C dX4_begin_120 rfl rfl ?_
            refine x_iastM C (by decide) (vp_eq (show _ = nI m9 by (try simp only [xs_eq]); simp [hm]) hn9 (by decide)) (cl_eq (show _ = nI m9 by (try simp only [xs_eq]); simp [hm]) (by omega)) dX4_begin_121 ?_
            refine x_aload_n (i := 0) C dX4_begin_122 rfl rfl ?_
            refine x_getMr C 17 14 (fun _ _ => rfl) (by decide) hinX4_begin_X4 (by decide +kernel) dX4_begin_123 ?_
            refine x_aload_n (i := 0) C dX4_begin_126 rfl rfl ?_
            refine x_getM C 15 mI_15 hinX4_begin_X4 (by decide +kernel) dX4_begin_127 ?_
            refine x_iload_n (i := 2) C dX4_begin_130 rfl rfl ?_
            refine x_iastM C (by decide) (vp_eq (show _ = nI m9 by (try simp only [xs_eq]); simp [hm]) hn9 (by decide)) (cl_eq (show _ = nI m9 by (try simp only [xs_eq]); simp [hm]) (by omega)) dX4_begin_131 ?_
            refine x_aload_n (i := 0) C dX4_begin_132 rfl rfl ?_
            refine x_getMr C 18 15 (fun _ _ => rfl) (by decide) hinX4_begin_X4 (by decide +kernel) dX4_begin_133 ?_
            refine x_aload_n (i := 0) C dX4_begin_136 rfl rfl ?_
            refine x_getM C 15 mI_15 hinX4_begin_X4 (by decide +kernel) dX4_begin_137 ?_
            refine x_iload_n (i := 3) C dX4_begin_140 rfl rfl ?_
            refine x_iastM C (by decide) (vp_eq (show _ = nI m9 by (try simp only [xs_eq]); simp [hm]) hn9 (by decide)) (cl_eq (show _ = nI m9 by (try simp only [xs_eq]); simp [hm]) (by omega)) dX4_begin_141 ?_
            refine x_aload_n (i := 0) C dX4_begin_142 rfl rfl ?_
            refine x_getMr C 19 16 (fun _ _ => rfl) (by decide) hinX4_begin_X4 (by decide +kernel) dX4_begin_143 ?_
            refine x_aload_n (i := 0) C dX4_begin_146 rfl rfl ?_
            refine x_getM C 15 mI_15 hinX4_begin_X4 (by decide +kernel) dX4_begin_147 ?_
            refine x_iconst (v := 1) C dX4_begin_150 (by decide) ?_
            refine x_zastM C (vp_eq (show _ = nI m9 by (try simp only [xs_eq]); simp [hm]) hn9 (by decide)) (cl_eq (show _ = nI m9 by (try simp only [xs_eq]); simp [hm]) (by omega)) rfl dX4_begin_151 ?_
            refine x_aload_n (i := 0) C dX4_begin_152 rfl rfl ?_
            refine x_getMr C 21 18 (fun _ _ => rfl) (by decide) hinX4_begin_X4 (by decide +kernel) dX4_begin_153 ?_
            refine x_iconst (v := 3) C dX4_begin_156 (by decide) ?_
            refine x_aload_n (i := 0) C dX4_begin_157 rfl rfl ?_
            refine x_getM C 15 mI_15 hinX4_begin_X4 (by decide +kernel) dX4_begin_158 ?_
            refine x_imul C dX4_begin_161 ?_
            refine x_bipush (v := 10) C dX4_begin_162 (by decide) ?_
            refine x_iastM C (by decide) (idx3e (show _ = nI m9 by (try simp only [xs_eq]); simp [hm]) hn9).2.1 (idx3e (show _ = nI m9 by (try simp only [xs_eq]); simp [hm]) hn9).1 dX4_begin_164 ?_
            refine x_aload_n (i := 0) C dX4_begin_165 rfl rfl ?_
            refine x_getMr C 21 18 (fun _ _ => rfl) (by decide) hinX4_begin_X4 (by decide +kernel) dX4_begin_166 ?_
            refine x_iconst (v := 3) C dX4_begin_169 (by decide) ?_
            refine x_aload_n (i := 0) C dX4_begin_170 rfl rfl ?_
            refine x_getM C 15 mI_15 hinX4_begin_X4 (by decide +kernel) dX4_begin_171 ?_
            refine x_imul C dX4_begin_174 ?_
            refine x_iconst (v := 1) C dX4_begin_175 (by decide) ?_
            refine x_iadd C dX4_begin_176 ?_
            refine x_bipush (v := 50) C dX4_begin_177 (by decide) ?_
            refine x_iastM C (by decide) (idx3e (show _ = nI m9 by (try simp only [xs_eq]); simp [hm]) hn9).2.2.2.1 (idx3e (show _ = nI m9 by (try simp only [xs_eq]); simp [hm]) hn9).2.2.1 dX4_begin_179 ?_
            refine x_aload_n (i := 0) C dX4_begin_180 rfl rfl ?_
            refine x_getMr C 21 18 (fun _ _ => rfl) (by decide) hinX4_begin_X4 (by decide +kernel) dX4_begin_181 ?_
            refine x_iconst (v := 3) C dX4_begin_184 (by decide) ?_
            refine x_aload_n (i := 0) C dX4_begin_185 rfl rfl ?_
            refine x_getM C 15 mI_15 hinX4_begin_X4 (by decide +kernel) dX4_begin_186 ?_
            refine x_imul C dX4_begin_189 ?_
            refine x_iconst (v := 2) C dX4_begin_190 (by decide) ?_
            refine x_iadd C dX4_begin_191 ?_
            refine x_bipush (v := 100) C dX4_begin_192 (by decide) ?_
            refine x_iastM C (by decide) (idx3e (show _ = nI m9 by (try simp only [xs_eq]); simp [hm]) hn9).2.2.2.2.2 (idx3e (show _ = nI m9 by (try simp only [xs_eq]); simp [hm]) hn9).2.2.2.2.1 dX4_begin_194 ?_
            refine x_aload_n (i := 0) C dX4_begin_195 rfl rfl ?_
            refine x_getMr C 22 19 (fun _ _ => rfl) (by decide) hinX4_begin_X4 (by decide +kernel) dX4_begin_196 ?_
            refine x_aload_n (i := 0) C dX4_begin_199 rfl rfl ?_
            refine x_getM C 15 mI_15 hinX4_begin_X4 (by decide +kernel) dX4_begin_200 ?_
            refine x_iconst (v := 3) C dX4_begin_203 (by decide) ?_
            refine x_iastM C (by decide) (vp_eq (show _ = nI m9 by (try simp only [xs_eq]); simp [hm]) hn9 (by decide)) (cl_eq (show _ = nI m9 by (try simp only [xs_eq]); simp [hm]) (by omega)) dX4_begin_204 ?_
            refine x_aload_n (i := 0) C dX4_begin_205 rfl rfl ?_
            refine x_getMr C 23 20 (fun _ _ => rfl) (by decide) hinX4_begin_X4 (by decide +kernel) dX4_begin_206 ?_
            refine x_aload_n (i := 0) C dX4_begin_209 rfl rfl ?_
            refine x_getM C 15 mI_15 hinX4_begin_X4 (by decide +kernel) dX4_begin_210 ?_
            refine x_sipush (v := 200) C dX4_begin_213 (by decide) ?_
            refine x_iastM C (by decide) (vp_eq (show _ = nI m9 by (try simp only [xs_eq]); simp [hm]) hn9 (by decide)) (cl_eq (show _ = nI m9 by (try simp only [xs_eq]); simp [hm]) (by omega)) dX4_begin_216 ?_
            refine x_aload_n (i := 0) C dX4_begin_217 rfl rfl ?_
            refine x_dup C dX4_begin_218 rfl ?_
            refine x_getM C 15 mI_15 hinX4_begin_X4 (by decide +kernel) dX4_begin_219 ?_
            refine x_iconst (v := 1) C dX4_begin_222 (by decide) ?_
            refine x_iadd C dX4_begin_223 ?_
            refine x_putM C 15 mI_15 hinX4_begin_X4 (by decide +kernel) dX4_begin_224 ?_
            refine x_aload_n (i := 0) C dX4_begin_227 rfl rfl ?_
            refine x_getM C 15 mI_15 hinX4_begin_X4 (by decide +kernel) dX4_begin_228 ?_
            refine x_iconst (v := 1) C dX4_begin_231 (by decide) ?_
            refine x_isub C dX4_begin_232 ?_
            exact x_iret  C dX4_begin_233 ⟨Nat.le_of_ble_eq_true rfl, Nat.le_of_ble_eq_true rfl⟩ ⟨fun h9 => absurd (cod0 c_93) h9, fun _ => by unfold beginM beginM2 beginM1 beginM0; simp only [if_pos c_101]; constructor <;> first | rfl | trivial⟩
          refine x_aload_n (i := 0) C dX4_begin_104 rfl rfl ?_
          refine x_getMr C 19 16 (fun _ _ => rfl) (by decide) hinX4_begin_X4 (by decide +kernel) dX4_begin_105 ?_
          refine x_iload (i := 4) C dX4_begin_108 rfl ?_
          refine x_iconst (v := 0) C dX4_begin_110 (by decide) ?_
          refine x_zastM C (hr9 c_101) rfl rfl dX4_begin_111 ?_
          refine x_aload_n (i := 0) C dX4_begin_112 rfl rfl ?_
          refine x_getMr C 16 13 (fun _ _ => rfl) (by decide) hinX4_begin_X4 (by decide +kernel) dX4_begin_113 ?_
          refine x_aload_n (i := 0) C dX4_begin_116 rfl rfl ?_
          refine x_getM C 15 mI_15 hinX4_begin_X4 (by decide +kernel) dX4_begin_117 ?_
          refine x_iload_n (i := 1) C dX4_begin_120 rfl rfl ?_
          refine x_iastM C (by decide) (vp_eq (show _ = nI m9 by (try simp only [xs_eq]); simp [hm]) hn9 (by decide)) (cl_eq (show _ = nI m9 by (try simp only [xs_eq]); simp [hm]) (by omega)) dX4_begin_121 ?_
          refine x_aload_n (i := 0) C dX4_begin_122 rfl rfl ?_
          refine x_getMr C 17 14 (fun _ _ => rfl) (by decide) hinX4_begin_X4 (by decide +kernel) dX4_begin_123 ?_
          refine x_aload_n (i := 0) C dX4_begin_126 rfl rfl ?_
          refine x_getM C 15 mI_15 hinX4_begin_X4 (by decide +kernel) dX4_begin_127 ?_
          refine x_iload_n (i := 2) C dX4_begin_130 rfl rfl ?_
          refine x_iastM C (by decide) (vp_eq (show _ = nI m9 by (try simp only [xs_eq]); simp [hm]) hn9 (by decide)) (cl_eq (show _ = nI m9 by (try simp only [xs_eq]); simp [hm]) (by omega)) dX4_begin_131 ?_
          refine x_aload_n (i := 0) C dX4_begin_132 rfl rfl ?_
          refine x_getMr C 18 15 (fun _ _ => rfl) (by decide) hinX4_begin_X4 (by decide +kernel) dX4_begin_133 ?_
          refine x_aload_n (i := 0) C dX4_begin_136 rfl rfl ?_
          refine x_getM C 15 mI_15 hinX4_begin_X4 (by decide +kernel) dX4_begin_137 ?_
          refine x_iload_n (i := 3) C dX4_begin_140 rfl rfl ?_
          refine x_iastM C (by decide) (vp_eq (show _ = nI m9 by (try simp only [xs_eq]); simp [hm]) hn9 (by decide)) (cl_eq (show _ = nI m9 by (try simp only [xs_eq]); simp [hm]) (by omega)) dX4_begin_141 ?_
          refine x_aload_n (i := 0) C dX4_begin_142 rfl rfl ?_
          refine x_getMr C 19 16 (fun _ _ => rfl) (by decide) hinX4_begin_X4 (by decide +kernel) dX4_begin_143 ?_
          refine x_aload_n (i := 0) C dX4_begin_146 rfl rfl ?_
          refine x_getM C 15 mI_15 hinX4_begin_X4 (by decide +kernel) dX4_begin_147 ?_
          refine x_iconst (v := 1) C dX4_begin_150 (by decide) ?_
          refine x_zastM C (vp_eq (show _ = nI m9 by (try simp only [xs_eq]); simp [hm]) hn9 (by decide)) (cl_eq (show _ = nI m9 by (try simp only [xs_eq]); simp [hm]) (by omega)) rfl dX4_begin_151 ?_
          refine x_aload_n (i := 0) C dX4_begin_152 rfl rfl ?_
          refine x_getMr C 21 18 (fun _ _ => rfl) (by decide) hinX4_begin_X4 (by decide +kernel) dX4_begin_153 ?_
          refine x_iconst (v := 3) C dX4_begin_156 (by decide) ?_
          refine x_aload_n (i := 0) C dX4_begin_157 rfl rfl ?_
          refine x_getM C 15 mI_15 hinX4_begin_X4 (by decide +kernel) dX4_begin_158 ?_
          refine x_imul C dX4_begin_161 ?_
          refine x_bipush (v := 10) C dX4_begin_162 (by decide) ?_
          refine x_iastM C (by decide) (idx3e (show _ = nI m9 by (try simp only [xs_eq]); simp [hm]) hn9).2.1 (idx3e (show _ = nI m9 by (try simp only [xs_eq]); simp [hm]) hn9).1 dX4_begin_164 ?_
          refine x_aload_n (i := 0) C dX4_begin_165 rfl rfl ?_
          refine x_getMr C 21 18 (fun _ _ => rfl) (by decide) hinX4_begin_X4 (by decide +kernel) dX4_begin_166 ?_
          refine x_iconst (v := 3) C dX4_begin_169 (by decide) ?_
          refine x_aload_n (i := 0) C dX4_begin_170 rfl rfl ?_
          refine x_getM C 15 mI_15 hinX4_begin_X4 (by decide +kernel) dX4_begin_171 ?_
          refine x_imul C dX4_begin_174 ?_
          refine x_iconst (v := 1) C dX4_begin_175 (by decide) ?_
          refine x_iadd C dX4_begin_176 ?_
          refine x_bipush (v := 50) C dX4_begin_177 (by decide) ?_
          refine x_iastM C (by decide) (idx3e (show _ = nI m9 by (try simp only [xs_eq]); simp [hm]) hn9).2.2.2.1 (idx3e (show _ = nI m9 by (try simp only [xs_eq]); simp [hm]) hn9).2.2.1 dX4_begin_179 ?_
          refine x_aload_n (i := 0) C dX4_begin_180 rfl rfl ?_
          refine x_getMr C 21 18 (fun _ _ => rfl) (by decide) hinX4_begin_X4 (by decide +kernel) dX4_begin_181 ?_
          refine x_iconst (v := 3) C dX4_begin_184 (by decide) ?_
          refine x_aload_n (i := 0) C dX4_begin_185 rfl rfl ?_
          refine x_getM C 15 mI_15 hinX4_begin_X4 (by decide +kernel) dX4_begin_186 ?_
          refine x_imul C dX4_begin_189 ?_
          refine x_iconst (v := 2) C dX4_begin_190 (by decide) ?_
          refine x_iadd C dX4_begin_191 ?_
          refine x_bipush (v := 100) C dX4_begin_192 (by decide) ?_
          refine x_iastM C (by decide) (idx3e (show _ = nI m9 by (try simp only [xs_eq]); simp [hm]) hn9).2.2.2.2.2 (idx3e (show _ = nI m9 by (try simp only [xs_eq]); simp [hm]) hn9).2.2.2.2.1 dX4_begin_194 ?_
          refine x_aload_n (i := 0) C dX4_begin_195 rfl rfl ?_
          refine x_getMr C 22 19 (fun _ _ => rfl) (by decide) hinX4_begin_X4 (by decide +kernel) dX4_begin_196 ?_
          refine x_aload_n (i := 0) C dX4_begin_199 rfl rfl ?_
          refine x_getM C 15 mI_15 hinX4_begin_X4 (by decide +kernel) dX4_begin_200 ?_
          refine x_iconst (v := 3) C dX4_begin_203 (by decide) ?_
          refine x_iastM C (by decide) (vp_eq (show _ = nI m9 by (try simp only [xs_eq]); simp [hm]) hn9 (by decide)) (cl_eq (show _ = nI m9 by (try simp only [xs_eq]); simp [hm]) (by omega)) dX4_begin_204 ?_
          refine x_aload_n (i := 0) C dX4_begin_205 rfl rfl ?_
          refine x_getMr C 23 20 (fun _ _ => rfl) (by decide) hinX4_begin_X4 (by decide +kernel) dX4_begin_206 ?_
          refine x_aload_n (i := 0) C dX4_begin_209 rfl rfl ?_
          refine x_getM C 15 mI_15 hinX4_begin_X4 (by decide +kernel) dX4_begin_210 ?_
          refine x_sipush (v := 200) C dX4_begin_213 (by decide) ?_
          refine x_iastM C (by decide) (vp_eq (show _ = nI m9 by (try simp only [xs_eq]); simp [hm]) hn9 (by decide)) (cl_eq (show _ = nI m9 by (try simp only [xs_eq]); simp [hm]) (by omega)) dX4_begin_216 ?_
          refine x_aload_n (i := 0) C dX4_begin_217 rfl rfl ?_
          refine x_dup C dX4_begin_218 rfl ?_
          refine x_getM C 15 mI_15 hinX4_begin_X4 (by decide +kernel) dX4_begin_219 ?_
          refine x_iconst (v := 1) C dX4_begin_222 (by decide) ?_
          refine x_iadd C dX4_begin_223 ?_
          refine x_putM C 15 mI_15 hinX4_begin_X4 (by decide +kernel) dX4_begin_224 ?_
          refine x_aload_n (i := 0) C dX4_begin_227 rfl rfl ?_
          refine x_getM C 15 mI_15 hinX4_begin_X4 (by decide +kernel) dX4_begin_228 ?_
          refine x_iconst (v := 1) C dX4_begin_231 (by decide) ?_
          refine x_isub C dX4_begin_232 ?_
          exact x_iret  C dX4_begin_233 ⟨Nat.le_of_ble_eq_true rfl, Nat.le_of_ble_eq_true rfl⟩ ⟨fun h9 => absurd (cod0 c_93) h9, fun _ => by unfold beginM beginM2 beginM1 beginM0; simp only [if_neg c_101]; constructor <;> first | rfl | trivial⟩
        refine x_iconst (v := 0) C dX4_begin_96 (by decide) ?_
        exact x_iret  C dX4_begin_97 ⟨Nat.le_of_ble_eq_true rfl, Nat.le_of_ble_eq_true rfl⟩ ⟨fun _ => ⟨rfl, rfl⟩, fun h9 => absurd h9 (cod1 c_93)⟩
      refine x_if_ne C 67 dX4_begin_60 (by decide) (fun c_60 => ?_) (fun c_60 => ?_)
      · refine x_iload (i := 6) C dX4_begin_67 rfl ?_
        refine x_if_ne C 76 dX4_begin_69 (by decide) (fun c_69 => ?_) (fun c_69 => ?_)
        · refine x_aload_n (i := 0) C dX4_begin_76 rfl rfl ?_
          refine x_getM C 15 mI_15 hinX4_begin_X4 (by decide +kernel) dX4_begin_77 ?_
          refine x_bipush (v := 6) C dX4_begin_80 (by decide) ?_
          refine x_icmp_ne C 89 dX4_begin_82 (by decide) (fun c_82 => ?_) (fun c_82 => ?_)
          · refine x_iconst (v := 0) C dX4_begin_89 (by decide) ?_
            exact j_90 _ ((if_pos (b2i_n0 c_60)).trans ((if_pos (b2i_n0 c_69)).trans (if_neg c_82))).symm
          refine x_iconst (v := 3) C dX4_begin_85 (by decide) ?_
          refine x_goto C 90 dX4_begin_86 (by decide) ?_
          exact j_90 _ ((if_pos (b2i_n0 c_60)).trans ((if_pos (b2i_n0 c_69)).trans (if_pos c_82))).symm
        refine x_iconst (v := 2) C dX4_begin_72 (by decide) ?_
        refine x_goto C 90 dX4_begin_73 (by decide) ?_
        exact j_90 _ ((if_pos (b2i_n0 c_60)).trans (if_neg (b2i_z c_69))).symm
      refine x_iconst (v := 1) C dX4_begin_63 (by decide) ?_
      refine x_goto C 90 dX4_begin_64 (by decide) ?_
      exact j_90 _ (if_neg (b2i_z c_60)).symm
    refine x_if_eq C 54 dX4_begin_36 (by decide) (fun c_36 => ?_) (fun c_36 => ?_)
    · refine x_iconst (v := 0) C dX4_begin_54 (by decide) ?_
      exact j_55 _ (by (try simp only [b2i_0, Bool.not_eq_false] at c_36); simp [b2i, c_36])
    refine x_iload_n (i := 3) C dX4_begin_39 rfl rfl ?_
    refine x_iconst (v := 0) C dX4_begin_40 (by decide) ?_
    refine x_sipush (v := 255) C dX4_begin_41 (by decide) ?_
    refine x_callSi C hE (k_X4_in l D _ A _ _ _ _) (va_cwS 3 C.2.2.2.2.1 gX4_begin_X4_in rfl rfl rfl (by decide +kernel) ⟨Nat.le_of_ble_eq_true rfl, Nat.le_of_ble_eq_true rfl⟩)  rfl rfl (Nat.le_of_ble_eq_true rfl) dX4_begin_44 ⟨Nat.le_of_ble_eq_true rfl, Nat.le_of_ble_eq_true rfl⟩ (fun r_44 u_44 h_44 => ?_)
    subst h_44
    refine x_if_eq C 54 dX4_begin_47 (by decide) (fun c_47 => ?_) (fun c_47 => ?_)
    · refine x_iconst (v := 0) C dX4_begin_54 (by decide) ?_
      exact j_55 _ (by (try simp only [b2i_0, Bool.not_eq_false] at c_36 c_47); simp [b2i, c_36, c_47])
    refine x_iconst (v := 1) C dX4_begin_50 (by decide) ?_
    refine x_goto C 55 dX4_begin_51 (by decide) ?_
    exact j_55 _ (by (try simp only [b2i_0, Bool.not_eq_false] at c_36 c_47); simp [b2i, c_36, c_47])
  refine x_if_eq C 26 dX4_begin_4 (by decide) (fun c_4 => ?_) (fun c_4 => ?_)
  · refine x_iconst (v := 0) C dX4_begin_26 (by decide) ?_
    exact j_27 _ (by (try simp only [b2i_0, Bool.not_eq_false] at c_4); simp [b2i, c_4])
  refine x_iload (i := 4) C dX4_begin_7 rfl ?_
  refine x_iconst (v := (-1)) C dX4_begin_9 (by decide) ?_
  refine x_icmp_eq C 22 dX4_begin_10 (by decide) (fun c_10 => ?_) (fun c_10 => ?_)
  · refine x_iconst (v := 1) C dX4_begin_22 (by decide) ?_
    refine x_goto C 27 dX4_begin_23 (by decide) ?_
    exact j_27 _ (by (try simp only [b2i_0, Bool.not_eq_false] at c_4 c_10); simp [b2i, c_4, c_10])
  refine x_aload_n (i := 0) C dX4_begin_13 rfl rfl ?_
  refine x_iload (i := 4) C dX4_begin_14 rfl ?_
  refine x_callVi C hE (k_X4_isCampaign l D cy b A X _ _) (cwV 1 C.2.2.2.2.1 gX4_begin_X4_isCampaign rfl rfl rfl (by decide +kernel) ⟨Nat.le_of_ble_eq_true rfl, Nat.le_of_ble_eq_true rfl⟩) 0 (mW_M cy b X _) rfl rfl rfl rfl (Nat.le_of_ble_eq_true rfl) dX4_begin_16 ⟨Nat.le_of_ble_eq_true rfl, Nat.le_of_ble_eq_true rfl⟩ (fun r_16 u_16 h_16 => ?_)
  obtain ⟨e8_16, e9_16⟩ := h_16
  rw [e8_16, e9_16]
  refine x_if_eq C 26 dX4_begin_19 (by decide) (fun c_19 => ?_) (fun c_19 => ?_)
  · refine x_iconst (v := 0) C dX4_begin_26 (by decide) ?_
    exact j_27 _ (by (try simp only [b2i_0, Bool.not_eq_false] at c_4 c_10 c_19); simp [b2i, c_4, c_10, c_19])
  refine x_iconst (v := 1) C dX4_begin_22 (by decide) ?_
  refine x_goto C 27 dX4_begin_23 (by decide) ?_
  exact j_27 _ (by (try simp only [b2i_0, Bool.not_eq_false] at c_4 c_10 c_19); simp [b2i, c_4, c_10, c_19])
