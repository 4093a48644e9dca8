/-! ===== BEGIN hours: takeLowestCampaign, passOneHour, pass ===== -/
def tlF (V : XV) (p : Nat) : Nat → Nat → XV
  | 0, _ => V
  | k + 1, q => if mayTakeB V p (19 + q) = true then takeV V p (19 + q) (lbI V (V p 2) (V (19 + q) 1)) else tlF V p k (q + 1)
def poStep (V : XV) (m d : Nat) : XV := if canLoadB (tlF V (9 + d) m 0) (9 + d) (tlF V (9 + d) m 0 0 6) = true then loadV (tlF V (9 + d) m 0) (9 + d) else tlF V (9 + d) m 0
def poV (V : XV) (m : Nat) : Nat → XV
  | 0 => V
  | d + 1 => poStep (poV V m d) m d
def poTs (V : XV) (m d : Nat) (z : Int32) : Int32 := if canLoadB (tlF V (9 + d) m 0) (9 + d) (tlF V (9 + d) m 0 0 6) = true then (if loadV (tlF V (9 + d) m 0) (9 + d) (9 + d) 6 = 2 then z + 1 else z) else z
def poT (V : XV) (m : Nat) : Nat → Int32
  | 0 => 0
  | d + 1 => poTs (poV V m d) m d (poT V m d)
def hourV (V : XV) (n m : Nat) : XV := xs (poV V m n) 0 6 ((poV V m n 0 6 + 1) - (poV V m n 0 6 + 1) / 24 * 24)
def paV (V : XV) (n m : Nat) : Nat → XV
  | 0 => V
  | k + 1 => hourV (paV V n m k) n m
def paT (V : XV) (n m : Nat) : Nat → Int32
  | 0 => 0
  | k + 1 => paT V n m k + poT (paV V n m k) m n
/-- what an hour's work on the devices leaves -/
def keepP (V U : XV) : Prop := ∀ p k, (p < 9 ∨ 19 ≤ p ∨ k = 0 ∨ k = 1 ∨ k = 2 ∨ k = 4 ∨ k = 5) → U p k = V p k
def keepH (V U : XV) : Prop := ∀ p k, ((p < 9 ∧ ¬ (p = 0 ∧ k = 6)) ∨ 19 ≤ p ∨ k = 0 ∨ k = 1 ∨ k = 2 ∨ k = 4 ∨ k = 5) → ¬ (p = 0 ∧ k = 6) → U p k = V p k
theorem keepP.rf (V : XV) : keepP V V := fun _ _ _ => rfl
theorem keepP.tr {V U Z : XV} (h : keepP V U) (h2 : keepP U Z) : keepP V Z := fun p k hk => (h2 p k hk).trans (h p k hk)
theorem xs_keep (V : XV) {p k : Nat} (v : Int32) (hp : 9 ≤ p ∧ p < 19) (hk : k = 3 ∨ k = 6 ∨ k = 7 ∨ k = 8) : keepP V (xs V p k v) := fun q j hj => xs_get V v (by omega)
theorem takeV_keep (V : XV) {p q : Nat} (z : Int32) (hp : 9 ≤ p ∧ p < 19) : keepP V (takeV V p q z) := ((xs_keep V _ hp (by omega)).tr (xs_keep _ _ hp (by omega))).tr (xs_keep _ _ hp (by omega))
theorem loadV0_keep (V : XV) {p : Nat} (hp : 9 ≤ p ∧ p < 19) : keepP V (loadV0 V p) := (xs_keep V _ hp (by omega)).tr (xs_keep _ _ hp (by omega))
theorem loadV_keep (V : XV) {p : Nat} (hp : 9 ≤ p ∧ p < 19) : keepP V (loadV V p) := by
  unfold loadV
  by_cases h : loadV0 V p p 8 = 0
  · rw [if_pos h]; exact (loadV0_keep V hp).tr (xs_keep _ _ hp (by omega))
  · rw [if_neg h]; exact loadV0_keep V hp
theorem tlF_keep (V : XV) {p : Nat} (hp : 9 ≤ p ∧ p < 19) : ∀ k q, keepP V (tlF V p k q)
  | 0, _ => keepP.rf V
  | k + 1, q => by
    unfold tlF
    by_cases h : mayTakeB V p (19 + q) = true
    · rw [if_pos h]; exact takeV_keep V _ hp
    · rw [if_neg h]; exact tlF_keep V hp k (q + 1)
theorem poStep_keep (V : XV) (m : Nat) {d : Nat} (hd : d < 10) : keepP V (poStep V m d) := by
  unfold poStep
  by_cases h : canLoadB (tlF V (9 + d) m 0) (9 + d) (tlF V (9 + d) m 0 0 6) = true
  · rw [if_pos h]; exact (tlF_keep V (by omega) m 0).tr (loadV_keep _ (by omega))
  · rw [if_neg h]; exact tlF_keep V (by omega) m 0
theorem poV_keep (V : XV) (m : Nat) : ∀ d, d ≤ 10 → keepP V (poV V m d)
  | 0, _ => keepP.rf V
  | d + 1, h => (poV_keep V m d (by omega)).tr (poStep_keep _ m (by omega))
theorem safe_keep {V U : XV} (h : safeV V) (hk : keepP V U) : safeV U := ⟨fun p hp => by rw [hk p 2 (by omega)]; exact h.1 p hp, fun q hq => by rw [hk q 1 (by omega)]; exact h.2 q hq⟩
theorem hourV_keep (V : XV) (m : Nat) {n : Nat} (hn : n ≤ 10) {p k : Nat} (h : p < 9 ∨ 19 ≤ p ∨ k = 0 ∨ k = 1 ∨ k = 2 ∨ k = 4 ∨ k = 5) (h6 : ¬ (p = 0 ∧ k = 6)) : hourV V n m p k = V p k := by
  unfold hourV
  rw [xs_get _ _ h6]
  exact poV_keep V m n hn p k h
theorem paV_keep (V : XV) (m : Nat) {n : Nat} (hn : n ≤ 10) {p k : Nat} (h : p < 9 ∨ 19 ≤ p ∨ k = 0 ∨ k = 1 ∨ k = 2 ∨ k = 4 ∨ k = 5) (h6 : ¬ (p = 0 ∧ k = 6)) : ∀ j, paV V n m j p k = V p k
  | 0 => rfl
  | j + 1 => (hourV_keep (paV V n m j) m hn h h6).trans (paV_keep V m hn h h6 j)
theorem safe_paV {V : XV} (hs : safeV V) (m : Nat) {n : Nat} (hn : n ≤ 10) (j : Nat) : safeV (paV V n m j) := ⟨fun p hp => by rw [paV_keep V m hn (by omega) (by omega)]; exact hs.1 p hp, fun q hq => by rw [paV_keep V m hn (by omega) (by omega)]; exact hs.2 q hq⟩
theorem nRx_h {h : Int32} (e : nRx h 1 100 = none) : ∃ N : Nat, N < 101 ∧ h = nI N := by
  unfold nRx at e
  by_cases h1 : h < 1
  · rw [if_pos h1] at e; cases e
  · rw [if_neg h1] at e
    by_cases h2 : h ≤ 100
    · refine vp_in_of (vp_in_iff.mpr ?_) (by decide)
      have a1 : ¬ h.toInt < (1 : Int32).toInt := fun z => h1 (Int32.lt_iff_toInt_lt.mpr z)
      have a2 : h.toInt ≤ (100 : Int32).toInt := Int32.le_iff_toInt_le.mp h2
      have b1 : (1 : Int32).toInt = 1 := by decide
      have b2 : (100 : Int32).toInt = 100 := by decide
      omega
    · rw [if_neg h2] at e; cases e
theorem hinX3_takeLowestCampaign_X0 : ∀ w ∈ wsX00, w ∈ wsX3_takeLowestCampaign := by decide +kernel
theorem hinX3_takeLowestCampaign_X1 : ∀ w ∈ wsX10, w ∈ wsX3_takeLowestCampaign := by decide +kernel
theorem hinX3_takeLowestCampaign_X3 : ∀ w ∈ wsX30, w ∈ wsX3_takeLowestCampaign := by decide +kernel
def rmX3_takeLowestCampaign : Room := { frames := 3, cells := 0, slots := 0, locals := 68 }
set_option maxHeartbeats 4000000 in
set_option maxRecDepth 100000 in
theorem k_X3_takeLowestCampaign (l : Launch) (D : va_G) (cy : Nat → ClassId) (a : Nat → Nat) (A : Nat → Prop) (X : va_W) (V : XV) {p0 : Nat} (hp : 9 ≤ p0 ∧ p0 < 19) {m9 : Nat} (hm : V 0 5 = nI m9) (hm6 : m9 ≤ 6) (hs : safeV V) : Met l yX3_takeLowestCampaign wsX3_takeLowestCampaign rmX3_takeLowestCampaign (va_Pc [.ref (a 0), .ref (a p0)] (xPre D (tyC cy) A (cW cy a X V))) (va_Qv (fun (u : XV) => u = tlF V p0 m9 0) (fun u t => xPost D (tyC cy) A (cW cy a X u) t) A) 0 0 A := by
  refine x_met (own := RX3) (by decide) rfl rfl (Nat.le_of_ble_eq_true rfl) rfl ?_
  intro p e s m below meth c hnm C hE
  refine x_iconst (v := 0) C dX3_takeLowestCampaign_0 (by decide) ?_
  refine x_istore_n (i := 2) C dX3_takeLowestCampaign_1 rfl (by decide) ?_
  refine x_subm (lv' := [(2, .int (nI 0)), (0, .ref (a 0)), (1, .ref (a p0))]) ?_ rfl
  refine x_count (N := m9) (fun q => tlF V p0 m9 0 = tlF V p0 (m9 - q) q → xA p l e rmX3_takeLowestCampaign s m _ below meth c D A 4 0 0 _ 2 [(2, .int (nI q)), (0, .ref (a 0)), (1, .ref (a p0))] [] (cW cy a X V)) ?_ ?_ rfl
  · intro hG
    refine x_iload_n (i := 2) C dX3_takeLowestCampaign_2 rfl rfl ?_
    refine x_aload_n (i := 0) C dX3_takeLowestCampaign_3 rfl rfl ?_
    refine x_getR C 5 (by decide) hinX3_takeLowestCampaign_X3 (by decide +kernel) dX3_takeLowestCampaign_4 ?_
    refine x_icmp_ge C 53 dX3_takeLowestCampaign_7 (by decide) (fun c_7 => ?_) (fun c_7 => absurd (by rw [hm]; exact nI_le (Nat.le_refl _) (by omega)) c_7)
    exact x_vret  C dX3_takeLowestCampaign_53 ⟨Nat.le_of_ble_eq_true rfl, Nat.le_of_ble_eq_true rfl⟩ (by rw [hG, Nat.sub_self]; rfl)
  intro q hq ihq hG
  refine x_iload_n (i := 2) C dX3_takeLowestCampaign_2 rfl rfl ?_
  refine x_aload_n (i := 0) C dX3_takeLowestCampaign_3 rfl rfl ?_
  refine x_getR C 5 (by decide) hinX3_takeLowestCampaign_X3 (by decide +kernel) dX3_takeLowestCampaign_4 ?_
  refine x_icmp_ge C 53 dX3_takeLowestCampaign_7 (by decide) (fun c_7 => absurd c_7 (by rw [hm]; exact nI_ge hq (by omega))) (fun c_7 => ?_)
  refine x_aload_n (i := 0) C dX3_takeLowestCampaign_10 rfl rfl ?_
  refine x_getRr C 3 (by decide) hinX3_takeLowestCampaign_X3 (by decide +kernel) dX3_takeLowestCampaign_11 ?_
  refine x_iload_n (i := 2) C dX3_takeLowestCampaign_14 rfl rfl ?_
  refine x_aaldQ (j := q) C (vp_in_nI (by omega) (by decide)) (nI_clamp (by omega)) dX3_takeLowestCampaign_15 ?_
  refine x_astore_n (i := 3) C dX3_takeLowestCampaign_16 rfl (by decide) ?_
  refine x_aload_n (i := 0) C dX3_takeLowestCampaign_17 rfl rfl ?_
  refine x_aload_n (i := 1) C dX3_takeLowestCampaign_18 rfl rfl ?_
  refine x_aload_n (i := 3) C dX3_takeLowestCampaign_19 rfl rfl ?_
  refine x_callVi C hE (k_X3_mayTake l D cy a A X _ hp (by omega) hs) (cwV 2 C.2.2.2.2.1 gX3_takeLowestCampaign_X3_mayTake rfl rfl rfl (by decide +kernel) ⟨Nat.le_of_ble_eq_true rfl, Nat.le_of_ble_eq_true rfl⟩) 0 (cW_R cy a X _) rfl rfl rfl rfl (Nat.le_of_ble_eq_true rfl) dX3_takeLowestCampaign_20 ⟨Nat.le_of_ble_eq_true rfl, Nat.le_of_ble_eq_true rfl⟩ (fun r_20 u_20 h_20 => ?_)
  obtain ⟨e8_20, e9_20⟩ := h_20
  rw [e8_20, e9_20]
  refine x_if_eq C 47 dX3_takeLowestCampaign_23 (by decide) (fun c_23 => ?_) (fun c_23 => ?_)
  · refine x_iinc (v := nI (q + 1)) C dX3_takeLowestCampaign_47 rfl (inc1 q) ?_
    refine x_goto C 2 dX3_takeLowestCampaign_50 (by decide) ?_
    refine x_subm (lv' := [(2, .int (nI (q + 1))), (0, .ref (a 0)), (1, .ref (a p0))]) ?_ rfl
    exact ihq (hG.trans (by rw [show m9 - q = (m9 - (q + 1)) + 1 by omega]; exact if_neg (b2i_z c_23)))
  refine x_aload_n (i := 1) C dX3_takeLowestCampaign_26 rfl rfl ?_
  refine x_aload_n (i := 3) C dX3_takeLowestCampaign_27 rfl rfl ?_
  refine x_aload_n (i := 0) C dX3_takeLowestCampaign_28 rfl rfl ?_
  refine x_getRr C 1 (by decide) hinX3_takeLowestCampaign_X3 (by decide +kernel) dX3_takeLowestCampaign_29 ?_
  refine x_aload_n (i := 1) C dX3_takeLowestCampaign_32 rfl rfl ?_
  refine x_getD C 2 (by omega) (by decide) hinX3_takeLowestCampaign_X1 (by decide +kernel) dX3_takeLowestCampaign_33 ?_
  refine x_aload_n (i := 3) C dX3_takeLowestCampaign_36 rfl rfl ?_
  refine x_getK C 1 (by omega) (by decide) hinX3_takeLowestCampaign_X0 (by decide +kernel) dX3_takeLowestCampaign_37 ?_
  refine x_callVi C hE (k_X2_leastBytes l D cy a A X _ _ _ (hs.1 _ hp) (hs.2 _ (by omega))) (cwV 2 C.2.2.2.2.1 gX3_takeLowestCampaign_X2_leastBytes rfl rfl rfl (by decide +kernel) ⟨Nat.le_of_ble_eq_true rfl, Nat.le_of_ble_eq_true rfl⟩) 2 (cW_W cy a X _) rfl rfl rfl rfl (Nat.le_of_ble_eq_true rfl) dX3_takeLowestCampaign_40 ⟨Nat.le_of_ble_eq_true rfl, Nat.le_of_ble_eq_true rfl⟩ (fun r_40 u_40 h_40 => ?_)
  obtain ⟨e8_40, e9_40⟩ := h_40
  rw [e8_40, e9_40]
  refine x_callVv C hE (k_X1_take l D cy a A X _ _ hp (by omega)) (cwV 2 C.2.2.2.2.1 gX3_takeLowestCampaign_X1_take rfl rfl rfl (by decide +kernel) ⟨Nat.le_of_ble_eq_true rfl, Nat.le_of_ble_eq_true rfl⟩) _ (cW_D cy a X _ (by omega)) rfl rfl rfl rfl (Nat.le_of_ble_eq_true rfl) dX3_takeLowestCampaign_43 ⟨Nat.le_of_ble_eq_true rfl, Nat.le_of_ble_eq_true rfl⟩ (fun u_43 h_43 => ?_)
  rw [h_43]
  exact x_vret  C dX3_takeLowestCampaign_46 ⟨Nat.le_of_ble_eq_true rfl, Nat.le_of_ble_eq_true rfl⟩ (by rw [hG, show m9 - q = (m9 - (q + 1)) + 1 by omega]; exact (if_pos (b2i_n0 c_23)).symm)
theorem hinX3_passOneHour_X1 : ∀ w ∈ wsX10, w ∈ wsX3_passOneHour := by decide +kernel
theorem hinX3_passOneHour_X3 : ∀ w ∈ wsX30, w ∈ wsX3_passOneHour := by decide +kernel
def rmX3_passOneHour : Room := { frames := 4, cells := 0, slots := 0, locals := 91 }
set_option maxHeartbeats 4000000 in
set_option maxRecDepth 100000 in
theorem k_X3_passOneHour (l : Launch) (D : va_G) (cy : Nat → ClassId) (a : Nat → Nat) (A : Nat → Prop) (X : va_W) (V : XV)  {n m9 : Nat} (hn : V 0 4 = nI n) (hn10 : n ≤ 10) (hm : V 0 5 = nI m9) (hm6 : m9 ≤ 6) (hs : safeV V) : Met l yX3_passOneHour wsX3_passOneHour rmX3_passOneHour (va_Pc [.ref (a 0)] (xPre D (tyC cy) A (cW cy a X V))) (va_Qi (fun (r : Int32) (u : XV) => r = poT V m9 n ∧ u = hourV V n m9) (fun u t => xPost D (tyC cy) A (cW cy a X u) t) A) 0 0 A := by
  refine x_met (own := RX3) (by decide) rfl rfl (Nat.le_of_ble_eq_true rfl) rfl ?_
  intro p e s m below meth c hnm C hE
  refine x_iconst (v := 0) C dX3_passOneHour_0 (by decide) ?_
  refine x_istore_n (i := 1) C dX3_passOneHour_1 rfl (by decide) ?_
  refine x_iconst (v := 0) C dX3_passOneHour_2 (by decide) ?_
  refine x_istore_n (i := 2) C dX3_passOneHour_3 rfl (by decide) ?_
  refine x_subm (lv' := [(2, .int (nI 0)), (1, .int (poT V m9 0)), (0, .ref (a 0))]) ?_ rfl
  refine x_count (N := n) (fun d => xA p l e rmX3_passOneHour s m _ below meth c D A 4 0 0 _ 4 [(2, .int (nI d)), (1, .int (poT V m9 d)), (0, .ref (a 0))] [] (cW cy a X (poV V m9 d))) ?_ ?_
  · refine x_iload_n (i := 2) C dX3_passOneHour_4 rfl rfl ?_
    refine x_aload_n (i := 0) C dX3_passOneHour_5 rfl rfl ?_
    refine x_getR C 4 (by decide) hinX3_passOneHour_X3 (by decide +kernel) dX3_passOneHour_6 ?_
    refine x_icmp_ge C 56 dX3_passOneHour_9 (by decide) (fun c_9 => ?_) (fun c_9 => absurd (by rw [poV_keep V m9 n hn10 0 4 (by omega), hn]; exact nI_le (Nat.le_refl _) (by omega)) c_9)
    refine x_aload_n (i := 0) C dX3_passOneHour_56 rfl rfl ?_
    refine x_aload_n (i := 0) C dX3_passOneHour_57 rfl rfl ?_
    refine x_getR C 6 (by decide) hinX3_passOneHour_X3 (by decide +kernel) dX3_passOneHour_58 ?_
    refine x_iconst (v := 1) C dX3_passOneHour_61 (by decide) ?_
    refine x_iadd C dX3_passOneHour_62 ?_
    refine x_bipush (v := 24) C dX3_passOneHour_63 (by decide) ?_
    refine x_irem C dX3_passOneHour_65 (by decide) ?_
    refine x_putR C 6 (by decide) hinX3_passOneHour_X3 (by decide +kernel) dX3_passOneHour_66 ?_
    refine x_iload_n (i := 1) C dX3_passOneHour_69 rfl rfl ?_
    exact x_iret  C dX3_passOneHour_70 ⟨Nat.le_of_ble_eq_true rfl, Nat.le_of_ble_eq_true rfl⟩ ⟨rfl, rfl⟩
  intro d hd ihd
  refine x_iload_n (i := 2) C dX3_passOneHour_4 rfl rfl ?_
  refine x_aload_n (i := 0) C dX3_passOneHour_5 rfl rfl ?_
  refine x_getR C 4 (by decide) hinX3_passOneHour_X3 (by decide +kernel) dX3_passOneHour_6 ?_
  refine x_icmp_ge C 56 dX3_passOneHour_9 (by decide) (fun c_9 => absurd c_9 (by rw [(poV_keep V m9 d (by omega)) 0 4 (by omega), hn]; exact nI_ge hd (by omega))) (fun c_9 => ?_)
  refine x_aload_n (i := 0) C dX3_passOneHour_12 rfl rfl ?_
  refine x_getRr C 2 (by decide) hinX3_passOneHour_X3 (by decide +kernel) dX3_passOneHour_13 ?_
  refine x_iload_n (i := 2) C dX3_passOneHour_16 rfl rfl ?_
  refine x_aaldF (j := d) C (vp_in_nI (by omega) (by decide)) (nI_clamp (by omega)) dX3_passOneHour_17 ?_
  refine x_astore_n (i := 3) C dX3_passOneHour_18 rfl (by decide) ?_
  refine x_aload_n (i := 0) C dX3_passOneHour_19 rfl rfl ?_
  refine x_aload_n (i := 3) C dX3_passOneHour_20 rfl rfl ?_
  refine x_callVv C hE (k_X3_takeLowestCampaign l D cy a A X _ (by omega) (((poV_keep V m9 d (by omega)) 0 5 (by omega)).trans hm) hm6 (safe_keep hs (poV_keep V m9 d (by omega)))) (cwV 1 C.2.2.2.2.1 gX3_passOneHour_X3_takeLowestCampaign rfl rfl rfl (by decide +kernel) ⟨Nat.le_of_ble_eq_true rfl, Nat.le_of_ble_eq_true rfl⟩) 0 (cW_R cy a X _) rfl rfl rfl rfl (Nat.le_of_ble_eq_true rfl) dX3_passOneHour_21 ⟨Nat.le_of_ble_eq_true rfl, Nat.le_of_ble_eq_true rfl⟩ (fun u_21 h_21 => ?_)
  rw [h_21]
  refine x_aload_n (i := 3) C dX3_passOneHour_24 rfl rfl ?_
  refine x_aload_n (i := 0) C dX3_passOneHour_25 rfl rfl ?_
  refine x_getR C 6 (by decide) hinX3_passOneHour_X3 (by decide +kernel) dX3_passOneHour_26 ?_
  refine x_callVi C hE (k_X1_canLoad l D cy a A X _ _ (by omega)) (cwV 1 C.2.2.2.2.1 gX3_passOneHour_X1_canLoad rfl rfl rfl (by decide +kernel) ⟨Nat.le_of_ble_eq_true rfl, Nat.le_of_ble_eq_true rfl⟩) _ (cW_D cy a X _ (by omega)) rfl rfl rfl rfl (Nat.le_of_ble_eq_true rfl) dX3_passOneHour_29 ⟨Nat.le_of_ble_eq_true rfl, Nat.le_of_ble_eq_true rfl⟩ (fun r_29 u_29 h_29 => ?_)
  obtain ⟨e8_29, e9_29⟩ := h_29
  rw [e8_29, e9_29]
  refine x_if_eq C 50 dX3_passOneHour_32 (by decide) (fun c_32 => ?_) (fun c_32 => ?_)
  · refine x_iinc (v := nI (d + 1)) C dX3_passOneHour_50 rfl (inc1 d) ?_
    refine x_goto C 4 dX3_passOneHour_53 (by decide) ?_
    first | (have e8 : poV V m9 (d + 1) = (tlF (poV V m9 d) (9 + d) m9 0) := if_neg (b2i_z c_32); have e9 : poT V m9 (d + 1) = poT V m9 d := if_neg (b2i_z c_32); rw [e8, e9] at ihd; exact x_subm ihd rfl) | (have e8 : poV V m9 (d + 1) = loadV (tlF (poV V m9 d) (9 + d) m9 0) (9 + d) := if_pos (b2i_n0 c_32); have e9 : poT V m9 (d + 1) = poT V m9 d := (if_pos (b2i_n0 c_32)).trans (if_neg c_44); rw [e8, e9] at ihd; exact x_subm ihd rfl) | (have e8 : poV V m9 (d + 1) = loadV (tlF (poV V m9 d) (9 + d) m9 0) (9 + d) := if_pos (b2i_n0 c_32); have e9 : poT V m9 (d + 1) = poT V m9 d + 1 := (if_pos (b2i_n0 c_32)).trans (if_pos c_44); rw [e8, e9] at ihd; exact x_subm ihd rfl)
  refine x_aload_n (i := 3) C dX3_passOneHour_35 rfl rfl ?_
  refine x_callVv C hE (k_X1_load l D cy a A X _ (by omega)) (cwV 0 C.2.2.2.2.1 gX3_passOneHour_X1_load rfl rfl rfl (by decide +kernel) ⟨Nat.le_of_ble_eq_true rfl, Nat.le_of_ble_eq_true rfl⟩) _ (cW_D cy a X _ (by omega)) rfl rfl rfl rfl (Nat.le_of_ble_eq_true rfl) dX3_passOneHour_36 ⟨Nat.le_of_ble_eq_true rfl, Nat.le_of_ble_eq_true rfl⟩ (fun u_36 h_36 => ?_)
  rw [h_36]
  refine x_aload_n (i := 3) C dX3_passOneHour_39 rfl rfl ?_
  refine x_getD C 6 (by omega) (by decide) hinX3_passOneHour_X1 (by decide +kernel) dX3_passOneHour_40 ?_
  refine x_iconst (v := 2) C dX3_passOneHour_43 (by decide) ?_
  refine x_icmp_ne C 50 dX3_passOneHour_44 (by decide) (fun c_44 => ?_) (fun c_44 => ?_)
  · refine x_iinc (v := nI (d + 1)) C dX3_passOneHour_50 rfl (inc1 d) ?_
    refine x_goto C 4 dX3_passOneHour_53 (by decide) ?_
    first | (have e8 : poV V m9 (d + 1) = (tlF (poV V m9 d) (9 + d) m9 0) := if_neg (b2i_z c_32); have e9 : poT V m9 (d + 1) = poT V m9 d := if_neg (b2i_z c_32); rw [e8, e9] at ihd; exact x_subm ihd rfl) | (have e8 : poV V m9 (d + 1) = loadV (tlF (poV V m9 d) (9 + d) m9 0) (9 + d) := if_pos (b2i_n0 c_32); have e9 : poT V m9 (d + 1) = poT V m9 d := (if_pos (b2i_n0 c_32)).trans (if_neg c_44); rw [e8, e9] at ihd; exact x_subm ihd rfl) | (have e8 : poV V m9 (d + 1) = loadV (tlF (poV V m9 d) (9 + d) m9 0) (9 + d) := if_pos (b2i_n0 c_32); have e9 : poT V m9 (d + 1) = poT V m9 d + 1 := (if_pos (b2i_n0 c_32)).trans (if_pos c_44); rw [e8, e9] at ihd; exact x_subm ihd rfl)
  refine x_iinc (v := poT V m9 d + 1) C dX3_passOneHour_47 rfl rfl ?_
  refine x_iinc (v := nI (d + 1)) C dX3_passOneHour_50 rfl (inc1 d) ?_
  refine x_goto C 4 dX3_passOneHour_53 (by decide) ?_
  first | (have e8 : poV V m9 (d + 1) = (tlF (poV V m9 d) (9 + d) m9 0) := if_neg (b2i_z c_32); have e9 : poT V m9 (d + 1) = poT V m9 d := if_neg (b2i_z c_32); rw [e8, e9] at ihd; exact x_subm ihd rfl) | (have e8 : poV V m9 (d + 1) = loadV (tlF (poV V m9 d) (9 + d) m9 0) (9 + d) := if_pos (b2i_n0 c_32); have e9 : poT V m9 (d + 1) = poT V m9 d := (if_pos (b2i_n0 c_32)).trans (if_neg c_44); rw [e8, e9] at ihd; exact x_subm ihd rfl) | (have e8 : poV V m9 (d + 1) = loadV (tlF (poV V m9 d) (9 + d) m9 0) (9 + d) := if_pos (b2i_n0 c_32); have e9 : poT V m9 (d + 1) = poT V m9 d + 1 := (if_pos (b2i_n0 c_32)).trans (if_pos c_44); rw [e8, e9] at ihd; exact x_subm ihd rfl)
def rmX3_pass : Room := { frames := 7, cells := 1, slots := 6, locals := 114 }
set_option maxHeartbeats 4000000 in
set_option maxRecDepth 100000 in
theorem k_X3_pass (l : Launch) (hfl : l.stackTraces = false) (D : va_G) (cy : Nat → ClassId) (a : Nat → Nat) (A : Nat → Prop) (X : va_W) (V : XV) (h : Int32) {n m9 : Nat} (hn : V 0 4 = nI n) (hn10 : n ≤ 10) (hm : V 0 5 = nI m9) (hm6 : m9 ≤ 6) (hs : safeV V) : vx_Met l yX3_pass wsX3_pass rmX3_pass (va_Pc [.ref (a 0), .int h] (xPre D (tyC cy) A (cW cy a X V))) (va_Qi (fun (r : Int32) (u : XV) => nRx h 1 100 = none ∧ r = paT V n m9 h.toNatClampNeg ∧ u = paV V n m9 h.toNatClampNeg) (fun u t => xPost D (tyC cy) A (cW cy a X u) t) A) (xX D (tyC cy) A (cW cy a X V) (nRx h 1 100)) 1 6 A := by
  refine x_metX (own := RX3) (by decide) rfl rfl (Nat.le_of_ble_eq_true rfl) rfl ?_
  intro p e s m below meth c hout C hE
  refine x_iload_n (i := 1) C dX3_pass_0 rfl rfl ?_
  refine x_iconst (v := 1) C dX3_pass_1 (by decide) ?_
  refine x_bipush (v := 100) C dX3_pass_2 (by decide) ?_
  refine x_callSvX hout C hE (k_X3_needRange l hfl D _ A _ _ _ _) (va_cwS 3 C.2.2.2.2.1 gX3_pass_X3_needRange rfl rfl rfl (by decide +kernel) ⟨Nat.le_of_ble_eq_true rfl, Nat.le_of_ble_eq_true rfl⟩)  rfl rfl (Nat.le_of_ble_eq_true rfl) dX3_pass_4 ⟨Nat.le_of_ble_eq_true rfl, Nat.le_of_ble_eq_true rfl⟩ ⟨Nat.le_of_ble_eq_true rfl, Nat.le_of_ble_eq_true rfl⟩ (fun E h9 => h9) (fun u_4 h_4 => ?_)
  cases u_4
  obtain ⟨N, hN, eh⟩ := nRx_h h_4
  refine x_iconst (v := 0) C dX3_pass_7 (by decide) ?_
  refine x_istore_n (i := 2) C dX3_pass_8 rfl (by decide) ?_
  refine x_iconst (v := 0) C dX3_pass_9 (by decide) ?_
  refine x_istore_n (i := 3) C dX3_pass_10 rfl (by decide) ?_
  refine x_subm (lv' := [(3, .int (nI 0)), (2, .int (paT V n m9 0)), (0, .ref (a 0)), (1, .int h)]) ?_ rfl
  refine x_count (N := N) (fun k => xA p l e rmX3_pass s m _ below meth c D A 4 (0 + 1) (0 + 6) _ 11 [(3, .int (nI k)), (2, .int (paT V n m9 k)), (0, .ref (a 0)), (1, .int h)] [] (cW cy a X (paV V n m9 k))) ?_ ?_
  · refine x_iload_n (i := 3) C dX3_pass_11 rfl rfl ?_
    refine x_iload_n (i := 1) C dX3_pass_12 rfl rfl ?_
    refine x_icmp_ge C 29 dX3_pass_13 (by decide) (fun c_13 => ?_) (fun c_13 => absurd (by rw [eh]; exact nI_le (Nat.le_refl _) (by omega)) c_13)
    refine x_iload_n (i := 2) C dX3_pass_29 rfl rfl ?_
    exact x_iretX  C dX3_pass_30 ⟨Nat.le_of_ble_eq_true rfl, Nat.le_of_ble_eq_true rfl⟩ ⟨h_4, by rw [eh, nI_clamp (by omega)], by rw [eh, nI_clamp (by omega)]⟩
  intro k hk ihk
  refine x_iload_n (i := 3) C dX3_pass_11 rfl rfl ?_
  refine x_iload_n (i := 1) C dX3_pass_12 rfl rfl ?_
  refine x_icmp_ge C 29 dX3_pass_13 (by decide) (fun c_13 => absurd c_13 (by rw [eh]; exact nI_ge hk (by omega))) (fun c_13 => ?_)
  refine x_iload_n (i := 2) C dX3_pass_16 rfl rfl ?_
  refine x_aload_n (i := 0) C dX3_pass_17 rfl rfl ?_
  refine x_callVi C hE (k_X3_passOneHour l D cy a A X _ ((paV_keep V m9 hn10 (by omega) (by omega) k).trans hn) hn10 ((paV_keep V m9 hn10 (by omega) (by omega) k).trans hm) hm6 (safe_paV hs m9 hn10 k)) (cwV 0 C.2.2.2.2.1 gX3_pass_X3_passOneHour rfl rfl rfl (by decide +kernel) ⟨Nat.le_of_ble_eq_true rfl, Nat.le_of_ble_eq_true rfl⟩) 0 (cW_R cy a X _) rfl rfl rfl rfl (Nat.le_of_ble_eq_true rfl) dX3_pass_18 ⟨Nat.le_of_ble_eq_true rfl, Nat.le_of_ble_eq_true rfl⟩ (fun r_18 u_18 h_18 => ?_)
  obtain ⟨e8_18, e9_18⟩ := h_18
  rw [e8_18, e9_18]
  refine x_iadd C dX3_pass_21 ?_
  refine x_istore_n (i := 2) C dX3_pass_22 rfl (by decide) ?_
  refine x_iinc (v := nI (k + 1)) C dX3_pass_23 rfl (inc1 k) ?_
  refine x_goto C 11 dX3_pass_26 (by decide) ?_
  refine x_subm (lv' := [(3, .int (nI (k + 1))), (2, .int (paT V n m9 (k + 1))), (0, .ref (a 0)), (1, .int h)]) ?_ rfl
  exact ihk
