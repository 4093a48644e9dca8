/-! ===== BEGIN ways2: the search along all ways ===== -/
theorem b2i_n0 {b : Bool} (h : ¬ b2i b = 0) : b = true := by
  cases b with
  | true => rfl
  | false => exact absurd rfl h
theorem b2i_z {b : Bool} (h : b2i b = 0) : ¬ b = true := by
  cases b with
  | true => exact absurd h (by decide)
  | false => decide
def rmLA (k : Nat) : Room := { frames := k + 1, cells := 0, slots := 0, locals := 27 * k + 30 }
set_option maxHeartbeats 4000000 in
set_option maxRecDepth 100000 in
theorem k_X2_leastAlong (l : Launch) (D : va_G) (cy : Nat → ClassId) (a : Nat → Nat) (A : Nat → Prop) (X : va_W) (V : XV) {to_ : Nat} (ht : to_ < 8) : ∀ k, k ≤ 8 → ∀ at_, at_ < 8 → ∀ met : Int32, Met l yX2_leastAlong wsX2_leastAlong (rmLA k) (va_Pc [.ref (a 6), .int (nI at_), .int (nI to_), .int met, .int (nI (8 - k))] (xPre D (tyC cy) A (cW cy a X V))) (va_Qi (fun (r : Int32) (u : XV) => r = la V to_ k at_ met ∧ u = V) (fun u t => xPost D (tyC cy) A (cW cy a X u) t) A) 0 0 A := by
  intro k
  induction k with
  | zero =>
    intro hk at_ ha met
    refine x_met (own := RX2) (by decide) rfl rfl (Nat.le_of_ble_eq_true rfl) rfl ?_
    intro p e s m below meth c hnm C hE
    refine x_iload_n (i := 1) C dX2_leastAlong_0 rfl rfl ?_
    refine x_iload_n (i := 2) C dX2_leastAlong_1 rfl rfl ?_
    refine x_icmp_ne C 7 dX2_leastAlong_2 (by decide) (fun c_2 => ?_) (fun c_2 => ?_)
    · refine x_iload (i := 4) C dX2_leastAlong_7 rfl ?_
      refine x_bipush (v := 8) C dX2_leastAlong_9 (by decide) ?_
      refine x_icmp_lt C 17 dX2_leastAlong_11 (by decide) (fun c_11 => absurd c_11 (by decide)) (fun c_11 => ?_)
      refine x_ldc (v := 1000000) C (by decide +kernel) dX2_leastAlong_14 ?_
      exact x_iret  C dX2_leastAlong_16 ⟨(by first | exact Nat.le_of_ble_eq_true rfl | (simp [rmLA, rmX3_has, Value.category]; done) | (simp [rmLA, rmX3_has, Value.category]; omega)), (by first | exact Nat.le_of_ble_eq_true rfl | (simp [rmLA, rmX3_has, Value.category]; done) | (simp [rmLA, rmX3_has, Value.category]; omega))⟩ ⟨(if_neg (fun z => c_2 ((nI_eq (by omega) (by omega)).mpr z))).symm, rfl⟩
    refine x_iconst (v := 0) C dX2_leastAlong_5 (by decide) ?_
    exact x_iret  C dX2_leastAlong_6 ⟨(by first | exact Nat.le_of_ble_eq_true rfl | (simp [rmLA, rmX3_has, Value.category]; done) | (simp [rmLA, rmX3_has, Value.category]; omega)), (by first | exact Nat.le_of_ble_eq_true rfl | (simp [rmLA, rmX3_has, Value.category]; done) | (simp [rmLA, rmX3_has, Value.category]; omega))⟩ ⟨(if_pos ((nI_eq (by omega) (by omega)).mp c_2)).symm, rfl⟩
  | succ k ih =>
    intro hk at_ ha met
    refine x_met (own := RX2) (by decide) rfl rfl (Nat.le_of_ble_eq_true rfl) rfl ?_
    intro p e s m below meth c hnm C hE
    refine x_iload_n (i := 1) C dX2_leastAlong_0 rfl rfl ?_
    refine x_iload_n (i := 2) C dX2_leastAlong_1 rfl rfl ?_
    refine x_icmp_ne C 7 dX2_leastAlong_2 (by decide) (fun c_2 => ?_) (fun c_2 => ?_)
    · refine x_iload (i := 4) C dX2_leastAlong_7 rfl ?_
      refine x_bipush (v := 8) C dX2_leastAlong_9 (by decide) ?_
      refine x_icmp_lt C 17 dX2_leastAlong_11 (by decide) (fun c_11 => ?_) (fun c_11 => absurd (nI_lt (a := 8 - (k + 1)) (b := 8) (by omega) (by decide)) c_11)
      refine x_ldc (v := 1000000) C (by decide +kernel) dX2_leastAlong_17 ?_
      refine x_istore (i := 5) C dX2_leastAlong_19 (by decide) ?_
      refine x_iconst (v := 0) C dX2_leastAlong_21 (by decide) ?_
      refine x_istore (i := 6) C dX2_leastAlong_22 (by decide) ?_
      refine x_subm (lv' := [(6, .int (nI 0)), (5, .int (laL V (la V to_ k) at_ met 0)), (0, .ref (a 6)), (1, .int (nI at_)), (2, .int (nI to_)), (3, .int met), (4, .int (nI (8 - (k + 1))))]) ?_ rfl
      refine x_count (N := 8) (fun n => xA p l e (rmLA (k + 1)) s m _ below meth c D A 8 0 0 _ 24 [(6, .int (nI n)), (5, .int (laL V (la V to_ k) at_ met n)), (0, .ref (a 6)), (1, .int (nI at_)), (2, .int (nI to_)), (3, .int met), (4, .int (nI (8 - (k + 1))))] [] (cW cy a X V)) ?_ ?_
      · refine x_iload (i := 6) C dX2_leastAlong_24 rfl ?_
        refine x_bipush (v := 8) C dX2_leastAlong_26 (by decide) ?_
        refine x_icmp_ge C 91 dX2_leastAlong_28 (by decide) (fun c_28 => ?_) (fun c_28 => absurd le8 c_28)
        refine x_iload (i := 5) C dX2_leastAlong_91 rfl ?_
        exact x_iret  C dX2_leastAlong_93 ⟨(by first | exact Nat.le_of_ble_eq_true rfl | (simp [rmLA, rmX3_has, Value.category]; done) | (simp [rmLA, rmX3_has, Value.category]; omega)), (by first | exact Nat.le_of_ble_eq_true rfl | (simp [rmLA, rmX3_has, Value.category]; done) | (simp [rmLA, rmX3_has, Value.category]; omega))⟩ ⟨(if_neg (fun z => c_2 ((nI_eq (by omega) (by omega)).mpr z))).symm, rfl⟩
      intro n hn ihn
      refine x_iload (i := 6) C dX2_leastAlong_24 rfl ?_
      refine x_bipush (v := 8) C dX2_leastAlong_26 (by decide) ?_
      refine x_icmp_ge C 91 dX2_leastAlong_28 (by decide) (fun c_28 => absurd c_28 (lt8 hn)) (fun c_28 => ?_)
      refine x_iload_n (i := 3) C dX2_leastAlong_31 rfl rfl ?_
      refine x_iload (i := 6) C dX2_leastAlong_32 rfl ?_
      refine x_callNi C hE (k_X3_has l D _ A _ _ _) (⟨va_cnB (host := "Ringroll") 2 C.2.2.2.2.1 ggX2_leastAlong_X3_has rfl rfl rfl (hE.1 _ (List.mem_of_getElem? (i := 0) rfl)) (C.2.2.2.2.1 _ (by decide +kernel)) (by decide +kernel) ⟨(by first | exact Nat.le_of_ble_eq_true rfl | (simp [rmLA, rmX3_has, Value.category]; done) | (simp [rmLA, rmX3_has, Value.category]; omega)), (by first | exact Nat.le_of_ble_eq_true rfl | (simp [rmLA, rmX3_has, Value.category]; done) | (simp [rmLA, rmX3_has, Value.category]; omega))⟩, C.2.2.2.2.1 _ (by decide +kernel), trivial⟩)  rfl rfl ((by first | exact Nat.le_of_ble_eq_true rfl | (simp [rmLA, rmX3_has, Value.category]; done) | (simp [rmLA, rmX3_has, Value.category]; omega))) dX2_leastAlong_34 ⟨(by first | exact Nat.le_of_ble_eq_true rfl | (simp [rmLA, rmX3_has, Value.category]; done) | (simp [rmLA, rmX3_has, Value.category]; omega)), (by first | exact Nat.le_of_ble_eq_true rfl | (simp [rmLA, rmX3_has, Value.category]; done) | (simp [rmLA, rmX3_has, Value.category]; omega))⟩ (fun r_34 u_34 h_34 => ?_)
      subst h_34
      refine x_if_ne C 85 dX2_leastAlong_37 (by decide) (fun c_37 => ?_) (fun c_37 => ?_)
      · refine x_iinc (v := nI (n + 1)) C dX2_leastAlong_85 rfl (inc1 n) ?_
        refine x_goto C 24 dX2_leastAlong_88 (by decide) ?_
        first | (have e9 : laL V (la V to_ k) at_ met (n + 1) = laL V (la V to_ k) at_ met n := if_pos (b2i_n0 c_37); rw [e9] at ihn; exact x_subm ihn rfl) | (have e9 : laL V (la V to_ k) at_ met (n + 1) = laL V (la V to_ k) at_ met n := (if_neg (b2i_z c_37)).trans (if_pos c_47); rw [e9] at ihn; exact x_subm ihn rfl) | (have e9 : laL V (la V to_ k) at_ met (n + 1) = minI (laL V (la V to_ k) at_ met n) (V (25 + at_) n + la V to_ k n (met ||| (1 <<< (nI n &&& 31)))) := (if_neg (b2i_z c_37)).trans (if_neg c_47); rw [e9] at ihn; exact x_subm ihn rfl)
      refine x_aload_n (i := 0) C dX2_leastAlong_40 rfl rfl ?_
      refine x_iload_n (i := 1) C dX2_leastAlong_41 rfl rfl ?_
      refine x_aaldDe C (in8 ha) (cl8 ha) dX2_leastAlong_42 ?_
      refine x_iload (i := 6) C dX2_leastAlong_43 rfl ?_
      refine x_ialdC C (by unfold cI; omega) (in8 hn) (cl8 hn) dX2_leastAlong_45 ?_
      refine x_iconst (v := (-1)) C dX2_leastAlong_46 (by decide) ?_
      refine x_icmp_eq C 85 dX2_leastAlong_47 (by decide) (fun c_47 => ?_) (fun c_47 => ?_)
      · refine x_iinc (v := nI (n + 1)) C dX2_leastAlong_85 rfl (inc1 n) ?_
        refine x_goto C 24 dX2_leastAlong_88 (by decide) ?_
        first | (have e9 : laL V (la V to_ k) at_ met (n + 1) = laL V (la V to_ k) at_ met n := if_pos (b2i_n0 c_37); rw [e9] at ihn; exact x_subm ihn rfl) | (have e9 : laL V (la V to_ k) at_ met (n + 1) = laL V (la V to_ k) at_ met n := (if_neg (b2i_z c_37)).trans (if_pos c_47); rw [e9] at ihn; exact x_subm ihn rfl) | (have e9 : laL V (la V to_ k) at_ met (n + 1) = minI (laL V (la V to_ k) at_ met n) (V (25 + at_) n + la V to_ k n (met ||| (1 <<< (nI n &&& 31)))) := (if_neg (b2i_z c_37)).trans (if_neg c_47); rw [e9] at ihn; exact x_subm ihn rfl)
      refine x_aload_n (i := 0) C dX2_leastAlong_50 rfl rfl ?_
      refine x_iload (i := 6) C dX2_leastAlong_51 rfl ?_
      refine x_iload_n (i := 2) C dX2_leastAlong_53 rfl rfl ?_
      refine x_iload_n (i := 3) C dX2_leastAlong_54 rfl rfl ?_
      refine x_iconst (v := 1) C dX2_leastAlong_55 (by decide) ?_
      refine x_iload (i := 6) C dX2_leastAlong_56 rfl ?_
      refine x_ishl C dX2_leastAlong_58 ?_
      refine x_ior C dX2_leastAlong_59 ?_
      refine x_iload (i := 4) C dX2_leastAlong_60 rfl ?_
      refine x_iconst (v := 1) C dX2_leastAlong_62 (by decide) ?_
      refine x_iadd C dX2_leastAlong_63 ?_
      refine x_topi (y := nI (8 - k)) (by rw [nI_1]; congr 1; omega) ?_
      refine x_callSi C hE (ih (by omega) n hn _) (va_cwS 5 C.2.2.2.2.1 gX2_leastAlong_X2_leastAlong rfl rfl rfl (by decide +kernel) ⟨(by first | exact Nat.le_of_ble_eq_true rfl | (simp [rmLA, rmX3_has, Value.category]; done) | (simp [rmLA, rmX3_has, Value.category]; omega)), (by first | exact Nat.le_of_ble_eq_true rfl | (simp [rmLA, rmX3_has, Value.category]; done) | (simp [rmLA, rmX3_has, Value.category]; omega))⟩)  rfl rfl ((by first | exact Nat.le_of_ble_eq_true rfl | (simp [rmLA, rmX3_has, Value.category]; done) | (simp [rmLA, rmX3_has, Value.category]; omega))) dX2_leastAlong_64 ⟨(by first | exact Nat.le_of_ble_eq_true rfl | (simp [rmLA, rmX3_has, Value.category]; done) | (simp [rmLA, rmX3_has, Value.category]; omega)), (by first | exact Nat.le_of_ble_eq_true rfl | (simp [rmLA, rmX3_has, Value.category]; done) | (simp [rmLA, rmX3_has, Value.category]; omega))⟩ (fun r_64 u_64 h_64 => ?_)
      obtain ⟨rfl, e9_64⟩ := h_64
      rw [e9_64]
      refine x_istore (i := 7) C dX2_leastAlong_67 (by decide) ?_
      refine x_iload (i := 5) C dX2_leastAlong_69 rfl ?_
      refine x_aload_n (i := 0) C dX2_leastAlong_71 rfl rfl ?_
      refine x_iload_n (i := 1) C dX2_leastAlong_72 rfl rfl ?_
      refine x_aaldDe C (in8 ha) (cl8 ha) dX2_leastAlong_73 ?_
      refine x_iload (i := 6) C dX2_leastAlong_74 rfl ?_
      refine x_ialdC C (by unfold cI; omega) (in8 hn) (cl8 hn) dX2_leastAlong_76 ?_
      refine x_iload (i := 7) C dX2_leastAlong_77 rfl ?_
      refine x_iadd C dX2_leastAlong_79 ?_
      refine x_min C (by decide +kernel) (by decide +kernel) (by decide +kernel) (by decide +kernel) ⟨(by first | exact Nat.le_of_ble_eq_true rfl | (simp [rmLA, rmX3_has, Value.category]; done) | (simp [rmLA, rmX3_has, Value.category]; omega)), (by first | exact Nat.le_of_ble_eq_true rfl | (simp [rmLA, rmX3_has, Value.category]; done) | (simp [rmLA, rmX3_has, Value.category]; omega)), (by first | exact Nat.le_of_ble_eq_true rfl | (simp [rmLA, rmX3_has, Value.category]; done) | (simp [rmLA, rmX3_has, Value.category]; omega)), (by first | exact Nat.le_of_ble_eq_true rfl | (simp [rmLA, rmX3_has, Value.category]; done) | (simp [rmLA, rmX3_has, Value.category]; omega))⟩ dX2_leastAlong_80 rfl ?_
      refine x_istore (i := 5) C dX2_leastAlong_83 (by decide) ?_
      refine x_iinc (v := nI (n + 1)) C dX2_leastAlong_85 rfl (inc1 n) ?_
      refine x_goto C 24 dX2_leastAlong_88 (by decide) ?_
      first | (have e9 : laL V (la V to_ k) at_ met (n + 1) = laL V (la V to_ k) at_ met n := if_pos (b2i_n0 c_37); rw [e9] at ihn; exact x_subm ihn rfl) | (have e9 : laL V (la V to_ k) at_ met (n + 1) = laL V (la V to_ k) at_ met n := (if_neg (b2i_z c_37)).trans (if_pos c_47); rw [e9] at ihn; exact x_subm ihn rfl) | (have e9 : laL V (la V to_ k) at_ met (n + 1) = minI (laL V (la V to_ k) at_ met n) (V (25 + at_) n + la V to_ k n (met ||| (1 <<< (nI n &&& 31)))) := (if_neg (b2i_z c_37)).trans (if_neg c_47); rw [e9] at ihn; exact x_subm ihn rfl)
    refine x_iconst (v := 0) C dX2_leastAlong_5 (by decide) ?_
    exact x_iret  C dX2_leastAlong_6 ⟨(by first | exact Nat.le_of_ble_eq_true rfl | (simp [rmLA, rmX3_has, Value.category]; done) | (simp [rmLA, rmX3_has, Value.category]; omega)), (by first | exact Nat.le_of_ble_eq_true rfl | (simp [rmLA, rmX3_has, Value.category]; done) | (simp [rmLA, rmX3_has, Value.category]; omega))⟩ ⟨(if_pos ((nI_eq (by omega) (by omega)).mp c_2)).symm, rfl⟩
theorem hinX2_leastBytesOfAllWays_X2 : ∀ w ∈ wsX20, w ∈ wsX2_leastBytesOfAllWays := by decide +kernel
def rmX2_leastBytesOfAllWays : Room := { frames := 10, cells := 0, slots := 0, locals := 273 }
set_option maxHeartbeats 4000000 in
set_option maxRecDepth 100000 in
theorem k_X2_leastBytesOfAllWays (l : Launch) (D : va_G) (cy : Nat → ClassId) (a : Nat → Nat) (A : Nat → Prop) (X : va_W) (V : XV) {f t : Nat} (hf : f < 8) (ht : t < 8) : Met l yX2_leastBytesOfAllWays wsX2_leastBytesOfAllWays rmX2_leastBytesOfAllWays (va_Pc [.ref (a 2), .int (nI f), .int (nI t)] (xPre D (tyC cy) A (cW cy a X V))) (va_Qi (fun (r : Int32) (u : XV) => r = awI V f t ∧ u = V) (fun u t => xPost D (tyC cy) A (cW cy a X u) t) A) 0 0 A := by
  refine x_met (own := RX2) (by decide) rfl rfl (Nat.le_of_ble_eq_true rfl) rfl ?_
  intro p e s m below meth c hnm C hE
  refine x_iload_n (i := 1) C dX2_leastBytesOfAllWays_0 rfl rfl ?_
  refine x_iload_n (i := 2) C dX2_leastBytesOfAllWays_1 rfl rfl ?_
  refine x_icmp_ne C 7 dX2_leastBytesOfAllWays_2 (by decide) (fun c_2 => ?_) (fun c_2 => ?_)
  · refine x_aload_n (i := 0) C dX2_leastBytesOfAllWays_7 rfl rfl ?_
    refine x_getWr C 1 (by decide) hinX2_leastBytesOfAllWays_X2 (by decide +kernel) dX2_leastBytesOfAllWays_8 ?_
    refine x_iload_n (i := 1) C dX2_leastBytesOfAllWays_11 rfl rfl ?_
    refine x_iload_n (i := 2) C dX2_leastBytesOfAllWays_12 rfl rfl ?_
    refine x_iconst (v := 1) C dX2_leastBytesOfAllWays_13 (by decide) ?_
    refine x_iload_n (i := 1) C dX2_leastBytesOfAllWays_14 rfl rfl ?_
    refine x_ishl C dX2_leastBytesOfAllWays_15 ?_
    refine x_iconst (v := 0) C dX2_leastBytesOfAllWays_16 (by decide) ?_
    refine x_topi (y := nI (8 - 8)) (by decide) ?_
    refine x_callSi C hE (k_X2_leastAlong l D cy a A X _ ht 8 (by decide) _ (by assumption) _) (va_cwS 5 C.2.2.2.2.1 gX2_leastBytesOfAllWays_X2_leastAlong rfl rfl rfl (by decide +kernel) ⟨Nat.le_of_ble_eq_true rfl, Nat.le_of_ble_eq_true rfl⟩)  rfl rfl (Nat.le_of_ble_eq_true rfl) dX2_leastBytesOfAllWays_17 ⟨Nat.le_of_ble_eq_true rfl, Nat.le_of_ble_eq_true rfl⟩ (fun r_17 u_17 h_17 => ?_)
    obtain ⟨rfl, e9_17⟩ := h_17
    rw [e9_17]
    refine x_istore_n (i := 3) C dX2_leastBytesOfAllWays_20 rfl (by decide) ?_
    refine x_iconst (v := 0) C dX2_leastBytesOfAllWays_21 (by decide) ?_
    refine x_istore (i := 4) C dX2_leastBytesOfAllWays_22 (by decide) ?_
    refine x_subm (lv' := [(4, .int (nI 0)), (3, .int (awL V t f 0)), (0, .ref (a 2)), (1, .int (nI f)), (2, .int (nI t))]) ?_ rfl
    refine x_count (N := 8) (fun v => xA p l e rmX2_leastBytesOfAllWays s m _ below meth c D A 5 0 0 _ 24 [(4, .int (nI v)), (3, .int (awL V t f v)), (0, .ref (a 2)), (1, .int (nI f)), (2, .int (nI t))] [] (cW cy a X V)) ?_ ?_
    · refine x_iload (i := 4) C dX2_leastBytesOfAllWays_24 rfl ?_
      refine x_bipush (v := 8) C dX2_leastBytesOfAllWays_26 (by decide) ?_
      refine x_icmp_ge C 76 dX2_leastBytesOfAllWays_28 (by decide) (fun c_28 => ?_) (fun c_28 => absurd le8 c_28)
      refine x_iload_n (i := 3) C dX2_leastBytesOfAllWays_76 rfl rfl ?_
      refine x_callSi C hE (k_X2_orNone l D _ A _ _) (va_cwS 1 C.2.2.2.2.1 gX2_leastBytesOfAllWays_X2_orNone rfl rfl rfl (by decide +kernel) ⟨Nat.le_of_ble_eq_true rfl, Nat.le_of_ble_eq_true rfl⟩)  rfl rfl (Nat.le_of_ble_eq_true rfl) dX2_leastBytesOfAllWays_77 ⟨Nat.le_of_ble_eq_true rfl, Nat.le_of_ble_eq_true rfl⟩ (fun r_77 u_77 h_77 => ?_)
      subst h_77
      exact x_iret  C dX2_leastBytesOfAllWays_80 ⟨Nat.le_of_ble_eq_true rfl, Nat.le_of_ble_eq_true rfl⟩ ⟨(if_neg (fun z => c_2 ((nI_eq (by omega) (by omega)).mpr z))).symm, rfl⟩
    intro v hv ihv
    refine x_iload (i := 4) C dX2_leastBytesOfAllWays_24 rfl ?_
    refine x_bipush (v := 8) C dX2_leastBytesOfAllWays_26 (by decide) ?_
    refine x_icmp_ge C 76 dX2_leastBytesOfAllWays_28 (by decide) (fun c_28 => absurd c_28 (lt8 hv)) (fun c_28 => ?_)
    refine x_aload_n (i := 0) C dX2_leastBytesOfAllWays_31 rfl rfl ?_
    refine x_getWr C 0 (by decide) hinX2_leastBytesOfAllWays_X2 (by decide +kernel) dX2_leastBytesOfAllWays_32 ?_
    refine x_iload (i := 4) C dX2_leastBytesOfAllWays_35 rfl ?_
    refine x_ialdC C (by unfold cI; omega) (in8 hv) (cl8 hv) dX2_leastBytesOfAllWays_37 ?_
    refine x_iconst (v := (-1)) C dX2_leastBytesOfAllWays_38 (by decide) ?_
    refine x_icmp_eq C 70 dX2_leastBytesOfAllWays_39 (by decide) (fun c_39 => ?_) (fun c_39 => ?_)
    · refine x_iinc (v := nI (v + 1)) C dX2_leastBytesOfAllWays_70 rfl (inc1 v) ?_
      refine x_goto C 24 dX2_leastBytesOfAllWays_73 (by decide) ?_
      first | (have e9 : awL V t f (v + 1) = awL V t f v := if_pos c_39; rw [e9] at ihv; exact x_subm ihv rfl) | (have e9 : awL V t f (v + 1) = minI (awL V t f v) (V 5 v + la V t 8 v (1 <<< (nI v &&& 31))) := if_neg c_39; rw [e9] at ihv; exact x_subm ihv rfl)
    refine x_iload_n (i := 3) C dX2_leastBytesOfAllWays_42 rfl rfl ?_
    refine x_aload_n (i := 0) C dX2_leastBytesOfAllWays_43 rfl rfl ?_
    refine x_getWr C 0 (by decide) hinX2_leastBytesOfAllWays_X2 (by decide +kernel) dX2_leastBytesOfAllWays_44 ?_
    refine x_iload (i := 4) C dX2_leastBytesOfAllWays_47 rfl ?_
    refine x_ialdC C (by unfold cI; omega) (in8 hv) (cl8 hv) dX2_leastBytesOfAllWays_49 ?_
    refine x_aload_n (i := 0) C dX2_leastBytesOfAllWays_50 rfl rfl ?_
    refine x_getWr C 1 (by decide) hinX2_leastBytesOfAllWays_X2 (by decide +kernel) dX2_leastBytesOfAllWays_51 ?_
    refine x_iload (i := 4) C dX2_leastBytesOfAllWays_54 rfl ?_
    refine x_iload_n (i := 2) C dX2_leastBytesOfAllWays_56 rfl rfl ?_
    refine x_iconst (v := 1) C dX2_leastBytesOfAllWays_57 (by decide) ?_
    refine x_iload (i := 4) C dX2_leastBytesOfAllWays_58 rfl ?_
    refine x_ishl C dX2_leastBytesOfAllWays_60 ?_
    refine x_iconst (v := 0) C dX2_leastBytesOfAllWays_61 (by decide) ?_
    refine x_topi (y := nI (8 - 8)) (by decide) ?_
    refine x_callSi C hE (k_X2_leastAlong l D cy a A X _ ht 8 (by decide) _ (by assumption) _) (va_cwS 5 C.2.2.2.2.1 gX2_leastBytesOfAllWays_X2_leastAlong rfl rfl rfl (by decide +kernel) ⟨Nat.le_of_ble_eq_true rfl, Nat.le_of_ble_eq_true rfl⟩)  rfl rfl (Nat.le_of_ble_eq_true rfl) dX2_leastBytesOfAllWays_62 ⟨Nat.le_of_ble_eq_true rfl, Nat.le_of_ble_eq_true rfl⟩ (fun r_62 u_62 h_62 => ?_)
    obtain ⟨rfl, e9_62⟩ := h_62
    rw [e9_62]
    refine x_iadd C dX2_leastBytesOfAllWays_65 ?_
    refine x_min C (by decide +kernel) (by decide +kernel) (by decide +kernel) (by decide +kernel) ⟨Nat.le_of_ble_eq_true rfl, Nat.le_of_ble_eq_true rfl, Nat.le_of_ble_eq_true rfl, Nat.le_of_ble_eq_true rfl⟩ dX2_leastBytesOfAllWays_66 rfl ?_
    refine x_istore_n (i := 3) C dX2_leastBytesOfAllWays_69 rfl (by decide) ?_
    refine x_iinc (v := nI (v + 1)) C dX2_leastBytesOfAllWays_70 rfl (inc1 v) ?_
    refine x_goto C 24 dX2_leastBytesOfAllWays_73 (by decide) ?_
    first | (have e9 : awL V t f (v + 1) = awL V t f v := if_pos c_39; rw [e9] at ihv; exact x_subm ihv rfl) | (have e9 : awL V t f (v + 1) = minI (awL V t f v) (V 5 v + la V t 8 v (1 <<< (nI v &&& 31))) := if_neg c_39; rw [e9] at ihv; exact x_subm ihv rfl)
  refine x_iconst (v := 0) C dX2_leastBytesOfAllWays_5 (by decide) ?_
  exact x_iret  C dX2_leastBytesOfAllWays_6 ⟨Nat.le_of_ble_eq_true rfl, Nat.le_of_ble_eq_true rfl⟩ ⟨(if_pos ((nI_eq (by omega) (by omega)).mp c_2)).symm, rfl⟩
