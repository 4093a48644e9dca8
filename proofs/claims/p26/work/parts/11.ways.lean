/-! ===== BEGIN ways: the loops of Ways, mirrored by pure functions on the contents ===== -/
section XCNT
theorem x_count {N : Nat} (G : Nat → Prop) (hx : G N) (hs : ∀ i, i < N → G (i + 1) → G i) : G 0 := by
  have h : ∀ k, k ≤ N → G (N - k) := by
    intro k
    induction k with
    | zero => intro _; exact hx
    | succ k ih =>
      intro hk
      have h1 := ih (by omega)
      exact hs (N - (k + 1)) (by omega) (by rw [show N - (k + 1) + 1 = N - k by omega]; exact h1)
  have h2 := h N (Nat.le_refl N)
  rwa [Nat.sub_self] at h2
end XCNT
theorem le8 : (8 : Int32) ≤ nI 8 := by decide
theorem lt8 {i : Nat} (h : i < 8) : ¬ (8 : Int32) ≤ nI i := nI_ge h (by decide)
theorem in8 {i : Nat} (h : i < 8) : vp_in (nI i) 8 := vp_in_nI h (by decide)
theorem cl8 {i : Nat} (h : i < 8) : (nI i).toNatClampNeg = i := nI_clamp (by omega)
theorem inc1 (i : Nat) : nI i + Int32.ofInt 1 = nI (i + 1) := nI_1 i
def fillV (V : XV) (p : Nat) (z : Int32) : Nat → XV
  | 0 => V
  | i + 1 => xs (fillV V p z i) p i z
def mvStep (U : XV) (v i j : Nat) : XV := xs U (33 + i) j (minI (U (33 + i) j) (U (33 + i) v + U (33 + v) j))
def mvIn (V : XV) (v i : Nat) : Nat → XV
  | 0 => V
  | j + 1 => mvStep (mvIn V v i j) v i j
def mvOut (V : XV) (v : Nat) : Nat → XV
  | 0 => V
  | i + 1 => mvIn (mvOut V v i) v i 8
def m1Step (U : XV) (i j : Nat) : XV := xs U (33 + i) j (if i = j then 0 else orFarI (U (25 + i) j))
def m1In (V : XV) (i : Nat) : Nat → XV
  | 0 => V
  | j + 1 => m1Step (m1In V i j) i j
def m1Out (V : XV) : Nat → XV
  | 0 => V
  | i + 1 => m1In (m1Out V i) i 8
def m2Out (V : XV) : Nat → XV
  | 0 => V
  | v + 1 => mvOut (m2Out V v) v 8
def m3Step (U : XV) (j v : Nat) : XV := xs U 8 j (minI (U 8 j) (orFarI (U 5 v) + U (33 + v) j))
def m3In (V : XV) (j : Nat) : Nat → XV
  | 0 => V
  | v + 1 => m3Step (m3In V j v) j v
def m3Out (V : XV) : Nat → XV
  | 0 => V
  | j + 1 => m3In (xs (m3Out V j) 8 j 1000000) j 8
def measV (V : XV) : XV := m3Out (m2Out (m1Out V 8) 8) 8
def laL (V : XV) (rc : Nat → Int32 → Int32) (at_ : Nat) (met : Int32) : Nat → Int32
  | 0 => 1000000
  | n + 1 => if hasB met (nI n) = true then laL V rc at_ met n else if V (25 + at_) n = -1 then laL V rc at_ met n else minI (laL V rc at_ met n) (V (25 + at_) n + rc n (met ||| (1 <<< (nI n &&& 31))))
def la (V : XV) (to_ : Nat) : Nat → Nat → Int32 → Int32
  | 0, at_, _ => if at_ = to_ then 0 else 1000000
  | k + 1, at_, met => if at_ = to_ then 0 else laL V (la V to_ k) at_ met 8
def awL (V : XV) (to_ f : Nat) : Nat → Int32
  | 0 => la V to_ 8 f (1 <<< (nI f &&& 31))
  | v + 1 => if V 5 v = -1 then awL V to_ f v else minI (awL V to_ f v) (V 5 v + la V to_ 8 v (1 <<< (nI v &&& 31)))
def awI (V : XV) (f t : Nat) : Int32 := if f = t then 0 else orNoneI (awL V t f 8)

theorem hinX2_measureVia_X2 : ∀ w ∈ wsX20, w ∈ wsX2_measureVia := by decide +kernel
def rmX2_measureVia : Room := { frames := 1, cells := 0, slots := 0, locals := 24 }
set_option maxHeartbeats 4000000 in
set_option maxRecDepth 100000 in
theorem k_X2_measureVia (l : Launch) (D : va_G) (cy : Nat → ClassId) (a : Nat → Nat) (A : Nat → Prop) (X : va_W) (V : XV) {v : Nat} (hv : v < 8) : Met l yX2_measureVia wsX2_measureVia rmX2_measureVia (va_Pc [.ref (a 2), .int (nI v)] (xPre D (tyC cy) A (cW cy a X V))) (va_Qv (fun (u : XV) => u = mvOut V v 8) (fun u t => xPost D (tyC cy) A (cW cy a X u) t) A) 0 0 A := by
  refine x_met (own := RX2) (by decide) rfl rfl (Nat.le_of_ble_eq_true rfl) rfl ?_
  intro p e s m below meth c hnm C hE
  refine x_iconst (v := 0) C dX2_measureVia_0 (by decide) ?_
  refine x_istore_n (i := 2) C dX2_measureVia_1 rfl (by decide) ?_
  refine x_subm (lv' := [(2, .int (nI 0)), (0, .ref (a 2)), (1, .int (nI v))]) ?_ rfl
  refine x_count (N := 8) (fun i => xA p l e rmX2_measureVia s m _ below meth c D A 5 0 0 _ 2 [(2, .int (nI i)), (0, .ref (a 2)), (1, .int (nI v))] [] (cW cy a X (mvOut V v i))) ?_ ?_
  · refine x_iload_n (i := 2) C dX2_measureVia_2 rfl rfl ?_
    refine x_bipush (v := 8) C dX2_measureVia_3 (by decide) ?_
    refine x_icmp_ge C 68 dX2_measureVia_5 (by decide) (fun c_5 => ?_) (fun c_5 => absurd le8 c_5)
    exact x_vret  C dX2_measureVia_68 ⟨Nat.le_of_ble_eq_true rfl, Nat.le_of_ble_eq_true rfl⟩ rfl
  intro i hi ihi
  refine x_iload_n (i := 2) C dX2_measureVia_2 rfl rfl ?_
  refine x_bipush (v := 8) C dX2_measureVia_3 (by decide) ?_
  refine x_icmp_ge C 68 dX2_measureVia_5 (by decide) (fun c_5 => absurd c_5 (lt8 hi)) (fun c_5 => ?_)
  refine x_iconst (v := 0) C dX2_measureVia_8 (by decide) ?_
  refine x_istore_n (i := 3) C dX2_measureVia_9 rfl (by decide) ?_
  refine x_subm (lv' := [(3, .int (nI 0)), (2, .int (nI i)), (0, .ref (a 2)), (1, .int (nI v))]) ?_ rfl
  refine x_count (N := 8) (fun j => xA p l e rmX2_measureVia s m _ below meth c D A 5 0 0 _ 10 [(3, .int (nI j)), (2, .int (nI i)), (0, .ref (a 2)), (1, .int (nI v))] [] (cW cy a X (mvIn (mvOut V v i) v i j))) ?_ ?_
  · refine x_iload_n (i := 3) C dX2_measureVia_10 rfl rfl ?_
    refine x_bipush (v := 8) C dX2_measureVia_11 (by decide) ?_
    refine x_icmp_ge C 62 dX2_measureVia_13 (by decide) (fun c_13 => ?_) (fun c_13 => absurd le8 c_13)
    refine x_iinc (v := nI (i + 1)) C dX2_measureVia_62 rfl (inc1 i) ?_
    refine x_goto C 2 dX2_measureVia_65 (by decide) ?_
    refine x_subm (lv' := [(2, .int (nI (i + 1))), (0, .ref (a 2)), (1, .int (nI v))]) ?_ rfl
    exact ihi
  intro j hj ihj
  refine x_iload_n (i := 3) C dX2_measureVia_10 rfl rfl ?_
  refine x_bipush (v := 8) C dX2_measureVia_11 (by decide) ?_
  refine x_icmp_ge C 62 dX2_measureVia_13 (by decide) (fun c_13 => absurd c_13 (lt8 hj)) (fun c_13 => ?_)
  refine x_aload_n (i := 0) C dX2_measureVia_16 rfl rfl ?_
  refine x_getWr C 2 (by decide) hinX2_measureVia_X2 (by decide +kernel) dX2_measureVia_17 ?_
  refine x_iload_n (i := 2) C dX2_measureVia_20 rfl rfl ?_
  refine x_aaldLb C (in8 hi) (cl8 hi) dX2_measureVia_21 ?_
  refine x_iload_n (i := 1) C dX2_measureVia_22 rfl rfl ?_
  refine x_ialdC C (by unfold cI; omega) (in8 hv) (cl8 hv) dX2_measureVia_23 ?_
  refine x_aload_n (i := 0) C dX2_measureVia_24 rfl rfl ?_
  refine x_getWr C 2 (by decide) hinX2_measureVia_X2 (by decide +kernel) dX2_measureVia_25 ?_
  refine x_iload_n (i := 1) C dX2_measureVia_28 rfl rfl ?_
  refine x_aaldLb C (in8 hv) (cl8 hv) dX2_measureVia_29 ?_
  refine x_iload_n (i := 3) C dX2_measureVia_30 rfl rfl ?_
  refine x_ialdC C (by unfold cI; omega) (in8 hj) (cl8 hj) dX2_measureVia_31 ?_
  refine x_iadd C dX2_measureVia_32 ?_
  refine x_istore (i := 4) C dX2_measureVia_33 (by decide) ?_
  refine x_aload_n (i := 0) C dX2_measureVia_35 rfl rfl ?_
  refine x_getWr C 2 (by decide) hinX2_measureVia_X2 (by decide +kernel) dX2_measureVia_36 ?_
  refine x_iload_n (i := 2) C dX2_measureVia_39 rfl rfl ?_
  refine x_aaldLb C (in8 hi) (cl8 hi) dX2_measureVia_40 ?_
  refine x_iload_n (i := 3) C dX2_measureVia_41 rfl rfl ?_
  refine x_aload_n (i := 0) C dX2_measureVia_42 rfl rfl ?_
  refine x_getWr C 2 (by decide) hinX2_measureVia_X2 (by decide +kernel) dX2_measureVia_43 ?_
  refine x_iload_n (i := 2) C dX2_measureVia_46 rfl rfl ?_
  refine x_aaldLb C (in8 hi) (cl8 hi) dX2_measureVia_47 ?_
  refine x_iload_n (i := 3) C dX2_measureVia_48 rfl rfl ?_
  refine x_ialdC C (by unfold cI; omega) (in8 hj) (cl8 hj) dX2_measureVia_49 ?_
  refine x_iload (i := 4) C dX2_measureVia_50 rfl ?_
  refine x_min C (by decide +kernel) (by decide +kernel) (by decide +kernel) (by decide +kernel) ⟨Nat.le_of_ble_eq_true rfl, Nat.le_of_ble_eq_true rfl, Nat.le_of_ble_eq_true rfl, Nat.le_of_ble_eq_true rfl⟩ dX2_measureVia_52 rfl ?_
  refine x_iastC C (by unfold cI; omega) (in8 hj) (cl8 hj) dX2_measureVia_55 ?_
  refine x_iinc (v := nI (j + 1)) C dX2_measureVia_56 rfl (inc1 j) ?_
  refine x_goto C 10 dX2_measureVia_59 (by decide) ?_
  refine x_subm (lv' := [(3, .int (nI (j + 1))), (2, .int (nI i)), (0, .ref (a 2)), (1, .int (nI v))]) ?_ rfl
  exact ihj
theorem hinX2_measure_X2 : ∀ w ∈ wsX20, w ∈ wsX2_measure := by decide +kernel
def rmX2_measure : Room := { frames := 2, cells := 0, slots := 0, locals := 48 }
set_option maxHeartbeats 4000000 in
set_option maxRecDepth 100000 in
theorem k_X2_measure (l : Launch) (D : va_G) (cy : Nat → ClassId) (a : Nat → Nat) (A : Nat → Prop) (X : va_W) (V : XV)   : Met l yX2_measure wsX2_measure rmX2_measure (va_Pc [.ref (a 2)] (xPre D (tyC cy) A (cW cy a X V))) (va_Qv (fun (u : XV) => u = measV V) (fun u t => xPost D (tyC cy) A (cW cy a X u) t) A) 0 0 A := by
  refine x_met (own := RX2) (by decide) rfl rfl (Nat.le_of_ble_eq_true rfl) rfl ?_
  intro p e s m below meth c hnm C hE
  refine x_iconst (v := 0) C dX2_measure_0 (by decide) ?_
  refine x_istore_n (i := 1) C dX2_measure_1 rfl (by decide) ?_
  refine x_subm (lv' := [(1, .int (nI 0)), (0, .ref (a 2))]) ?_ rfl
  refine x_count (N := 8) (fun i => xA p l e rmX2_measure s m _ below meth c D A 3 0 0 _ 2 [(1, .int (nI i)), (0, .ref (a 2))] [] (cW cy a X (m1Out V i))) ?_ ?_
  · refine x_iload_n (i := 1) C dX2_measure_2 rfl rfl ?_
    refine x_bipush (v := 8) C dX2_measure_3 (by decide) ?_
    refine x_icmp_ge C 56 dX2_measure_5 (by decide) (fun c_5 => ?_) (fun c_5 => absurd le8 c_5)
    refine x_iconst (v := 0) C dX2_measure_56 (by decide) ?_
    refine x_istore_n (i := 1) C dX2_measure_57 rfl (by decide) ?_
    refine x_subm (lv' := [(1, .int (nI 0)), (0, .ref (a 2))]) ?_ rfl
    refine x_count (N := 8) (fun v => xA p l e rmX2_measure s m _ below meth c D A 3 0 0 _ 58 [(1, .int (nI v)), (0, .ref (a 2))] [] (cW cy a X (m2Out (m1Out V 8) v))) ?_ ?_
    · refine x_iload_n (i := 1) C dX2_measure_58 rfl rfl ?_
      refine x_bipush (v := 8) C dX2_measure_59 (by decide) ?_
      refine x_icmp_ge C 75 dX2_measure_61 (by decide) (fun c_61 => ?_) (fun c_61 => absurd le8 c_61)
      refine x_iconst (v := 0) C dX2_measure_75 (by decide) ?_
      refine x_istore_n (i := 1) C dX2_measure_76 rfl (by decide) ?_
      refine x_subm (lv' := [(1, .int (nI 0)), (0, .ref (a 2))]) ?_ rfl
      refine x_count (N := 8) (fun j => xA p l e rmX2_measure s m _ below meth c D A 3 0 0 _ 77 [(1, .int (nI j)), (0, .ref (a 2))] [] (cW cy a X (m3Out (m2Out (m1Out V 8) 8) j))) ?_ ?_
      · refine x_iload_n (i := 1) C dX2_measure_77 rfl rfl ?_
        refine x_bipush (v := 8) C dX2_measure_78 (by decide) ?_
        refine x_icmp_ge C 144 dX2_measure_80 (by decide) (fun c_80 => ?_) (fun c_80 => absurd le8 c_80)
        exact x_vret  C dX2_measure_144 ⟨Nat.le_of_ble_eq_true rfl, Nat.le_of_ble_eq_true rfl⟩ rfl
      intro j hj ihj
      refine x_iload_n (i := 1) C dX2_measure_77 rfl rfl ?_
      refine x_bipush (v := 8) C dX2_measure_78 (by decide) ?_
      refine x_icmp_ge C 144 dX2_measure_80 (by decide) (fun c_80 => absurd c_80 (lt8 hj)) (fun c_80 => ?_)
      refine x_aload_n (i := 0) C dX2_measure_83 rfl rfl ?_
      refine x_getWr C 3 (by decide) hinX2_measure_X2 (by decide +kernel) dX2_measure_84 ?_
      refine x_iload_n (i := 1) C dX2_measure_87 rfl rfl ?_
      refine x_ldc (v := 1000000) C (by decide +kernel) dX2_measure_88 ?_
      refine x_iastC C (by unfold cI; omega) (in8 hj) (cl8 hj) dX2_measure_90 ?_
      refine x_iconst (v := 0) C dX2_measure_91 (by decide) ?_
      refine x_istore_n (i := 2) C dX2_measure_92 rfl (by decide) ?_
      refine x_subm (lv' := [(2, .int (nI 0)), (1, .int (nI j)), (0, .ref (a 2))]) ?_ rfl
      refine x_count (N := 8) (fun v => xA p l e rmX2_measure s m _ below meth c D A 3 0 0 _ 93 [(2, .int (nI v)), (1, .int (nI j)), (0, .ref (a 2))] [] (cW cy a X (m3In (xs (m3Out (m2Out (m1Out V 8) 8) j) 8 j 1000000) j v))) ?_ ?_
      · refine x_iload_n (i := 2) C dX2_measure_93 rfl rfl ?_
        refine x_bipush (v := 8) C dX2_measure_94 (by decide) ?_
        refine x_icmp_ge C 138 dX2_measure_96 (by decide) (fun c_96 => ?_) (fun c_96 => absurd le8 c_96)
        refine x_iinc (v := nI (j + 1)) C dX2_measure_138 rfl (inc1 j) ?_
        refine x_goto C 77 dX2_measure_141 (by decide) ?_
        refine x_subm (lv' := [(1, .int (nI (j + 1))), (0, .ref (a 2))]) ?_ rfl
        exact ihj
      intro v hv ihv
      refine x_iload_n (i := 2) C dX2_measure_93 rfl rfl ?_
      refine x_bipush (v := 8) C dX2_measure_94 (by decide) ?_
      refine x_icmp_ge C 138 dX2_measure_96 (by decide) (fun c_96 => absurd c_96 (lt8 hv)) (fun c_96 => ?_)
      refine x_aload_n (i := 0) C dX2_measure_99 rfl rfl ?_
      refine x_getWr C 3 (by decide) hinX2_measure_X2 (by decide +kernel) dX2_measure_100 ?_
      refine x_iload_n (i := 1) C dX2_measure_103 rfl rfl ?_
      refine x_aload_n (i := 0) C dX2_measure_104 rfl rfl ?_
      refine x_getWr C 3 (by decide) hinX2_measure_X2 (by decide +kernel) dX2_measure_105 ?_
      refine x_iload_n (i := 1) C dX2_measure_108 rfl rfl ?_
      refine x_ialdC C (by unfold cI; omega) (in8 hj) (cl8 hj) dX2_measure_109 ?_
      refine x_aload_n (i := 0) C dX2_measure_110 rfl rfl ?_
      refine x_getWr C 0 (by decide) hinX2_measure_X2 (by decide +kernel) dX2_measure_111 ?_
      refine x_iload_n (i := 2) C dX2_measure_114 rfl rfl ?_
      refine x_ialdC C (by unfold cI; omega) (in8 hv) (cl8 hv) dX2_measure_115 ?_
      refine x_callSi C hE (k_X2_orFar l D _ A _ _) (va_cwS 1 C.2.2.2.2.1 gX2_measure_X2_orFar rfl rfl rfl (by decide +kernel) ⟨Nat.le_of_ble_eq_true rfl, Nat.le_of_ble_eq_true rfl⟩)  rfl rfl (Nat.le_of_ble_eq_true rfl) dX2_measure_116 ⟨Nat.le_of_ble_eq_true rfl, Nat.le_of_ble_eq_true rfl⟩ (fun r_116 u_116 h_116 => ?_)
      subst h_116
      refine x_aload_n (i := 0) C dX2_measure_119 rfl rfl ?_
      refine x_getWr C 2 (by decide) hinX2_measure_X2 (by decide +kernel) dX2_measure_120 ?_
      refine x_iload_n (i := 2) C dX2_measure_123 rfl rfl ?_
      refine x_aaldLb C (in8 hv) (cl8 hv) dX2_measure_124 ?_
      refine x_iload_n (i := 1) C dX2_measure_125 rfl rfl ?_
      refine x_ialdC C (by unfold cI; omega) (in8 hj) (cl8 hj) dX2_measure_126 ?_
      refine x_iadd C dX2_measure_127 ?_
      refine x_min C (by decide +kernel) (by decide +kernel) (by decide +kernel) (by decide +kernel) ⟨Nat.le_of_ble_eq_true rfl, Nat.le_of_ble_eq_true rfl, Nat.le_of_ble_eq_true rfl, Nat.le_of_ble_eq_true rfl⟩ dX2_measure_128 rfl ?_
      refine x_iastC C (by unfold cI; omega) (in8 hj) (cl8 hj) dX2_measure_131 ?_
      refine x_iinc (v := nI (v + 1)) C dX2_measure_132 rfl (inc1 v) ?_
      refine x_goto C 93 dX2_measure_135 (by decide) ?_
      refine x_subm (lv' := [(2, .int (nI (v + 1))), (1, .int (nI j)), (0, .ref (a 2))]) ?_ rfl
      exact ihv
    intro v hv ihv
    refine x_iload_n (i := 1) C dX2_measure_58 rfl rfl ?_
    refine x_bipush (v := 8) C dX2_measure_59 (by decide) ?_
    refine x_icmp_ge C 75 dX2_measure_61 (by decide) (fun c_61 => absurd c_61 (lt8 hv)) (fun c_61 => ?_)
    refine x_aload_n (i := 0) C dX2_measure_64 rfl rfl ?_
    refine x_iload_n (i := 1) C dX2_measure_65 rfl rfl ?_
    refine x_callVv C hE (k_X2_measureVia l D cy a A X _ (by assumption)) (cwV 1 C.2.2.2.2.1 gX2_measure_X2_measureVia rfl rfl rfl (by decide +kernel) ⟨Nat.le_of_ble_eq_true rfl, Nat.le_of_ble_eq_true rfl⟩) 2 (cW_W cy a X _) rfl rfl rfl rfl (Nat.le_of_ble_eq_true rfl) dX2_measure_66 ⟨Nat.le_of_ble_eq_true rfl, Nat.le_of_ble_eq_true rfl⟩ (fun u_66 h_66 => ?_)
    rw [h_66]
    refine x_iinc (v := nI (v + 1)) C dX2_measure_69 rfl (inc1 v) ?_
    refine x_goto C 58 dX2_measure_72 (by decide) ?_
    refine x_subm (lv' := [(1, .int (nI (v + 1))), (0, .ref (a 2))]) ?_ rfl
    exact ihv
  intro i hi ihi
  refine x_iload_n (i := 1) C dX2_measure_2 rfl rfl ?_
  refine x_bipush (v := 8) C dX2_measure_3 (by decide) ?_
  refine x_icmp_ge C 56 dX2_measure_5 (by decide) (fun c_5 => absurd c_5 (lt8 hi)) (fun c_5 => ?_)
  refine x_iconst (v := 0) C dX2_measure_8 (by decide) ?_
  refine x_istore_n (i := 2) C dX2_measure_9 rfl (by decide) ?_
  refine x_subm (lv' := [(2, .int (nI 0)), (1, .int (nI i)), (0, .ref (a 2))]) ?_ rfl
  refine x_count (N := 8) (fun j => xA p l e rmX2_measure s m _ below meth c D A 3 0 0 _ 10 [(2, .int (nI j)), (1, .int (nI i)), (0, .ref (a 2))] [] (cW cy a X (m1In (m1Out V i) i j))) ?_ ?_
  · refine x_iload_n (i := 2) C dX2_measure_10 rfl rfl ?_
    refine x_bipush (v := 8) C dX2_measure_11 (by decide) ?_
    refine x_icmp_ge C 50 dX2_measure_13 (by decide) (fun c_13 => ?_) (fun c_13 => absurd le8 c_13)
    refine x_iinc (v := nI (i + 1)) C dX2_measure_50 rfl (inc1 i) ?_
    refine x_goto C 2 dX2_measure_53 (by decide) ?_
    refine x_subm (lv' := [(1, .int (nI (i + 1))), (0, .ref (a 2))]) ?_ rfl
    exact ihi
  intro j hj ihj
  refine x_iload_n (i := 2) C dX2_measure_10 rfl rfl ?_
  refine x_bipush (v := 8) C dX2_measure_11 (by decide) ?_
  refine x_icmp_ge C 50 dX2_measure_13 (by decide) (fun c_13 => absurd c_13 (lt8 hj)) (fun c_13 => ?_)
  refine x_aload_n (i := 0) C dX2_measure_16 rfl rfl ?_
  refine x_getWr C 2 (by decide) hinX2_measure_X2 (by decide +kernel) dX2_measure_17 ?_
  refine x_iload_n (i := 1) C dX2_measure_20 rfl rfl ?_
  refine x_aaldLb C (in8 hi) (cl8 hi) dX2_measure_21 ?_
  refine x_iload_n (i := 2) C dX2_measure_22 rfl rfl ?_
  refine x_iload_n (i := 1) C dX2_measure_23 rfl rfl ?_
  refine x_iload_n (i := 2) C dX2_measure_24 rfl rfl ?_
  refine x_icmp_ne C 32 dX2_measure_25 (by decide) (fun c_25 => ?_) (fun c_25 => ?_)
  · refine x_aload_n (i := 0) C dX2_measure_32 rfl rfl ?_
    refine x_getWr C 1 (by decide) hinX2_measure_X2 (by decide +kernel) dX2_measure_33 ?_
    refine x_iload_n (i := 1) C dX2_measure_36 rfl rfl ?_
    refine x_aaldDe C (in8 hi) (cl8 hi) dX2_measure_37 ?_
    refine x_iload_n (i := 2) C dX2_measure_38 rfl rfl ?_
    refine x_ialdC C (by unfold cI; omega) (in8 hj) (cl8 hj) dX2_measure_39 ?_
    refine x_callSi C hE (k_X2_orFar l D _ A _ _) (va_cwS 1 C.2.2.2.2.1 gX2_measure_X2_orFar rfl rfl rfl (by decide +kernel) ⟨Nat.le_of_ble_eq_true rfl, Nat.le_of_ble_eq_true rfl⟩)  rfl rfl (Nat.le_of_ble_eq_true rfl) dX2_measure_40 ⟨Nat.le_of_ble_eq_true rfl, Nat.le_of_ble_eq_true rfl⟩ (fun r_40 u_40 h_40 => ?_)
    subst h_40
    refine x_iastC C (by unfold cI; omega) (in8 hj) (cl8 hj) dX2_measure_43 ?_
    refine x_iinc (v := nI (j + 1)) C dX2_measure_44 rfl (inc1 j) ?_
    refine x_goto C 10 dX2_measure_47 (by decide) ?_
    first | (refine x_ws (ws' := cW cy a X (m1In (m1Out V i) i (j + 1))) (by show cW cy a X _ = cW cy a X (m1Step _ i j); unfold m1Step; rw [if_pos ((nI_eq (by omega) (by omega)).mp c_25)]) ?_; refine x_subm (lv' := [(2, .int (nI (j + 1))), (1, .int (nI i)), (0, .ref (a 2))]) ?_ rfl; exact ihj) | (refine x_ws (ws' := cW cy a X (m1In (m1Out V i) i (j + 1))) (by show cW cy a X _ = cW cy a X (m1Step _ i j); unfold m1Step; rw [if_neg (fun z => c_25 ((nI_eq (by omega) (by omega)).mpr z))]) ?_; refine x_subm (lv' := [(2, .int (nI (j + 1))), (1, .int (nI i)), (0, .ref (a 2))]) ?_ rfl; exact ihj)
  refine x_iconst (v := 0) C dX2_measure_28 (by decide) ?_
  refine x_goto C 43 dX2_measure_29 (by decide) ?_
  refine x_iastC C (by unfold cI; omega) (in8 hj) (cl8 hj) dX2_measure_43 ?_
  refine x_iinc (v := nI (j + 1)) C dX2_measure_44 rfl (inc1 j) ?_
  refine x_goto C 10 dX2_measure_47 (by decide) ?_
  first | (refine x_ws (ws' := cW cy a X (m1In (m1Out V i) i (j + 1))) (by show cW cy a X _ = cW cy a X (m1Step _ i j); unfold m1Step; rw [if_pos ((nI_eq (by omega) (by omega)).mp c_25)]) ?_; refine x_subm (lv' := [(2, .int (nI (j + 1))), (1, .int (nI i)), (0, .ref (a 2))]) ?_ rfl; exact ihj) | (refine x_ws (ws' := cW cy a X (m1In (m1Out V i) i (j + 1))) (by show cW cy a X _ = cW cy a X (m1Step _ i j); unfold m1Step; rw [if_neg (fun z => c_25 ((nI_eq (by omega) (by omega)).mpr z))]) ?_; refine x_subm (lv' := [(2, .int (nI (j + 1))), (1, .int (nI i)), (0, .ref (a 2))]) ?_ rfl; exact ihj)
theorem hinX2_changeImage_X2 : ∀ w ∈ wsX20, w ∈ wsX2_changeImage := by decide +kernel
def rmX2_changeImage : Room := { frames := 3, cells := 0, slots := 0, locals := 70 }
set_option maxHeartbeats 4000000 in
set_option maxRecDepth 100000 in
theorem k_X2_changeImage (l : Launch) (D : va_G) (cy : Nat → ClassId) (a : Nat → Nat) (A : Nat → Prop) (X : va_W) (V : XV) (f z : Int32) (hf : vp_in f 8) : Met l yX2_changeImage wsX2_changeImage rmX2_changeImage (va_Pc [.ref (a 2), .int f, .int z] (xPre D (tyC cy) A (cW cy a X V))) (va_Qi (fun (r : Int32) (u : XV) => r = V 5 f.toNatClampNeg ∧ u = measV (xs V 5 f.toNatClampNeg z)) (fun u t => xPost D (tyC cy) A (cW cy a X u) t) A) 0 0 A := by
  refine x_met (own := RX2) (by decide) rfl rfl (Nat.le_of_ble_eq_true rfl) rfl ?_
  intro p e s m below meth c hnm C hE
  refine x_aload_n (i := 0) C dX2_changeImage_0 rfl rfl ?_
  refine x_getWr C 0 (by decide) hinX2_changeImage_X2 (by decide +kernel) dX2_changeImage_1 ?_
  refine x_iload_n (i := 1) C dX2_changeImage_4 rfl rfl ?_
  refine x_ialdC C (by unfold cI; omega) (by assumption) rfl dX2_changeImage_5 ?_
  refine x_istore_n (i := 3) C dX2_changeImage_6 rfl (by decide) ?_
  refine x_aload_n (i := 0) C dX2_changeImage_7 rfl rfl ?_
  refine x_getWr C 0 (by decide) hinX2_changeImage_X2 (by decide +kernel) dX2_changeImage_8 ?_
  refine x_iload_n (i := 1) C dX2_changeImage_11 rfl rfl ?_
  refine x_iload_n (i := 2) C dX2_changeImage_12 rfl rfl ?_
  refine x_iastC C (by unfold cI; omega) (by assumption) rfl dX2_changeImage_13 ?_
  refine x_aload_n (i := 0) C dX2_changeImage_14 rfl rfl ?_
  refine x_callVv C hE (k_X2_measure l D cy a A X _ ) (cwV 0 C.2.2.2.2.1 gX2_changeImage_X2_measure rfl rfl rfl (by decide +kernel) ⟨Nat.le_of_ble_eq_true rfl, Nat.le_of_ble_eq_true rfl⟩) 2 (cW_W cy a X _) rfl rfl rfl rfl (Nat.le_of_ble_eq_true rfl) dX2_changeImage_15 ⟨Nat.le_of_ble_eq_true rfl, Nat.le_of_ble_eq_true rfl⟩ (fun u_15 h_15 => ?_)
  rw [h_15]
  refine x_iload_n (i := 3) C dX2_changeImage_18 rfl rfl ?_
  exact x_iret  C dX2_changeImage_19 ⟨Nat.le_of_ble_eq_true rfl, Nat.le_of_ble_eq_true rfl⟩ ⟨rfl, rfl⟩
theorem hinX2_changeDelta_X2 : ∀ w ∈ wsX20, w ∈ wsX2_changeDelta := by decide +kernel
def rmX2_changeDelta : Room := { frames := 3, cells := 0, slots := 0, locals := 70 }
set_option maxHeartbeats 4000000 in
set_option maxRecDepth 100000 in
theorem k_X2_changeDelta (l : Launch) (D : va_G) (cy : Nat → ClassId) (a : Nat → Nat) (A : Nat → Prop) (X : va_W) (V : XV) (f t z : Int32) (hf : vp_in f 8) (ht : vp_in t 8) : Met l yX2_changeDelta wsX2_changeDelta rmX2_changeDelta (va_Pc [.ref (a 2), .int f, .int t, .int z] (xPre D (tyC cy) A (cW cy a X V))) (va_Qi (fun (r : Int32) (u : XV) => r = V (25 + f.toNatClampNeg) t.toNatClampNeg ∧ u = measV (xs V (25 + f.toNatClampNeg) t.toNatClampNeg z)) (fun u t => xPost D (tyC cy) A (cW cy a X u) t) A) 0 0 A := by
  refine x_met (own := RX2) (by decide) rfl rfl (Nat.le_of_ble_eq_true rfl) rfl ?_
  intro p e s m below meth c hnm C hE
  refine x_aload_n (i := 0) C dX2_changeDelta_0 rfl rfl ?_
  refine x_getWr C 1 (by decide) hinX2_changeDelta_X2 (by decide +kernel) dX2_changeDelta_1 ?_
  refine x_iload_n (i := 1) C dX2_changeDelta_4 rfl rfl ?_
  refine x_aaldDe C (by assumption) rfl dX2_changeDelta_5 ?_
  refine x_iload_n (i := 2) C dX2_changeDelta_6 rfl rfl ?_
  refine x_ialdC C (by have := vp_at hf; unfold cI; omega) (by assumption) rfl dX2_changeDelta_7 ?_
  refine x_istore (i := 4) C dX2_changeDelta_8 (by decide) ?_
  refine x_aload_n (i := 0) C dX2_changeDelta_10 rfl rfl ?_
  refine x_getWr C 1 (by decide) hinX2_changeDelta_X2 (by decide +kernel) dX2_changeDelta_11 ?_
  refine x_iload_n (i := 1) C dX2_changeDelta_14 rfl rfl ?_
  refine x_aaldDe C (by assumption) rfl dX2_changeDelta_15 ?_
  refine x_iload_n (i := 2) C dX2_changeDelta_16 rfl rfl ?_
  refine x_iload_n (i := 3) C dX2_changeDelta_17 rfl rfl ?_
  refine x_iastC C (by have := vp_at hf; unfold cI; omega) (by assumption) rfl dX2_changeDelta_18 ?_
  refine x_aload_n (i := 0) C dX2_changeDelta_19 rfl rfl ?_
  refine x_callVv C hE (k_X2_measure l D cy a A X _ ) (cwV 0 C.2.2.2.2.1 gX2_changeDelta_X2_measure rfl rfl rfl (by decide +kernel) ⟨Nat.le_of_ble_eq_true rfl, Nat.le_of_ble_eq_true rfl⟩) 2 (cW_W cy a X _) rfl rfl rfl rfl (Nat.le_of_ble_eq_true rfl) dX2_changeDelta_20 ⟨Nat.le_of_ble_eq_true rfl, Nat.le_of_ble_eq_true rfl⟩ (fun u_20 h_20 => ?_)
  rw [h_20]
  refine x_iload (i := 4) C dX2_changeDelta_23 rfl ?_
  exact x_iret  C dX2_changeDelta_25 ⟨Nat.le_of_ble_eq_true rfl, Nat.le_of_ble_eq_true rfl⟩ ⟨rfl, rfl⟩
