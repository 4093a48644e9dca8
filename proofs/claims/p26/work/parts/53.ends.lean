/-! ===== BEGIN ends ===== -/
theorem bit_0 {x : Int32} {d : Nat} (h : hasB x (nI d) = false) : (x >>> (nI d &&& 31)) &&& nI 1 = 0 := by
  unfold hasB at h
  rw [decide_eq_false_iff_not] at h
  show (x >>> (nI d &&& 31)) &&& 1 = 0
  generalize x >>> (nI d &&& 31) = y at h ⊢
  rw [← Int32.toBitVec_inj, Int32.toBitVec_and] at h ⊢
  apply BitVec.eq_of_getLsbD_eq
  intro i hi
  cases q : y.toBitVec.getLsbD 0 with
  | true => exact absurd ((bb_one _).mpr q) h
  | false =>
    rw [BitVec.getLsbD_and]
    cases i with
    | zero => rw [q]; rfl
    | succ i =>
      show (_ && (1#32).getLsbD (i + 1)) = (0#32).getLsbD (i + 1)
      simp [BitVec.getLsbD_one]
def rmL_ends : Room := { frames := 13, cells := 12000, slots := 72000, locals := 397 }
set_option maxHeartbeats 40000000 in
set_option maxRecDepth 100000 in
theorem k_L_ends (l : Launch) (hfl : l.stackTraces = false) (D : va_G) (cy : Nat → ClassId) (a : Nat → Nat) (o : Nat) (f : Nat → Int32) (A : Nat → Prop) (Y : va_W) (V : XV) {n m : Nat} (h : gJ V n m) : Met l yL_ends wsL_ends rmL_ends (va_Pc [.ref (a 0), .ref o] (xPre D (tyC cy) A (cW cy a (nX cy o f :: Y) V))) (va_Qi (fun (r : Int32) (u : XV) => r = 1 ∧ gJ u n m) (fun u t => xPost D (tyC cy) A (cW cy a (nX cy o f :: Y) u) t) A) 12000 72000 A := by
  have hn10 := h.2.1
  have hm6 := h.2.2.2.1
  refine x_met (own := RL) (by decide) rfl rfl (Nat.le_of_ble_eq_true rfl) rfl ?_
  intro p e s m9 below meth c hnm C hE
  refine x_iconst (v := nI 1) C dL_ends_0 (by decide) ?_
  refine x_istore_n (i := 2) C dL_ends_1 rfl (by decide) ?_
  refine x_iconst (v := nI 0) C dL_ends_2 (by decide) ?_
  refine x_istore_n (i := 3) C dL_ends_3 rfl (by decide) ?_
  refine x_subm (lv' := [(3, .int (nI 0)), (2, .int (nI 1)), (1, .ref o), (0, .ref (a 0))]) ?_ rfl
  refine x_widen (k := ((0 + 0) + 3 * 0)) (n := ((0 + 0) + 18 * 0)) (by omega) (by omega) ?_
  refine x_count (N := n) (fun i => ∀ V : XV, gJ V n m → xA p l e rmL_ends s m9 _ below meth c D A 10 ((0 + 0) + 3 * i) ((0 + 0) + 18 * i) _ 4 [(3, .int (nI i)), (2, .int (nI 1)), (1, .ref o), (0, .ref (a 0))] [] (cW cy a (nX cy o f :: Y) V)) ?_ ?_ V h
  · intro V h
    refine x_iload_n (i := 3) C dL_ends_4 rfl rfl ?_
    refine x_aload_n (i := 0) C dL_ends_5 rfl rfl ?_
    refine x_callVi C hE (k_X3_devices l D cy a A _ V) (cwV 0 C.2.2.2.2.1 gL_ends_X3_devices rfl rfl rfl (by decide +kernel) ⟨Nat.le_of_ble_eq_true rfl, Nat.le_of_ble_eq_true rfl⟩) 0 (cW_R cy a _ _) rfl rfl rfl rfl (Nat.le_of_ble_eq_true rfl) dL_ends_6 ⟨by show _ ≤ 12000; omega, by show _ ≤ 72000; omega⟩ (fun r_6 u_6 h_6 => ?_)
    obtain ⟨rfl, rfl⟩ := rz_w (gJ_n h).1 h_6
    refine x_icmp_ge C 39 dL_ends_9 (by decide) (fun c_9 => ?_) (fun c_9 => absurd (nI_le (Nat.le_refl _) (by omega)) c_9)
    refine x_iconst (v := nI 1) C dL_ends_39 (by decide) ?_
    refine x_istore_n (i := 3) C dL_ends_40 rfl (by decide) ?_
    refine x_iconst (v := nI 0) C dL_ends_41 (by decide) ?_
    refine x_istore (i := 4) C dL_ends_42 (by decide) ?_
    refine x_subm (lv' := [(4, .int (nI 0)), (3, .int (nI 1)), (2, .int (nI 1)), (1, .ref o), (0, .ref (a 0))]) ?_ rfl
    refine x_widen (k := ((((0 + 0) + 3 * n) + 0) + 2420 * 0)) (n := ((((0 + 0) + 18 * n) + 0) + 14520 * 0)) (by omega) (by omega) ?_
    refine x_count (N := 4) (fun t => ∀ (V : XV) (r : Nat), gJ V n m → (0 < t → r ≤ n) → r < 1000 → xA p l e rmL_ends s m9 _ below meth c D A 10 ((((0 + 0) + 3 * n) + 0) + 2420 * t) ((((0 + 0) + 18 * n) + 0) + 14520 * t) _ 44 [(4, .int (nI t)), (3, .int (nI r)), (2, .int (nI 1)), (1, .ref o), (0, .ref (a 0))] [] (cW cy a (nX cy o f :: Y) V)) ?_ ?_ V 1 h (fun q => absurd q (Nat.lt_irrefl 0)) (by omega)
    · intro V r h hr hr9
      refine x_iload (i := 4) C dL_ends_44 rfl ?_
      refine x_iconst (v := nI 4) C dL_ends_46 (by decide) ?_
      refine x_icmp_ge C 309 dL_ends_47 (by decide) (fun c_47 => ?_) (fun c_47 => absurd (by decide) c_47)
      refine x_iload_n (i := 2) C dL_ends_309 rfl rfl ?_
      refine x_if_eq C 325 dL_ends_310 (by decide) (fun c_310 => absurd c_310 (by decide)) (fun c_310 => ?_)
      refine x_iload_n (i := 3) C dL_ends_313 rfl rfl ?_
      refine x_aload_n (i := 0) C dL_ends_314 rfl rfl ?_
      refine x_callVi C hE (k_X3_devices l D cy a A _ V) (cwV 0 C.2.2.2.2.1 gL_ends_X3_devices rfl rfl rfl (by decide +kernel) ⟨Nat.le_of_ble_eq_true rfl, Nat.le_of_ble_eq_true rfl⟩) 0 (cW_R cy a _ _) rfl rfl rfl rfl (Nat.le_of_ble_eq_true rfl) dL_ends_315 ⟨by show _ ≤ 12000; omega, by show _ ≤ 72000; omega⟩ (fun r_315 u_315 h_315 => ?_)
      obtain ⟨rfl, rfl⟩ := rz_w (gJ_n h).1 h_315
      refine x_icmp_gt C 325 dL_ends_318 (by decide) (fun c_318 => absurd c_318 (nI_nlt (hr (by omega)) (by omega))) (fun c_318 => ?_)
      refine x_iconst (v := nI 1) C dL_ends_321 (by decide) ?_
      refine x_goto C 326 dL_ends_322 (by decide) ?_
      exact x_zret (σ := XV) (Wf := fun (u : XV) => cW cy a (nX cy o f :: Y) u) (post := fun (r : Int32) (u : XV) => r = 1 ∧ gJ u n m) (u := V) C dL_ends_326 ⟨by show _ ≤ 12000; omega, by show _ ≤ 72000; omega⟩ rfl ⟨by decide, h⟩
    · intro t ht iht V r h hr hr9
      refine x_iload (i := 4) C dL_ends_44 rfl ?_
      refine x_iconst (v := nI 4) C dL_ends_46 (by decide) ?_
      refine x_icmp_ge C 309 dL_ends_47 (by decide) (fun c_47 => absurd c_47 (nI_ge ht (by omega))) (fun c_47 => ?_)
      refine x_iload_n (i := 2) C dL_ends_50 rfl rfl ?_
      refine x_if_eq C 309 dL_ends_51 (by decide) (fun c_51 => absurd c_51 (by decide)) (fun c_51 => ?_)
      refine x_iconst (v := nI 0) C dL_ends_54 (by decide) ?_
      refine x_istore (i := 5) C dL_ends_55 (by decide) ?_
      refine x_subm (lv' := [(5, .int (nI 0)), (4, .int (nI t)), (3, .int (nI r)), (2, .int (nI 1)), (1, .ref o), (0, .ref (a 0))]) ?_ rfl
      refine x_widen (k := ((((((0 + 0) + 3 * n) + 0) + 2420 * t) + 0) + 102 * 0)) (n := ((((((0 + 0) + 18 * n) + 0) + 14520 * t) + 0) + 612 * 0)) (by omega) (by omega) ?_
      refine x_count (N := 20) (fun u => ∀ V : XV, gJ V n m → xA p l e rmL_ends s m9 _ below meth c D A 10 ((((((0 + 0) + 3 * n) + 0) + 2420 * t) + 0) + 102 * u) ((((((0 + 0) + 18 * n) + 0) + 14520 * t) + 0) + 612 * u) _ 57 [(5, .int (nI u)), (4, .int (nI t)), (3, .int (nI r)), (2, .int (nI 1)), (1, .ref o), (0, .ref (a 0))] [] (cW cy a (nX cy o f :: Y) V)) ?_ ?_ V h
      · intro V h
        refine x_iload (i := 5) C dL_ends_57 rfl ?_
        refine x_bipush (v := nI 20) C dL_ends_59 (by decide) ?_
        refine x_icmp_ge C 131 dL_ends_61 (by decide) (fun c_61 => ?_) (fun c_61 => absurd (by decide) c_61)
        refine x_iconst (v := nI 0) C dL_ends_131 (by decide) ?_
        refine x_istore_n (i := 3) C dL_ends_132 rfl (by decide) ?_
        refine x_iconst (v := nI 0) C dL_ends_133 (by decide) ?_
        refine x_istore (i := 5) C dL_ends_134 (by decide) ?_
        refine x_subm (lv' := [(5, .int (nI 0)), (4, .int (nI t)), (3, .int (nI 0)), (2, .int (nI 1)), (1, .ref o), (0, .ref (a 0))]) ?_ rfl
        refine x_widen (k := ((((((((0 + 0) + 3 * n) + 0) + 2420 * t) + 0) + 102 * 20) + 0) + 16 * 0)) (n := ((((((((0 + 0) + 18 * n) + 0) + 14520 * t) + 0) + 612 * 20) + 0) + 96 * 0)) (by omega) (by omega) ?_
        refine x_count (N := n) (fun i => ∀ (V : XV) (r : Nat), gJ V n m → r ≤ i → xA p l e rmL_ends s m9 _ below meth c D A 10 ((((((((0 + 0) + 3 * n) + 0) + 2420 * t) + 0) + 102 * 20) + 0) + 16 * i) ((((((((0 + 0) + 18 * n) + 0) + 14520 * t) + 0) + 612 * 20) + 0) + 96 * i) _ 136 [(5, .int (nI i)), (4, .int (nI t)), (3, .int (nI r)), (2, .int (nI 1)), (1, .ref o), (0, .ref (a 0))] [] (cW cy a (nX cy o f :: Y) V)) ?_ ?_ V 0 h (Nat.le_refl 0)
        · intro V r h hr
          refine x_iload (i := 5) C dL_ends_136 rfl ?_
          refine x_aload_n (i := 0) C dL_ends_138 rfl rfl ?_
          refine x_callVi C hE (k_X3_devices l D cy a A _ V) (cwV 0 C.2.2.2.2.1 gL_ends_X3_devices rfl rfl rfl (by decide +kernel) ⟨Nat.le_of_ble_eq_true rfl, Nat.le_of_ble_eq_true rfl⟩) 0 (cW_R cy a _ _) rfl rfl rfl rfl (Nat.le_of_ble_eq_true rfl) dL_ends_139 ⟨by show _ ≤ 12000; omega, by show _ ≤ 72000; omega⟩ (fun r_139 u_139 h_139 => ?_)
          obtain ⟨rfl, rfl⟩ := rz_w (gJ_n h).1 h_139
          refine x_icmp_ge C 303 dL_ends_142 (by decide) (fun c_142 => ?_) (fun c_142 => absurd (nI_le (Nat.le_refl _) (by omega)) c_142)
          refine x_iinc (v := nI (t + 1)) C dL_ends_303 rfl (nI_1 _) ?_
          refine x_goto C 44 dL_ends_306 (by decide) ?_
          refine x_subm (lv' := [(4, .int (nI ((t + 1)))), (3, .int (nI r)), (2, .int (nI 1)), (1, .ref o), (0, .ref (a 0))]) ?_ rfl
          exact x_widen (by omega) (by omega) (iht _ _ h (fun _ => hr) (by omega))
        · intro i hi ihi V r h hr
          refine x_iload (i := 5) C dL_ends_136 rfl ?_
          refine x_aload_n (i := 0) C dL_ends_138 rfl rfl ?_
          refine x_callVi C hE (k_X3_devices l D cy a A _ V) (cwV 0 C.2.2.2.2.1 gL_ends_X3_devices rfl rfl rfl (by decide +kernel) ⟨Nat.le_of_ble_eq_true rfl, Nat.le_of_ble_eq_true rfl⟩) 0 (cW_R cy a _ _) rfl rfl rfl rfl (Nat.le_of_ble_eq_true rfl) dL_ends_139 ⟨by show _ ≤ 12000; omega, by show _ ≤ 72000; omega⟩ (fun r_139 u_139 h_139 => ?_)
          obtain ⟨rfl, rfl⟩ := rz_w (gJ_n h).1 h_139
          refine x_icmp_ge C 303 dL_ends_142 (by decide) (fun c_142 => absurd c_142 (nI_ge hi (by omega))) (fun c_142 => ?_)
          refine x_iload_n (i := 2) C dL_ends_145 rfl rfl ?_
          refine x_if_eq C 303 dL_ends_146 (by decide) (fun c_146 => absurd c_146 (by decide)) (fun c_146 => ?_)
          by_cases hs : V (9 + i) 6 = 2
          · refine x_aload_n (i := 0) C dL_ends_149 rfl rfl ?_
            refine x_iload (i := 5) C dL_ends_150 rfl ?_
            refine x_callSWi (As := [.ref (a 0), .int (nI i)]) C hE (k_L_version l hfl D cy a A _ V h (nI i)) (vx_cwSW 2 C.2.2.2.2.1 gL_ends_L_version rfl rfl rfl (by decide +kernel) ⟨Nat.le_of_ble_eq_true rfl, Nat.le_of_ble_eq_true rfl⟩) rfl rfl (Nat.le_of_ble_eq_true rfl) dL_ends_152 ⟨by show _ ≤ 12000; omega, by show _ ≤ 72000; omega⟩ (fun r_152 u_152 h_152 => ?_)
            obtain ⟨rfl, rfl⟩ := rn_w (nDx_at h hi) (show V (9 + (nI i).toNatClampNeg) 2 = V (9 + i) 2 by rw [nI_clamp (by omega)]) h_152
            refine x_istore (i := 6) C dL_ends_155 (by decide) ?_
            refine x_aload_n (i := 0) C dL_ends_157 rfl rfl ?_
            refine x_iload (i := 5) C dL_ends_158 rfl ?_
            refine x_callSWi (As := [.ref (a 0), .int (nI i)]) C hE (k_L_state l hfl D cy a A _ V h (nI i)) (vx_cwSW 2 C.2.2.2.2.1 gL_ends_L_state rfl rfl rfl (by decide +kernel) ⟨Nat.le_of_ble_eq_true rfl, Nat.le_of_ble_eq_true rfl⟩) rfl rfl (Nat.le_of_ble_eq_true rfl) dL_ends_160 ⟨by show _ ≤ 12000; omega, by show _ ≤ 72000; omega⟩ (fun r_160 u_160 h_160 => ?_)
            obtain ⟨rfl, rfl⟩ := rn_w (nDx_at h hi) (show V (9 + (nI i).toNatClampNeg) 6 = V (9 + i) 6 by rw [nI_clamp (by omega)]) h_160
            refine x_iconst (v := nI 2) C dL_ends_163 (by decide) ?_
            refine x_icmp_ne C 294 dL_ends_164 (by decide) (fun c_164 => absurd hs c_164) (fun c_164 => ?_)
            obtain ⟨c9, hc9, e7, e7c, e2, ebit, hrx⟩ := trial_T h hi hs
            obtain ⟨v2, v6, vne, vel, vdis⟩ := rep_well h hi hc9 hs e7 e2
            have hU : gJ (reportV V (9 + i) (19 + c9) 1) n m := gJ_report (by omega) hc9 1 h hs e7
            obtain ⟨k0, k1, k8, ⟨z9, hz9, e9⟩, r9, hr9, e10⟩ := gJ_c h (show c9 < 6 by omega)
            have hcn := cnt_le (V (19 + c9) 12) 10
            obtain ⟨vv, hvv, ev⟩ := vp_in_of k1 (by omega)
            refine x_aload_n (i := 0) C dL_ends_167 rfl rfl ?_
            refine x_aload_n (i := 0) C dL_ends_168 rfl rfl ?_
            refine x_iload (i := 5) C dL_ends_169 rfl ?_
            refine x_callSWi (As := [.ref (a 0), .int (nI i)]) C hE (k_L_campaign l hfl D cy a A _ V h (nI i)) (vx_cwSW 2 C.2.2.2.2.1 gL_ends_L_campaign rfl rfl rfl (by decide +kernel) ⟨Nat.le_of_ble_eq_true rfl, Nat.le_of_ble_eq_true rfl⟩) rfl rfl (Nat.le_of_ble_eq_true rfl) dL_ends_171 ⟨by show _ ≤ 12000; omega, by show _ ≤ 72000; omega⟩ (fun r_171 u_171 h_171 => ?_)
            obtain ⟨rfl, rfl⟩ := rn_w (nDx_at h hi) (show V (9 + (nI i).toNatClampNeg) 7 = nI c9 by rw [nI_clamp (by omega)]; exact e7) h_171
            refine x_callSWi (As := [.ref (a 0), .int (nI c9)]) C hE (k_L_counted l hfl D cy a A _ V h (nI c9)) (vx_cwSW 2 C.2.2.2.2.1 gL_ends_L_counted rfl rfl rfl (by decide +kernel) ⟨Nat.le_of_ble_eq_true rfl, Nat.le_of_ble_eq_true rfl⟩) rfl rfl (Nat.le_of_ble_eq_true rfl) dL_ends_174 ⟨by show _ ≤ 12000; omega, by show _ ≤ 72000; omega⟩ (fun r_174 u_174 h_174 => ?_)
            obtain ⟨rfl, rfl⟩ := rn_w (nCx_at h hc9) (show V (19 + (nI c9).toNatClampNeg) 10 = nI r9 by rw [nI_clamp (by omega)]; exact e10) h_174
            refine x_istore (i := 7) C dL_ends_177 (by decide) ?_
            refine x_aload_n (i := 0) C dL_ends_179 rfl rfl ?_
            refine x_iload (i := 5) C dL_ends_180 rfl ?_
            refine x_callSWi (As := [.ref (a 0), .int (nI i)]) C hE (k_L_campaign l hfl D cy a A _ V h (nI i)) (vx_cwSW 2 C.2.2.2.2.1 gL_ends_L_campaign rfl rfl rfl (by decide +kernel) ⟨Nat.le_of_ble_eq_true rfl, Nat.le_of_ble_eq_true rfl⟩) rfl rfl (Nat.le_of_ble_eq_true rfl) dL_ends_182 ⟨by show _ ≤ 12000; omega, by show _ ≤ 72000; omega⟩ (fun r_182 u_182 h_182 => ?_)
            obtain ⟨rfl, rfl⟩ := rn_w (nDx_at h hi) (show V (9 + (nI i).toNatClampNeg) 7 = nI c9 by rw [nI_clamp (by omega)]; exact e7) h_182
            refine x_istore (i := 8) C dL_ends_185 (by decide) ?_
            refine x_aload_n (i := 0) C dL_ends_187 rfl rfl ?_
            refine x_iload (i := 8) C dL_ends_188 rfl ?_
            refine x_callSWi (As := [.ref (a 0), .int (nI c9)]) C hE (k_L_ring l hfl D cy a A _ V h (nI c9)) (vx_cwSW 2 C.2.2.2.2.1 gL_ends_L_ring rfl rfl rfl (by decide +kernel) ⟨Nat.le_of_ble_eq_true rfl, Nat.le_of_ble_eq_true rfl⟩) rfl rfl (Nat.le_of_ble_eq_true rfl) dL_ends_190 ⟨by show _ ≤ 12000; omega, by show _ ≤ 72000; omega⟩ (fun r_190 u_190 h_190 => ?_)
            obtain ⟨rfl, rfl⟩ := rn_w (nCx_at h hc9) (show V (19 + (nI c9).toNatClampNeg) 9 = nI z9 by rw [nI_clamp (by omega)]; exact e9) h_190
            refine x_istore (i := 9) C dL_ends_193 (by decide) ?_
            refine x_aload_n (i := 0) C dL_ends_195 rfl rfl ?_
            refine x_iload (i := 5) C dL_ends_196 rfl ?_
            refine x_iconst (v := nI 1) C dL_ends_198 (by decide) ?_
            refine x_callSWi (As := [.ref (a 0), .int (nI i), .int (nI 1)]) C hE (k_L_reports l hfl D cy a A _ V h (nI i) (nI 1)) (vx_cwSW 3 C.2.2.2.2.1 gL_ends_L_reports rfl rfl rfl (by decide +kernel) ⟨Nat.le_of_ble_eq_true rfl, Nat.le_of_ble_eq_true rfl⟩) rfl rfl (Nat.le_of_ble_eq_true rfl) dL_ends_199 ⟨by show _ ≤ 12000; omega, by show _ ≤ 72000; omega⟩ (fun r_199 u_199 h_199 => ?_)
            obtain ⟨rfl, rfl⟩ := ru_w (z' := nI vv) (U' := reportV V (9 + i) (19 + c9) 1) hrx (by rw [nI_clamp (by omega), e7c]; exact v2.trans ev) (by rw [nI_clamp (by omega), e7c]; rfl) h_199
            refine x_if_lt C 289 dL_ends_202 (by decide) (fun c_202 => absurd c_202 (nI_pos (by omega))) (fun c_202 => ?_)
            refine x_aload_n (i := 0) C dL_ends_205 rfl rfl ?_
            refine x_iload (i := 5) C dL_ends_206 rfl ?_
            refine x_callSWi (As := [.ref (a 0), .int (nI i)]) C hE (k_L_state l hfl D cy a A _ (reportV V (9 + i) (19 + c9) 1) hU (nI i)) (vx_cwSW 2 C.2.2.2.2.1 gL_ends_L_state rfl rfl rfl (by decide +kernel) ⟨Nat.le_of_ble_eq_true rfl, Nat.le_of_ble_eq_true rfl⟩) rfl rfl (Nat.le_of_ble_eq_true rfl) dL_ends_208 ⟨by show _ ≤ 12000; omega, by show _ ≤ 72000; omega⟩ (fun r_208 u_208 h_208 => ?_)
            obtain ⟨rfl, rfl⟩ := rn_w (nDx_at hU hi) (show (reportV V (9 + i) (19 + c9) 1) (9 + (nI i).toNatClampNeg) 6 = nI 0 by rw [nI_clamp (by omega)]; exact v6) h_208
            refine x_if_ne C 289 dL_ends_211 (by decide) (fun c_211 => absurd rfl c_211) (fun c_211 => ?_)
            refine x_aload_n (i := 0) C dL_ends_214 rfl rfl ?_
            refine x_iload (i := 5) C dL_ends_215 rfl ?_
            refine x_callSWi (As := [.ref (a 0), .int (nI i)]) C hE (k_L_version l hfl D cy a A _ (reportV V (9 + i) (19 + c9) 1) hU (nI i)) (vx_cwSW 2 C.2.2.2.2.1 gL_ends_L_version rfl rfl rfl (by decide +kernel) ⟨Nat.le_of_ble_eq_true rfl, Nat.le_of_ble_eq_true rfl⟩) rfl rfl (Nat.le_of_ble_eq_true rfl) dL_ends_217 ⟨by show _ ≤ 12000; omega, by show _ ≤ 72000; omega⟩ (fun r_217 u_217 h_217 => ?_)
            obtain ⟨rfl, rfl⟩ := rn_w (nDx_at hU hi) (show (reportV V (9 + i) (19 + c9) 1) (9 + (nI i).toNatClampNeg) 2 = (reportV V (9 + i) (19 + c9) 1) (9 + i) 2 by rw [nI_clamp (by omega)]) h_217
            refine x_iload (i := 6) C dL_ends_220 rfl ?_
            refine x_icmp_eq C 289 dL_ends_222 (by decide) (fun c_222 => absurd c_222 vne) (fun c_222 => ?_)
            refine x_aload_n (i := 0) C dL_ends_225 rfl rfl ?_
            refine x_iload (i := 8) C dL_ends_226 rfl ?_
            refine x_callSWi (As := [.ref (a 0), .int (nI c9)]) C hE (k_L_eligible l hfl D cy a A _ (reportV V (9 + i) (19 + c9) 1) hU (nI c9)) (vx_cwSW 2 C.2.2.2.2.1 gL_ends_L_eligible rfl rfl rfl (by decide +kernel) ⟨Nat.le_of_ble_eq_true rfl, Nat.le_of_ble_eq_true rfl⟩) rfl rfl (Nat.le_of_ble_eq_true rfl) dL_ends_228 ⟨by show _ ≤ 12000; omega, by show _ ≤ 72000; omega⟩ (fun r_228 u_228 h_228 => ?_)
            obtain ⟨rfl, rfl⟩ := rn_w (nCx_at hU hc9) (show elI (reportV V (9 + i) (19 + c9) 1) (19 + (nI c9).toNatClampNeg) n = elI (reportV V (9 + i) (19 + c9) 1) (19 + c9) n by rw [nI_clamp (by omega)]) h_228
            refine x_iload (i := 5) C dL_ends_231 rfl ?_
            refine x_ishr C dL_ends_233 ?_
            refine x_iconst (v := nI 1) C dL_ends_234 (by decide) ?_
            refine x_iand C dL_ends_235 ?_
            refine x_if_ne C 289 dL_ends_236 (by decide) (fun c_236 => absurd (bit_0 vel) c_236) (fun c_236 => ?_)
            rcases vdis with ⟨w10, w9⟩ | ⟨w10, w9⟩
            · refine x_aload_n (i := 0) C dL_ends_239 rfl rfl ?_
              refine x_iload (i := 8) C dL_ends_240 rfl ?_
              refine x_callSWi (As := [.ref (a 0), .int (nI c9)]) C hE (k_L_counted l hfl D cy a A _ (reportV V (9 + i) (19 + c9) 1) hU (nI c9)) (vx_cwSW 2 C.2.2.2.2.1 gL_ends_L_counted rfl rfl rfl (by decide +kernel) ⟨Nat.le_of_ble_eq_true rfl, Nat.le_of_ble_eq_true rfl⟩) rfl rfl (Nat.le_of_ble_eq_true rfl) dL_ends_242 ⟨by show _ ≤ 12000; omega, by show _ ≤ 72000; omega⟩ (fun r_242 u_242 h_242 => ?_)
              obtain ⟨rfl, rfl⟩ := rn_w (nCx_at hU hc9) (show (reportV V (9 + i) (19 + c9) 1) (19 + (nI c9).toNatClampNeg) 10 = nI ((r9 + 1)) by rw [nI_clamp (by omega)]; exact (w10.trans (by rw [e10]; exact nI_1 r9))) h_242
              refine x_iload (i := 7) C dL_ends_245 rfl ?_
              refine x_iconst (v := nI 1) C dL_ends_247 (by decide) ?_
              refine x_iadd C dL_ends_248 ?_
              refine x_topi (nI_add _ _) ?_
              refine x_icmp_ne C 263 dL_ends_249 (by decide) (fun c_249 => absurd rfl c_249) (fun c_249 => ?_)
              refine x_aload_n (i := 0) C dL_ends_252 rfl rfl ?_
              refine x_iload (i := 8) C dL_ends_253 rfl ?_
              refine x_callSWi (As := [.ref (a 0), .int (nI c9)]) C hE (k_L_ring l hfl D cy a A _ (reportV V (9 + i) (19 + c9) 1) hU (nI c9)) (vx_cwSW 2 C.2.2.2.2.1 gL_ends_L_ring rfl rfl rfl (by decide +kernel) ⟨Nat.le_of_ble_eq_true rfl, Nat.le_of_ble_eq_true rfl⟩) rfl rfl (Nat.le_of_ble_eq_true rfl) dL_ends_255 ⟨by show _ ≤ 12000; omega, by show _ ≤ 72000; omega⟩ (fun r_255 u_255 h_255 => ?_)
              obtain ⟨rfl, rfl⟩ := rn_w (nCx_at hU hc9) (show (reportV V (9 + i) (19 + c9) 1) (19 + (nI c9).toNatClampNeg) 9 = nI z9 by rw [nI_clamp (by omega)]; exact (w9.trans e9)) h_255
              refine x_iload (i := 9) C dL_ends_258 rfl ?_
              refine x_icmp_eq C 285 dL_ends_260 (by decide) (fun c_260 => ?_) (fun c_260 => absurd rfl c_260)
              refine x_iconst (v := nI 1) C dL_ends_285 (by decide) ?_
              refine x_goto C 290 dL_ends_286 (by decide) ?_
              refine x_istore_n (i := 2) C dL_ends_290 rfl (by decide) ?_
              refine x_goto C 297 dL_ends_291 (by decide) ?_
              refine x_iinc (v := nI (i + 1)) C dL_ends_297 rfl (nI_1 _) ?_
              refine x_goto C 136 dL_ends_300 (by decide) ?_
              refine x_subm (lv' := [(5, .int (nI ((i + 1)))), (4, .int (nI t)), (3, .int (nI r)), (2, .int (nI 1)), (1, .ref o), (0, .ref (a 0))]) ?_ rfl
              exact x_widen (by omega) (by omega) (ihi _ _ hU (by omega))
            · refine x_aload_n (i := 0) C dL_ends_239 rfl rfl ?_
              refine x_iload (i := 8) C dL_ends_240 rfl ?_
              refine x_callSWi (As := [.ref (a 0), .int (nI c9)]) C hE (k_L_counted l hfl D cy a A _ (reportV V (9 + i) (19 + c9) 1) hU (nI c9)) (vx_cwSW 2 C.2.2.2.2.1 gL_ends_L_counted rfl rfl rfl (by decide +kernel) ⟨Nat.le_of_ble_eq_true rfl, Nat.le_of_ble_eq_true rfl⟩) rfl rfl (Nat.le_of_ble_eq_true rfl) dL_ends_242 ⟨by show _ ≤ 12000; omega, by show _ ≤ 72000; omega⟩ (fun r_242 u_242 h_242 => ?_)
              obtain ⟨rfl, rfl⟩ := rn_w (nCx_at hU hc9) (show (reportV V (9 + i) (19 + c9) 1) (19 + (nI c9).toNatClampNeg) 10 = nI 0 by rw [nI_clamp (by omega)]; exact w10) h_242
              refine x_iload (i := 7) C dL_ends_245 rfl ?_
              refine x_iconst (v := nI 1) C dL_ends_247 (by decide) ?_
              refine x_iadd C dL_ends_248 ?_
              refine x_topi (nI_add _ _) ?_
              refine x_icmp_ne C 263 dL_ends_249 (by decide) (fun c_249 => ?_) (fun c_249 => absurd c_249 (fun q => by have := nI_inj (by omega) (by omega) q; omega))
              refine x_aload_n (i := 0) C dL_ends_263 rfl rfl ?_
              refine x_iload (i := 8) C dL_ends_264 rfl ?_
              refine x_callSWi (As := [.ref (a 0), .int (nI c9)]) C hE (k_L_counted l hfl D cy a A _ (reportV V (9 + i) (19 + c9) 1) hU (nI c9)) (vx_cwSW 2 C.2.2.2.2.1 gL_ends_L_counted rfl rfl rfl (by decide +kernel) ⟨Nat.le_of_ble_eq_true rfl, Nat.le_of_ble_eq_true rfl⟩) rfl rfl (Nat.le_of_ble_eq_true rfl) dL_ends_266 ⟨by show _ ≤ 12000; omega, by show _ ≤ 72000; omega⟩ (fun r_266 u_266 h_266 => ?_)
              obtain ⟨rfl, rfl⟩ := rn_w (nCx_at hU hc9) (show (reportV V (9 + i) (19 + c9) 1) (19 + (nI c9).toNatClampNeg) 10 = nI 0 by rw [nI_clamp (by omega)]; exact w10) h_266
              refine x_if_ne C 289 dL_ends_269 (by decide) (fun c_269 => absurd rfl c_269) (fun c_269 => ?_)
              refine x_aload_n (i := 0) C dL_ends_272 rfl rfl ?_
              refine x_iload (i := 8) C dL_ends_273 rfl ?_
              refine x_callSWi (As := [.ref (a 0), .int (nI c9)]) C hE (k_L_ring l hfl D cy a A _ (reportV V (9 + i) (19 + c9) 1) hU (nI c9)) (vx_cwSW 2 C.2.2.2.2.1 gL_ends_L_ring rfl rfl rfl (by decide +kernel) ⟨Nat.le_of_ble_eq_true rfl, Nat.le_of_ble_eq_true rfl⟩) rfl rfl (Nat.le_of_ble_eq_true rfl) dL_ends_275 ⟨by show _ ≤ 12000; omega, by show _ ≤ 72000; omega⟩ (fun r_275 u_275 h_275 => ?_)
              obtain ⟨rfl, rfl⟩ := rn_w (nCx_at hU hc9) (show (reportV V (9 + i) (19 + c9) 1) (19 + (nI c9).toNatClampNeg) 9 = nI ((z9 + 1)) by rw [nI_clamp (by omega)]; exact (w9.trans (by rw [e9]; exact nI_1 z9))) h_275
              refine x_iload (i := 9) C dL_ends_278 rfl ?_
              refine x_iconst (v := nI 1) C dL_ends_280 (by decide) ?_
              refine x_iadd C dL_ends_281 ?_
              refine x_topi (nI_add _ _) ?_
              refine x_icmp_ne C 289 dL_ends_282 (by decide) (fun c_282 => absurd rfl c_282) (fun c_282 => ?_)
              refine x_iconst (v := nI 1) C dL_ends_285 (by decide) ?_
              refine x_goto C 290 dL_ends_286 (by decide) ?_
              refine x_istore_n (i := 2) C dL_ends_290 rfl (by decide) ?_
              refine x_goto C 297 dL_ends_291 (by decide) ?_
              refine x_iinc (v := nI (i + 1)) C dL_ends_297 rfl (nI_1 _) ?_
              refine x_goto C 136 dL_ends_300 (by decide) ?_
              refine x_subm (lv' := [(5, .int (nI ((i + 1)))), (4, .int (nI t)), (3, .int (nI r)), (2, .int (nI 1)), (1, .ref o), (0, .ref (a 0))]) ?_ rfl
              exact x_widen (by omega) (by omega) (ihi _ _ hU (by omega))
          · refine x_aload_n (i := 0) C dL_ends_149 rfl rfl ?_
            refine x_iload (i := 5) C dL_ends_150 rfl ?_
            refine x_callSWi (As := [.ref (a 0), .int (nI i)]) C hE (k_L_version l hfl D cy a A _ V h (nI i)) (vx_cwSW 2 C.2.2.2.2.1 gL_ends_L_version rfl rfl rfl (by decide +kernel) ⟨Nat.le_of_ble_eq_true rfl, Nat.le_of_ble_eq_true rfl⟩) rfl rfl (Nat.le_of_ble_eq_true rfl) dL_ends_152 ⟨by show _ ≤ 12000; omega, by show _ ≤ 72000; omega⟩ (fun r_152 u_152 h_152 => ?_)
            obtain ⟨rfl, rfl⟩ := rn_w (nDx_at h hi) (show V (9 + (nI i).toNatClampNeg) 2 = V (9 + i) 2 by rw [nI_clamp (by omega)]) h_152
            refine x_istore (i := 6) C dL_ends_155 (by decide) ?_
            refine x_aload_n (i := 0) C dL_ends_157 rfl rfl ?_
            refine x_iload (i := 5) C dL_ends_158 rfl ?_
            refine x_callSWi (As := [.ref (a 0), .int (nI i)]) C hE (k_L_state l hfl D cy a A _ V h (nI i)) (vx_cwSW 2 C.2.2.2.2.1 gL_ends_L_state rfl rfl rfl (by decide +kernel) ⟨Nat.le_of_ble_eq_true rfl, Nat.le_of_ble_eq_true rfl⟩) rfl rfl (Nat.le_of_ble_eq_true rfl) dL_ends_160 ⟨by show _ ≤ 12000; omega, by show _ ≤ 72000; omega⟩ (fun r_160 u_160 h_160 => ?_)
            obtain ⟨rfl, rfl⟩ := rn_w (nDx_at h hi) (show V (9 + (nI i).toNatClampNeg) 6 = V (9 + i) 6 by rw [nI_clamp (by omega)]) h_160
            refine x_iconst (v := nI 2) C dL_ends_163 (by decide) ?_
            refine x_icmp_ne C 294 dL_ends_164 (by decide) (fun c_164 => ?_) (fun c_164 => absurd c_164 hs)
            refine x_iinc (v := nI (r + 1)) C dL_ends_294 rfl (nI_1 _) ?_
            refine x_iinc (v := nI (i + 1)) C dL_ends_297 rfl (nI_1 _) ?_
            refine x_goto C 136 dL_ends_300 (by decide) ?_
            refine x_subm (lv' := [(5, .int (nI ((i + 1)))), (4, .int (nI t)), (3, .int (nI ((r + 1)))), (2, .int (nI 1)), (1, .ref o), (0, .ref (a 0))]) ?_ rfl
            exact x_widen (by omega) (by omega) (ihi _ _ h (by omega))
      · intro u hu ihu V h
        refine x_iload (i := 5) C dL_ends_57 rfl ?_
        refine x_bipush (v := nI 20) C dL_ends_59 (by decide) ?_
        refine x_icmp_ge C 131 dL_ends_61 (by decide) (fun c_61 => absurd c_61 (nI_ge hu (by omega))) (fun c_61 => ?_)
        refine x_iload_n (i := 2) C dL_ends_64 rfl rfl ?_
        refine x_if_eq C 131 dL_ends_65 (by decide) (fun c_65 => absurd c_65 (by decide)) (fun c_65 => ?_)
        refine x_iconst (v := nI 0) C dL_ends_68 (by decide) ?_
        refine x_istore (i := 6) C dL_ends_69 (by decide) ?_
        refine x_subm (lv' := [(6, .int (nI 0)), (5, .int (nI u)), (4, .int (nI t)), (3, .int (nI r)), (2, .int (nI 1)), (1, .ref o), (0, .ref (a 0))]) ?_ rfl
        refine x_widen (k := ((((((((0 + 0) + 3 * n) + 0) + 2420 * t) + 0) + 102 * u) + 0) + 2 * 0)) (n := ((((((((0 + 0) + 18 * n) + 0) + 14520 * t) + 0) + 612 * u) + 0) + 12 * 0)) (by omega) (by omega) ?_
        refine x_count (N := n) (fun i => ∀ V : XV, gJ V n m → xA p l e rmL_ends s m9 _ below meth c D A 10 ((((((((0 + 0) + 3 * n) + 0) + 2420 * t) + 0) + 102 * u) + 0) + 2 * i) ((((((((0 + 0) + 18 * n) + 0) + 14520 * t) + 0) + 612 * u) + 0) + 12 * i) _ 71 [(6, .int (nI i)), (5, .int (nI u)), (4, .int (nI t)), (3, .int (nI r)), (2, .int (nI 1)), (1, .ref o), (0, .ref (a 0))] [] (cW cy a (nX cy o f :: Y) V)) ?_ ?_ V h
        · intro V h
          refine x_iload (i := 6) C dL_ends_71 rfl ?_
          refine x_aload_n (i := 0) C dL_ends_73 rfl rfl ?_
          refine x_callVi C hE (k_X3_devices l D cy a A _ V) (cwV 0 C.2.2.2.2.1 gL_ends_X3_devices rfl rfl rfl (by decide +kernel) ⟨Nat.le_of_ble_eq_true rfl, Nat.le_of_ble_eq_true rfl⟩) 0 (cW_R cy a _ _) rfl rfl rfl rfl (Nat.le_of_ble_eq_true rfl) dL_ends_74 ⟨by show _ ≤ 12000; omega, by show _ ≤ 72000; omega⟩ (fun r_74 u_74 h_74 => ?_)
          obtain ⟨rfl, rfl⟩ := rz_w (gJ_n h).1 h_74
          refine x_icmp_ge C 107 dL_ends_77 (by decide) (fun c_77 => ?_) (fun c_77 => absurd (nI_le (Nat.le_refl _) (by omega)) c_77)
          refine x_iload_n (i := 2) C dL_ends_107 rfl rfl ?_
          refine x_if_eq C 123 dL_ends_108 (by decide) (fun c_108 => absurd c_108 (by decide)) (fun c_108 => ?_)
          obtain ⟨tt, htt, et⟩ := paT_1 V n m
          refine x_aload_n (i := 0) C dL_ends_111 rfl rfl ?_
          refine x_iconst (v := nI 1) C dL_ends_112 (by decide) ?_
          refine x_callSWi (As := [.ref (a 0), .int (nI 1)]) C hE (k_L_passes l hfl D cy a A _ V h (nI 1)) (vx_cwSW 2 C.2.2.2.2.1 gL_ends_L_passes rfl rfl rfl (by decide +kernel) ⟨Nat.le_of_ble_eq_true rfl, Nat.le_of_ble_eq_true rfl⟩) rfl rfl (Nat.le_of_ble_eq_true rfl) dL_ends_113 ⟨by show _ ≤ 12000; omega, by show _ ≤ 72000; omega⟩ (fun r_113 u_113 h_113 => ?_)
          obtain ⟨rfl, rfl⟩ := rn_w (show nRx 1 1 100 = none by decide) (show paT V n m (nI 1).toNatClampNeg = nI tt from et) h_113
          refine x_if_lt C 123 dL_ends_116 (by decide) (fun c_116 => absurd c_116 (nI_pos (by omega))) (fun c_116 => ?_)
          refine x_iconst (v := nI 1) C dL_ends_119 (by decide) ?_
          refine x_goto C 124 dL_ends_120 (by decide) ?_
          refine x_istore_n (i := 2) C dL_ends_124 rfl (by decide) ?_
          refine x_iinc (v := nI (u + 1)) C dL_ends_125 rfl (nI_1 _) ?_
          refine x_goto C 57 dL_ends_128 (by decide) ?_
          refine x_subm (lv' := [(5, .int (nI ((u + 1)))), (4, .int (nI t)), (3, .int (nI r)), (2, .int (nI 1)), (1, .ref o), (0, .ref (a 0))]) ?_ rfl
          exact x_widen (by omega) (by omega) (ihu _ (gJ_pa h _))
        · intro i hi ihi V h
          refine x_iload (i := 6) C dL_ends_71 rfl ?_
          refine x_aload_n (i := 0) C dL_ends_73 rfl rfl ?_
          refine x_callVi C hE (k_X3_devices l D cy a A _ V) (cwV 0 C.2.2.2.2.1 gL_ends_X3_devices rfl rfl rfl (by decide +kernel) ⟨Nat.le_of_ble_eq_true rfl, Nat.le_of_ble_eq_true rfl⟩) 0 (cW_R cy a _ _) rfl rfl rfl rfl (Nat.le_of_ble_eq_true rfl) dL_ends_74 ⟨by show _ ≤ 12000; omega, by show _ ≤ 72000; omega⟩ (fun r_74 u_74 h_74 => ?_)
          obtain ⟨rfl, rfl⟩ := rz_w (gJ_n h).1 h_74
          refine x_icmp_ge C 107 dL_ends_77 (by decide) (fun c_77 => absurd c_77 (nI_ge hi (by omega))) (fun c_77 => ?_)
          refine x_iload_n (i := 2) C dL_ends_80 rfl rfl ?_
          refine x_if_eq C 107 dL_ends_81 (by decide) (fun c_81 => absurd c_81 (by decide)) (fun c_81 => ?_)
          obtain ⟨bb, hbb, eb⟩ := (gJ_d h (show i < 10 by omega)).2.2.1
          refine x_aload_n (i := 0) C dL_ends_84 rfl rfl ?_
          refine x_iload (i := 6) C dL_ends_85 rfl ?_
          refine x_bipush (v := nI 100) C dL_ends_87 (by decide) ?_
          refine x_callSWi (As := [.ref (a 0), .int (nI i), .int (nI 100)]) C hE (k_L_charges l hfl D cy a A _ V h (nI i) (nI 100)) (vx_cwSW 3 C.2.2.2.2.1 gL_ends_L_charges rfl rfl rfl (by decide +kernel) ⟨Nat.le_of_ble_eq_true rfl, Nat.le_of_ble_eq_true rfl⟩) rfl rfl (Nat.le_of_ble_eq_true rfl) dL_ends_89 ⟨by show _ ≤ 12000; omega, by show _ ≤ 72000; omega⟩ (fun r_89 u_89 h_89 => ?_)
          obtain ⟨rfl, rfl⟩ := rn_w (seqx_2 (nDx_at h hi) (show nRx 100 0 100 = none by decide)) (show V (9 + (nI i).toNatClampNeg) 3 = nI bb by rw [nI_clamp (by omega)]; exact eb) h_89
          refine x_if_lt C 99 dL_ends_92 (by decide) (fun c_92 => absurd c_92 (nI_pos (by omega))) (fun c_92 => ?_)
          refine x_iconst (v := nI 1) C dL_ends_95 (by decide) ?_
          refine x_goto C 100 dL_ends_96 (by decide) ?_
          refine x_istore_n (i := 2) C dL_ends_100 rfl (by decide) ?_
          refine x_iinc (v := nI (i + 1)) C dL_ends_101 rfl (nI_1 _) ?_
          refine x_goto C 71 dL_ends_104 (by decide) ?_
          refine x_subm (lv' := [(6, .int (nI ((i + 1)))), (5, .int (nI u)), (4, .int (nI t)), (3, .int (nI r)), (2, .int (nI 1)), (1, .ref o), (0, .ref (a 0))]) ?_ rfl
          exact x_widen (by omega) (by omega) (ihi _ (gJ_charge (by rw [nI_clamp (by omega)]; omega) (show nRx 100 0 100 = none by decide) h))
  · intro i hi ihi V h
    refine x_iload_n (i := 3) C dL_ends_4 rfl rfl ?_
    refine x_aload_n (i := 0) C dL_ends_5 rfl rfl ?_
    refine x_callVi C hE (k_X3_devices l D cy a A _ V) (cwV 0 C.2.2.2.2.1 gL_ends_X3_devices rfl rfl rfl (by decide +kernel) ⟨Nat.le_of_ble_eq_true rfl, Nat.le_of_ble_eq_true rfl⟩) 0 (cW_R cy a _ _) rfl rfl rfl rfl (Nat.le_of_ble_eq_true rfl) dL_ends_6 ⟨by show _ ≤ 12000; omega, by show _ ≤ 72000; omega⟩ (fun r_6 u_6 h_6 => ?_)
    obtain ⟨rfl, rfl⟩ := rz_w (gJ_n h).1 h_6
    refine x_icmp_ge C 39 dL_ends_9 (by decide) (fun c_9 => absurd c_9 (nI_ge hi (by omega))) (fun c_9 => ?_)
    refine x_iload_n (i := 2) C dL_ends_12 rfl rfl ?_
    refine x_if_eq C 39 dL_ends_13 (by decide) (fun c_13 => absurd c_13 (by decide)) (fun c_13 => ?_)
    refine x_aload_n (i := 0) C dL_ends_16 rfl rfl ?_
    refine x_iload_n (i := 3) C dL_ends_17 rfl rfl ?_
    refine x_iconst (v := nI 0) C dL_ends_18 (by decide) ?_
    refine x_bipush (v := nI 23) C dL_ends_19 (by decide) ?_
    refine x_callSWi (As := [.ref (a 0), .int (nI i), .int (nI 0), .int (nI 23)]) C hE (k_L_windows l hfl D cy a A _ V h (nI i) (nI 0) (nI 23)) (vx_cwSW 4 C.2.2.2.2.1 gL_ends_L_windows rfl rfl rfl (by decide +kernel) ⟨Nat.le_of_ble_eq_true rfl, Nat.le_of_ble_eq_true rfl⟩) rfl rfl (Nat.le_of_ble_eq_true rfl) dL_ends_21 ⟨by show _ ≤ 12000; omega, by show _ ≤ 72000; omega⟩ (fun r_21 u_21 h_21 => ?_)
    obtain ⟨rfl, rfl⟩ := rn_w (z' := nI 0) (seqx_2 (nDx_at h hi) (seqx_2 (show nRx 0 0 23 = none by decide) (show nRx 23 0 23 = none by decide))) rfl h_21
    refine x_if_ne C 31 dL_ends_24 (by decide) (fun c_24 => absurd rfl c_24) (fun c_24 => ?_)
    refine x_iconst (v := nI 1) C dL_ends_27 (by decide) ?_
    refine x_goto C 32 dL_ends_28 (by decide) ?_
    refine x_istore_n (i := 2) C dL_ends_32 rfl (by decide) ?_
    refine x_iinc (v := nI (i + 1)) C dL_ends_33 rfl (nI_1 _) ?_
    refine x_goto C 4 dL_ends_36 (by decide) ?_
    refine x_subm (lv' := [(3, .int (nI ((i + 1)))), (2, .int (nI 1)), (1, .ref o), (0, .ref (a 0))]) ?_ rfl
    exact x_widen (by omega) (by omega) (ihi _ (gJ_window (by rw [nI_clamp (by omega)]; omega) _ _ h))
/-! ===== END ends ===== -/
