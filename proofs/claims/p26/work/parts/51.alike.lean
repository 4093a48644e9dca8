/-! ===== BEGIN alike ===== -/
def rmL_alike : Room := { frames := 13, cells := 300, slots := 1800, locals := 397 }
set_option maxHeartbeats 40000000 in
set_option maxRecDepth 100000 in
theorem k_L_alike (l : Launch) (hfl : l.stackTraces = false) (D : va_G) (cy : Nat → ClassId) (a b : Nat → Nat) (o : Nat) (f : Nat → Int32) (A : Nat → Prop) (Y : va_W) (V : XV) {n m : Nat} (h : gJ V n m) (hf : f 0 = nI m) {X : Nat} (hX : X < 2147483648) : Met l yL_alike wsL_alike rmL_alike (va_Pc [.ref (a 0), .ref (b 0), .ref o, .int (nI X)] (xPre D (tyC cy) A (cW cy a (nX cy o f :: cW cy b Y V) V))) (va_Qi (fun (r : Int32) (u : XV) => r = 1 ∧ u = V) (fun u t => xPost D (tyC cy) A (cW cy a (nX cy o f :: cW cy b Y u) u) t) A) 300 1800 A := by
  have hn10 := h.2.1
  have hm6 := h.2.2.2.1
  refine x_met (own := RL) (by decide) rfl rfl (Nat.le_of_ble_eq_true rfl) rfl ?_
  intro p e s m9 below meth c hnm C hE
  refine x_aload_n (i := 0) C dL_alike_0 rfl rfl ?_
  refine x_callVi C hE (k_X3_devices l D cy a A _ V) (cwV 0 C.2.2.2.2.1 gL_alike_X3_devices rfl rfl rfl (by decide +kernel) ⟨Nat.le_of_ble_eq_true rfl, Nat.le_of_ble_eq_true rfl⟩) 0 (cW_R cy a _ _) rfl rfl rfl rfl (Nat.le_of_ble_eq_true rfl) dL_alike_1 ⟨by show _ ≤ 300; omega, by show _ ≤ 1800; omega⟩ (fun r_1 u_1 h_1 => ?_)
  obtain ⟨rfl, rfl⟩ := rz_w (gJ_n h).1 h_1
  refine x_aload_n (i := 1) C dL_alike_4 rfl rfl ?_
  refine x_swp ?_
  refine x_callVi C hE (k_X3_devices l D cy b A _ V) (cwV 0 C.2.2.2.2.1 gL_alike_X3_devices rfl rfl rfl (by decide +kernel) ⟨Nat.le_of_ble_eq_true rfl, Nat.le_of_ble_eq_true rfl⟩) 0 (cW_R cy b _ _) rfl rfl rfl rfl (Nat.le_of_ble_eq_true rfl) dL_alike_5 ⟨by show _ ≤ 300; omega, by show _ ≤ 1800; omega⟩ (fun r_5 u_5 h_5 => ?_)
  obtain ⟨rfl, rfl⟩ := rz_w (gJ_n h).1 h_5
  refine x_swp ?_
  refine x_icmp_ne C 48 dL_alike_8 (by decide) (fun c_8 => absurd rfl c_8) (fun c_8 => ?_)
  refine x_aload_n (i := 0) C dL_alike_11 rfl rfl ?_
  refine x_iload_n (i := 3) C dL_alike_12 rfl rfl ?_
  refine x_bipush (v := nI 8) C dL_alike_13 (by decide) ?_
  refine x_irem C dL_alike_15 (nI_ne0 (by omega) (by omega)) ?_
  refine x_topi (pk_rem (by omega) (by omega) (by omega)) ?_
  refine x_iload_n (i := 3) C dL_alike_16 rfl rfl ?_
  refine x_bipush (v := nI 8) C dL_alike_17 (by decide) ?_
  refine x_idiv C dL_alike_19 (nI_ne0 (by omega) (by omega)) ?_
  refine x_topi (pk_div (by omega) (by omega) (by omega)) ?_
  refine x_bipush (v := nI 8) C dL_alike_20 (by decide) ?_
  refine x_irem C dL_alike_22 (nI_ne0 (by omega) (by omega)) ?_
  refine x_topi (pk_rem (by omega) (by omega) (by omega)) ?_
  refine x_callSWi (As := [.ref (a 0), .int (nI ((X % 8))), .int (nI (((X / 8) % 8)))]) C hE (k_L_size l hfl D cy a A _ V h (nI ((X % 8))) (nI (((X / 8) % 8)))) (vx_cwSW 3 C.2.2.2.2.1 gL_alike_L_size rfl rfl rfl (by decide +kernel) ⟨Nat.le_of_ble_eq_true rfl, Nat.le_of_ble_eq_true rfl⟩) rfl rfl (Nat.le_of_ble_eq_true rfl) dL_alike_23 ⟨by show _ ≤ 300; omega, by show _ ≤ 1800; omega⟩ (fun r_23 u_23 h_23 => ?_)
  obtain ⟨rfl, rfl⟩ := rr_w h_23
  refine x_aload_n (i := 1) C dL_alike_26 rfl rfl ?_
  refine x_iload_n (i := 3) C dL_alike_27 rfl rfl ?_
  refine x_bipush (v := nI 8) C dL_alike_28 (by decide) ?_
  refine x_irem C dL_alike_30 (nI_ne0 (by omega) (by omega)) ?_
  refine x_topi (pk_rem (by omega) (by omega) (by omega)) ?_
  refine x_iload_n (i := 3) C dL_alike_31 rfl rfl ?_
  refine x_bipush (v := nI 8) C dL_alike_32 (by decide) ?_
  refine x_idiv C dL_alike_34 (nI_ne0 (by omega) (by omega)) ?_
  refine x_topi (pk_div (by omega) (by omega) (by omega)) ?_
  refine x_bipush (v := nI 8) C dL_alike_35 (by decide) ?_
  refine x_irem C dL_alike_37 (nI_ne0 (by omega) (by omega)) ?_
  refine x_topi (pk_rem (by omega) (by omega) (by omega)) ?_
  refine x_swp ?_
  refine x_callSWi (As := [.ref (b 0), .int (nI ((X % 8))), .int (nI (((X / 8) % 8)))]) C hE (k_L_size l hfl D cy b A _ V h (nI ((X % 8))) (nI (((X / 8) % 8)))) (vx_cwSW 3 C.2.2.2.2.1 gL_alike_L_size rfl rfl rfl (by decide +kernel) ⟨Nat.le_of_ble_eq_true rfl, Nat.le_of_ble_eq_true rfl⟩) rfl rfl (Nat.le_of_ble_eq_true rfl) dL_alike_38 ⟨by show _ ≤ 300; omega, by show _ ≤ 1800; omega⟩ (fun r_38 u_38 h_38 => ?_)
  obtain ⟨rfl, rfl⟩ := rr_w h_38
  refine x_swp ?_
  refine x_icmp_ne C 48 dL_alike_41 (by decide) (fun c_41 => absurd rfl c_41) (fun c_41 => ?_)
  refine x_iconst (v := nI 1) C dL_alike_44 (by decide) ?_
  refine x_goto C 49 dL_alike_45 (by decide) ?_
  refine x_istore (i := 4) C dL_alike_49 (by decide) ?_
  refine x_iconst (v := nI 0) C dL_alike_51 (by decide) ?_
  refine x_istore (i := 5) C dL_alike_52 (by decide) ?_
  refine x_subm (lv' := [(5, .int (nI 0)), (4, .int (nI 1)), (3, .int (nI X)), (2, .ref o), (1, .ref (b 0)), (0, .ref (a 0))]) ?_ rfl
  refine x_widen (k := ((0 + 4) + 10 * 0)) (n := ((0 + 24) + 60 * 0)) (by omega) (by omega) ?_
  refine x_count (N := n) (fun i => xA p l e rmL_alike s m9 _ below meth c D A 6 ((0 + 4) + 10 * i) ((0 + 24) + 60 * i) _ 54 [(5, .int (nI i)), (4, .int (nI 1)), (3, .int (nI X)), (2, .ref o), (1, .ref (b 0)), (0, .ref (a 0))] [] (cW cy a (nX cy o f :: cW cy b Y V) V)) ?_ ?_ 
  · refine x_iload (i := 5) C dL_alike_54 rfl ?_
    refine x_aload_n (i := 0) C dL_alike_56 rfl rfl ?_
    refine x_callVi C hE (k_X3_devices l D cy a A _ V) (cwV 0 C.2.2.2.2.1 gL_alike_X3_devices rfl rfl rfl (by decide +kernel) ⟨Nat.le_of_ble_eq_true rfl, Nat.le_of_ble_eq_true rfl⟩) 0 (cW_R cy a _ _) rfl rfl rfl rfl (Nat.le_of_ble_eq_true rfl) dL_alike_57 ⟨by show _ ≤ 300; omega, by show _ ≤ 1800; omega⟩ (fun r_57 u_57 h_57 => ?_)
    obtain ⟨rfl, rfl⟩ := rz_w (gJ_n h).1 h_57
    refine x_icmp_ge C 156 dL_alike_60 (by decide) (fun c_60 => ?_) (fun c_60 => absurd (nI_le (Nat.le_refl _) (by omega)) c_60)
    refine x_iconst (v := nI 0) C dL_alike_156 (by decide) ?_
    refine x_istore (i := 5) C dL_alike_157 (by decide) ?_
    refine x_subm (lv' := [(5, .int (nI 0)), (4, .int (nI 1)), (3, .int (nI X)), (2, .ref o), (1, .ref (b 0)), (0, .ref (a 0))]) ?_ rfl
    refine x_widen (k := ((((0 + 4) + 10 * n) + 0) + 8 * 0)) (n := ((((0 + 24) + 60 * n) + 0) + 48 * 0)) (by omega) (by omega) ?_
    refine x_count (N := m) (fun k => xA p l e rmL_alike s m9 _ below meth c D A 6 ((((0 + 4) + 10 * n) + 0) + 8 * k) ((((0 + 24) + 60 * n) + 0) + 48 * k) _ 159 [(5, .int (nI k)), (4, .int (nI 1)), (3, .int (nI X)), (2, .ref o), (1, .ref (b 0)), (0, .ref (a 0))] [] (cW cy a (nX cy o f :: cW cy b Y V) V)) ?_ ?_ 
    · refine x_iload (i := 5) C dL_alike_159 rfl ?_
      refine x_aload_n (i := 2) C dL_alike_161 rfl rfl ?_
      refine x_iconst (v := nI 0) C dL_alike_162 (by decide) ?_
      refine x_nrd C hf dL_alike_163 ?_
      refine x_icmp_ge C 255 dL_alike_164 (by decide) (fun c_164 => ?_) (fun c_164 => absurd (nI_le (Nat.le_refl _) (by omega)) c_164)
      refine x_iload (i := 4) C dL_alike_255 rfl ?_
      exact x_zret (σ := XV) (Wf := fun (u : XV) => cW cy a (nX cy o f :: cW cy b Y u) u) (post := fun (r : Int32) (u : XV) => r = 1 ∧ u = V) (u := V) C dL_alike_257 ⟨by show _ ≤ 300; omega, by show _ ≤ 1800; omega⟩ rfl ⟨by decide, rfl⟩
    · intro k hk ihk 
      have hm0 : 0 < m := by omega
      refine x_iload (i := 5) C dL_alike_159 rfl ?_
      refine x_aload_n (i := 2) C dL_alike_161 rfl rfl ?_
      refine x_iconst (v := nI 0) C dL_alike_162 (by decide) ?_
      refine x_nrd C hf dL_alike_163 ?_
      refine x_icmp_ge C 255 dL_alike_164 (by decide) (fun c_164 => absurd c_164 (nI_ge hk (by omega))) (fun c_164 => ?_)
      refine x_iload (i := 4) C dL_alike_167 rfl ?_
      refine x_if_eq C 255 dL_alike_169 (by decide) (fun c_169 => absurd c_169 (by decide)) (fun c_169 => ?_)
      refine x_aload_n (i := 0) C dL_alike_172 rfl rfl ?_
      refine x_iload (i := 5) C dL_alike_173 rfl ?_
      refine x_callSWi (As := [.ref (a 0), .int (nI k)]) C hE (k_L_active l hfl D cy a A _ V h (nI k)) (vx_cwSW 2 C.2.2.2.2.1 gL_alike_L_active rfl rfl rfl (by decide +kernel) ⟨Nat.le_of_ble_eq_true rfl, Nat.le_of_ble_eq_true rfl⟩) rfl rfl (Nat.le_of_ble_eq_true rfl) dL_alike_175 ⟨by show _ ≤ 300; omega, by show _ ≤ 1800; omega⟩ (fun r_175 u_175 h_175 => ?_)
      obtain ⟨rfl, rfl⟩ := rr_w h_175
      refine x_aload_n (i := 1) C dL_alike_178 rfl rfl ?_
      refine x_iload (i := 5) C dL_alike_179 rfl ?_
      refine x_swp ?_
      refine x_callSWi (As := [.ref (b 0), .int (nI k)]) C hE (k_L_active l hfl D cy b A _ V h (nI k)) (vx_cwSW 2 C.2.2.2.2.1 gL_alike_L_active rfl rfl rfl (by decide +kernel) ⟨Nat.le_of_ble_eq_true rfl, Nat.le_of_ble_eq_true rfl⟩) rfl rfl (Nat.le_of_ble_eq_true rfl) dL_alike_181 ⟨by show _ ≤ 300; omega, by show _ ≤ 1800; omega⟩ (fun r_181 u_181 h_181 => ?_)
      obtain ⟨rfl, rfl⟩ := rr_w h_181
      refine x_swp ?_
      refine x_icmp_ne C 246 dL_alike_184 (by decide) (fun c_184 => absurd rfl c_184) (fun c_184 => ?_)
      refine x_aload_n (i := 0) C dL_alike_187 rfl rfl ?_
      refine x_iload (i := 5) C dL_alike_188 rfl ?_
      refine x_callSWi (As := [.ref (a 0), .int (nI k)]) C hE (k_L_ring l hfl D cy a A _ V h (nI k)) (vx_cwSW 2 C.2.2.2.2.1 gL_alike_L_ring rfl rfl rfl (by decide +kernel) ⟨Nat.le_of_ble_eq_true rfl, Nat.le_of_ble_eq_true rfl⟩) rfl rfl (Nat.le_of_ble_eq_true rfl) dL_alike_190 ⟨by show _ ≤ 300; omega, by show _ ≤ 1800; omega⟩ (fun r_190 u_190 h_190 => ?_)
      obtain ⟨rfl, rfl⟩ := rr_w h_190
      refine x_aload_n (i := 1) C dL_alike_193 rfl rfl ?_
      refine x_iload (i := 5) C dL_alike_194 rfl ?_
      refine x_swp ?_
      refine x_callSWi (As := [.ref (b 0), .int (nI k)]) C hE (k_L_ring l hfl D cy b A _ V h (nI k)) (vx_cwSW 2 C.2.2.2.2.1 gL_alike_L_ring rfl rfl rfl (by decide +kernel) ⟨Nat.le_of_ble_eq_true rfl, Nat.le_of_ble_eq_true rfl⟩) rfl rfl (Nat.le_of_ble_eq_true rfl) dL_alike_196 ⟨by show _ ≤ 300; omega, by show _ ≤ 1800; omega⟩ (fun r_196 u_196 h_196 => ?_)
      obtain ⟨rfl, rfl⟩ := rr_w h_196
      refine x_swp ?_
      refine x_icmp_ne C 246 dL_alike_199 (by decide) (fun c_199 => absurd rfl c_199) (fun c_199 => ?_)
      refine x_aload_n (i := 0) C dL_alike_202 rfl rfl ?_
      refine x_iload (i := 5) C dL_alike_203 rfl ?_
      refine x_callSWi (As := [.ref (a 0), .int (nI k)]) C hE (k_L_counted l hfl D cy a A _ V h (nI k)) (vx_cwSW 2 C.2.2.2.2.1 gL_alike_L_counted rfl rfl rfl (by decide +kernel) ⟨Nat.le_of_ble_eq_true rfl, Nat.le_of_ble_eq_true rfl⟩) rfl rfl (Nat.le_of_ble_eq_true rfl) dL_alike_205 ⟨by show _ ≤ 300; omega, by show _ ≤ 1800; omega⟩ (fun r_205 u_205 h_205 => ?_)
      obtain ⟨rfl, rfl⟩ := rr_w h_205
      refine x_aload_n (i := 1) C dL_alike_208 rfl rfl ?_
      refine x_iload (i := 5) C dL_alike_209 rfl ?_
      refine x_swp ?_
      refine x_callSWi (As := [.ref (b 0), .int (nI k)]) C hE (k_L_counted l hfl D cy b A _ V h (nI k)) (vx_cwSW 2 C.2.2.2.2.1 gL_alike_L_counted rfl rfl rfl (by decide +kernel) ⟨Nat.le_of_ble_eq_true rfl, Nat.le_of_ble_eq_true rfl⟩) rfl rfl (Nat.le_of_ble_eq_true rfl) dL_alike_211 ⟨by show _ ≤ 300; omega, by show _ ≤ 1800; omega⟩ (fun r_211 u_211 h_211 => ?_)
      obtain ⟨rfl, rfl⟩ := rr_w h_211
      refine x_swp ?_
      refine x_icmp_ne C 246 dL_alike_214 (by decide) (fun c_214 => absurd rfl c_214) (fun c_214 => ?_)
      refine x_cut (J := 242) (lv' := [(5, .int (nI k)), (4, .int (nI 1)), (3, .int (nI X)), (2, .ref o), (1, .ref (b 0)), (0, .ref (a 0))]) (st' := []) (ws' := (cW cy a (nX cy o f :: cW cy b Y V) V)) (k := (((((0 + 4) + 10 * n) + 0) + 8 * k) + 8)) (n := (((((0 + 24) + 60 * n) + 0) + 48 * k) + 48)) ?_ (fun j_242 => ?_)
      · refine x_iconst (v := nI 1) C dL_alike_242 (by decide) ?_
        refine x_goto C 247 dL_alike_243 (by decide) ?_
        refine x_istore (i := 4) C dL_alike_247 (by decide) ?_
        refine x_iinc (v := nI (k + 1)) C dL_alike_249 rfl (nI_1 _) ?_
        refine x_goto C 159 dL_alike_252 (by decide) ?_
        refine x_subm (lv' := [(5, .int (nI ((k + 1)))), (4, .int (nI 1)), (3, .int (nI X)), (2, .ref o), (1, .ref (b 0)), (0, .ref (a 0))]) ?_ rfl
        exact x_widen (by omega) (by omega) ihk
      · refine x_iload (i := 5) C dL_alike_217 rfl ?_
        refine x_iload_n (i := 3) C dL_alike_219 rfl rfl ?_
        refine x_aload_n (i := 2) C dL_alike_220 rfl rfl ?_
        refine x_iconst (v := nI 0) C dL_alike_221 (by decide) ?_
        refine x_nrd C hf dL_alike_222 ?_
        refine x_irem C dL_alike_223 (nI_ne0 (by omega) (by omega)) ?_
        refine x_topi (pk_rem (by omega) (by omega) (by omega)) ?_
        refine x_icmp_ne C 242 dL_alike_224 (by decide) (fun c_224 => ?_) (fun c_224 => ?_)
        · refine x_subm (lv' := [(5, .int (nI k)), (4, .int (nI 1)), (3, .int (nI X)), (2, .ref o), (1, .ref (b 0)), (0, .ref (a 0))]) ?_ rfl
          exact x_widen (by omega) (by omega) j_242
        · refine x_aload_n (i := 0) C dL_alike_227 rfl rfl ?_
          refine x_iload (i := 5) C dL_alike_228 rfl ?_
          refine x_callSWi (As := [.ref (a 0), .int (nI k)]) C hE (k_L_eligible l hfl D cy a A _ V h (nI k)) (vx_cwSW 2 C.2.2.2.2.1 gL_alike_L_eligible rfl rfl rfl (by decide +kernel) ⟨Nat.le_of_ble_eq_true rfl, Nat.le_of_ble_eq_true rfl⟩) rfl rfl (Nat.le_of_ble_eq_true rfl) dL_alike_230 ⟨by show _ ≤ 300; omega, by show _ ≤ 1800; omega⟩ (fun r_230 u_230 h_230 => ?_)
          obtain ⟨rfl, rfl⟩ := rr_w h_230
          refine x_aload_n (i := 1) C dL_alike_233 rfl rfl ?_
          refine x_iload (i := 5) C dL_alike_234 rfl ?_
          refine x_swp ?_
          refine x_callSWi (As := [.ref (b 0), .int (nI k)]) C hE (k_L_eligible l hfl D cy b A _ V h (nI k)) (vx_cwSW 2 C.2.2.2.2.1 gL_alike_L_eligible rfl rfl rfl (by decide +kernel) ⟨Nat.le_of_ble_eq_true rfl, Nat.le_of_ble_eq_true rfl⟩) rfl rfl (Nat.le_of_ble_eq_true rfl) dL_alike_236 ⟨by show _ ≤ 300; omega, by show _ ≤ 1800; omega⟩ (fun r_236 u_236 h_236 => ?_)
          obtain ⟨rfl, rfl⟩ := rr_w h_236
          refine x_swp ?_
          refine x_icmp_ne C 246 dL_alike_239 (by decide) (fun c_239 => absurd rfl c_239) (fun c_239 => ?_)
          refine x_subm (lv' := [(5, .int (nI k)), (4, .int (nI 1)), (3, .int (nI X)), (2, .ref o), (1, .ref (b 0)), (0, .ref (a 0))]) ?_ rfl
          exact x_widen (by omega) (by omega) j_242
  · intro i hi ihi 
    refine x_iload (i := 5) C dL_alike_54 rfl ?_
    refine x_aload_n (i := 0) C dL_alike_56 rfl rfl ?_
    refine x_callVi C hE (k_X3_devices l D cy a A _ V) (cwV 0 C.2.2.2.2.1 gL_alike_X3_devices rfl rfl rfl (by decide +kernel) ⟨Nat.le_of_ble_eq_true rfl, Nat.le_of_ble_eq_true rfl⟩) 0 (cW_R cy a _ _) rfl rfl rfl rfl (Nat.le_of_ble_eq_true rfl) dL_alike_57 ⟨by show _ ≤ 300; omega, by show _ ≤ 1800; omega⟩ (fun r_57 u_57 h_57 => ?_)
    obtain ⟨rfl, rfl⟩ := rz_w (gJ_n h).1 h_57
    refine x_icmp_ge C 156 dL_alike_60 (by decide) (fun c_60 => absurd c_60 (nI_ge hi (by omega))) (fun c_60 => ?_)
    refine x_iload (i := 4) C dL_alike_63 rfl ?_
    refine x_if_eq C 156 dL_alike_65 (by decide) (fun c_65 => absurd c_65 (by decide)) (fun c_65 => ?_)
    refine x_aload_n (i := 0) C dL_alike_68 rfl rfl ?_
    refine x_iload (i := 5) C dL_alike_69 rfl ?_
    refine x_callSWi (As := [.ref (a 0), .int (nI i)]) C hE (k_L_state l hfl D cy a A _ V h (nI i)) (vx_cwSW 2 C.2.2.2.2.1 gL_alike_L_state rfl rfl rfl (by decide +kernel) ⟨Nat.le_of_ble_eq_true rfl, Nat.le_of_ble_eq_true rfl⟩) rfl rfl (Nat.le_of_ble_eq_true rfl) dL_alike_71 ⟨by show _ ≤ 300; omega, by show _ ≤ 1800; omega⟩ (fun r_71 u_71 h_71 => ?_)
    obtain ⟨rfl, rfl⟩ := rr_w h_71
    refine x_aload_n (i := 1) C dL_alike_74 rfl rfl ?_
    refine x_iload (i := 5) C dL_alike_75 rfl ?_
    refine x_swp ?_
    refine x_callSWi (As := [.ref (b 0), .int (nI i)]) C hE (k_L_state l hfl D cy b A _ V h (nI i)) (vx_cwSW 2 C.2.2.2.2.1 gL_alike_L_state rfl rfl rfl (by decide +kernel) ⟨Nat.le_of_ble_eq_true rfl, Nat.le_of_ble_eq_true rfl⟩) rfl rfl (Nat.le_of_ble_eq_true rfl) dL_alike_77 ⟨by show _ ≤ 300; omega, by show _ ≤ 1800; omega⟩ (fun r_77 u_77 h_77 => ?_)
    obtain ⟨rfl, rfl⟩ := rr_w h_77
    refine x_swp ?_
    refine x_icmp_ne C 147 dL_alike_80 (by decide) (fun c_80 => absurd rfl c_80) (fun c_80 => ?_)
    refine x_aload_n (i := 0) C dL_alike_83 rfl rfl ?_
    refine x_iload (i := 5) C dL_alike_84 rfl ?_
    refine x_callSWi (As := [.ref (a 0), .int (nI i)]) C hE (k_L_version l hfl D cy a A _ V h (nI i)) (vx_cwSW 2 C.2.2.2.2.1 gL_alike_L_version rfl rfl rfl (by decide +kernel) ⟨Nat.le_of_ble_eq_true rfl, Nat.le_of_ble_eq_true rfl⟩) rfl rfl (Nat.le_of_ble_eq_true rfl) dL_alike_86 ⟨by show _ ≤ 300; omega, by show _ ≤ 1800; omega⟩ (fun r_86 u_86 h_86 => ?_)
    obtain ⟨rfl, rfl⟩ := rr_w h_86
    refine x_aload_n (i := 1) C dL_alike_89 rfl rfl ?_
    refine x_iload (i := 5) C dL_alike_90 rfl ?_
    refine x_swp ?_
    refine x_callSWi (As := [.ref (b 0), .int (nI i)]) C hE (k_L_version l hfl D cy b A _ V h (nI i)) (vx_cwSW 2 C.2.2.2.2.1 gL_alike_L_version rfl rfl rfl (by decide +kernel) ⟨Nat.le_of_ble_eq_true rfl, Nat.le_of_ble_eq_true rfl⟩) rfl rfl (Nat.le_of_ble_eq_true rfl) dL_alike_92 ⟨by show _ ≤ 300; omega, by show _ ≤ 1800; omega⟩ (fun r_92 u_92 h_92 => ?_)
    obtain ⟨rfl, rfl⟩ := rr_w h_92
    refine x_swp ?_
    refine x_icmp_ne C 147 dL_alike_95 (by decide) (fun c_95 => absurd rfl c_95) (fun c_95 => ?_)
    refine x_aload_n (i := 0) C dL_alike_98 rfl rfl ?_
    refine x_iload (i := 5) C dL_alike_99 rfl ?_
    refine x_callSWi (As := [.ref (a 0), .int (nI i)]) C hE (k_L_campaign l hfl D cy a A _ V h (nI i)) (vx_cwSW 2 C.2.2.2.2.1 gL_alike_L_campaign rfl rfl rfl (by decide +kernel) ⟨Nat.le_of_ble_eq_true rfl, Nat.le_of_ble_eq_true rfl⟩) rfl rfl (Nat.le_of_ble_eq_true rfl) dL_alike_101 ⟨by show _ ≤ 300; omega, by show _ ≤ 1800; omega⟩ (fun r_101 u_101 h_101 => ?_)
    obtain ⟨rfl, rfl⟩ := rr_w h_101
    refine x_aload_n (i := 1) C dL_alike_104 rfl rfl ?_
    refine x_iload (i := 5) C dL_alike_105 rfl ?_
    refine x_swp ?_
    refine x_callSWi (As := [.ref (b 0), .int (nI i)]) C hE (k_L_campaign l hfl D cy b A _ V h (nI i)) (vx_cwSW 2 C.2.2.2.2.1 gL_alike_L_campaign rfl rfl rfl (by decide +kernel) ⟨Nat.le_of_ble_eq_true rfl, Nat.le_of_ble_eq_true rfl⟩) rfl rfl (Nat.le_of_ble_eq_true rfl) dL_alike_107 ⟨by show _ ≤ 300; omega, by show _ ≤ 1800; omega⟩ (fun r_107 u_107 h_107 => ?_)
    obtain ⟨rfl, rfl⟩ := rr_w h_107
    refine x_swp ?_
    refine x_icmp_ne C 147 dL_alike_110 (by decide) (fun c_110 => absurd rfl c_110) (fun c_110 => ?_)
    refine x_aload_n (i := 0) C dL_alike_113 rfl rfl ?_
    refine x_iload (i := 5) C dL_alike_114 rfl ?_
    refine x_callSWi (As := [.ref (a 0), .int (nI i)]) C hE (k_L_toGo l hfl D cy a A _ V h (nI i)) (vx_cwSW 2 C.2.2.2.2.1 gL_alike_L_toGo rfl rfl rfl (by decide +kernel) ⟨Nat.le_of_ble_eq_true rfl, Nat.le_of_ble_eq_true rfl⟩) rfl rfl (Nat.le_of_ble_eq_true rfl) dL_alike_116 ⟨by show _ ≤ 300; omega, by show _ ≤ 1800; omega⟩ (fun r_116 u_116 h_116 => ?_)
    obtain ⟨rfl, rfl⟩ := rr_w h_116
    refine x_aload_n (i := 1) C dL_alike_119 rfl rfl ?_
    refine x_iload (i := 5) C dL_alike_120 rfl ?_
    refine x_swp ?_
    refine x_callSWi (As := [.ref (b 0), .int (nI i)]) C hE (k_L_toGo l hfl D cy b A _ V h (nI i)) (vx_cwSW 2 C.2.2.2.2.1 gL_alike_L_toGo rfl rfl rfl (by decide +kernel) ⟨Nat.le_of_ble_eq_true rfl, Nat.le_of_ble_eq_true rfl⟩) rfl rfl (Nat.le_of_ble_eq_true rfl) dL_alike_122 ⟨by show _ ≤ 300; omega, by show _ ≤ 1800; omega⟩ (fun r_122 u_122 h_122 => ?_)
    obtain ⟨rfl, rfl⟩ := rr_w h_122
    refine x_swp ?_
    refine x_icmp_ne C 147 dL_alike_125 (by decide) (fun c_125 => absurd rfl c_125) (fun c_125 => ?_)
    refine x_aload_n (i := 0) C dL_alike_128 rfl rfl ?_
    refine x_iload (i := 5) C dL_alike_129 rfl ?_
    refine x_callSWi (As := [.ref (a 0), .int (nI i)]) C hE (k_L_battery l hfl D cy a A _ V h (nI i)) (vx_cwSW 2 C.2.2.2.2.1 gL_alike_L_battery rfl rfl rfl (by decide +kernel) ⟨Nat.le_of_ble_eq_true rfl, Nat.le_of_ble_eq_true rfl⟩) rfl rfl (Nat.le_of_ble_eq_true rfl) dL_alike_131 ⟨by show _ ≤ 300; omega, by show _ ≤ 1800; omega⟩ (fun r_131 u_131 h_131 => ?_)
    obtain ⟨rfl, rfl⟩ := rr_w h_131
    refine x_aload_n (i := 1) C dL_alike_134 rfl rfl ?_
    refine x_iload (i := 5) C dL_alike_135 rfl ?_
    refine x_swp ?_
    refine x_callSWi (As := [.ref (b 0), .int (nI i)]) C hE (k_L_battery l hfl D cy b A _ V h (nI i)) (vx_cwSW 2 C.2.2.2.2.1 gL_alike_L_battery rfl rfl rfl (by decide +kernel) ⟨Nat.le_of_ble_eq_true rfl, Nat.le_of_ble_eq_true rfl⟩) rfl rfl (Nat.le_of_ble_eq_true rfl) dL_alike_137 ⟨by show _ ≤ 300; omega, by show _ ≤ 1800; omega⟩ (fun r_137 u_137 h_137 => ?_)
    obtain ⟨rfl, rfl⟩ := rr_w h_137
    refine x_swp ?_
    refine x_icmp_ne C 147 dL_alike_140 (by decide) (fun c_140 => absurd rfl c_140) (fun c_140 => ?_)
    refine x_iconst (v := nI 1) C dL_alike_143 (by decide) ?_
    refine x_goto C 148 dL_alike_144 (by decide) ?_
    refine x_istore (i := 4) C dL_alike_148 (by decide) ?_
    refine x_iinc (v := nI (i + 1)) C dL_alike_150 rfl (nI_1 _) ?_
    refine x_goto C 54 dL_alike_153 (by decide) ?_
    refine x_subm (lv' := [(5, .int (nI ((i + 1)))), (4, .int (nI 1)), (3, .int (nI X)), (2, .ref o), (1, .ref (b 0)), (0, .ref (a 0))]) ?_ rfl
    exact x_widen (by omega) (by omega) ihi
/-! ===== END alike ===== -/
