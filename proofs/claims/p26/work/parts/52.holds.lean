/-! ===== BEGIN holds ===== -/
theorem nI_nm1 {c : Nat} (hc : c < 1000) : ¬ nI c = -1 := fun q => by
  have := congrArg Int32.toInt q
  rw [nI_ti hc, ti_m1] at this
  omega
theorem nI_m1 {c : Nat} (hc : c < 1000) : ¬ nI c ≤ -1 := fun q => by
  rw [ti_le, nI_ti hc, ti_m1] at q
  omega
def rmL_holds : Room := { frames := 13, cells := 300, slots := 1800, locals := 397 }
set_option maxHeartbeats 40000000 in
set_option maxRecDepth 100000 in
theorem k_L_holds (l : Launch) (hfl : l.stackTraces = false) (D : va_G) (cy : Nat → ClassId) (a : Nat → Nat) (o : Nat) (f : Nat → Int32) (A : Nat → Prop) (Y : va_W) (V : XV) {n m : Nat} (h : gJ V n m) (hf : f 0 = nI m) {X : Nat} (hX : X < 2147483648) : Met l yL_holds wsL_holds rmL_holds (va_Pc [.ref (a 0), .ref o, .int (nI X)] (xPre D (tyC cy) A (cW cy a (nX cy o f :: Y) V))) (va_Qi (fun (r : Int32) (u : XV) => r = 1 ∧ u = V) (fun u t => xPost D (tyC cy) A (cW cy a (nX cy o f :: Y) u) t) A) 300 1800 A := by
  have hn10 := h.2.1
  have hm6 := h.2.2.2.1
  refine x_met (own := RL) (by decide) rfl rfl (Nat.le_of_ble_eq_true rfl) rfl ?_
  intro p e s m9 below meth c hnm C hE
  refine x_iconst (v := nI 1) C dL_holds_0 (by decide) ?_
  refine x_istore_n (i := 3) C dL_holds_1 rfl (by decide) ?_
  refine x_iconst (v := nI 0) C dL_holds_2 (by decide) ?_
  refine x_istore (i := 4) C dL_holds_3 (by decide) ?_
  refine x_subm (lv' := [(4, .int (nI 0)), (3, .int (nI 1)), (2, .int (nI X)), (1, .ref o), (0, .ref (a 0))]) ?_ rfl
  refine x_widen (k := ((0 + 0) + 7 * 0)) (n := ((0 + 0) + 42 * 0)) (by omega) (by omega) ?_
  refine x_count (N := n) (fun i => xA p l e rmL_holds s m9 _ below meth c D A 11 ((0 + 0) + 7 * i) ((0 + 0) + 42 * i) _ 5 [(4, .int (nI i)), (3, .int (nI 1)), (2, .int (nI X)), (1, .ref o), (0, .ref (a 0))] [] (cW cy a (nX cy o f :: Y) V)) ?_ ?_ 
  · refine x_iload (i := 4) C dL_holds_5 rfl ?_
    refine x_aload_n (i := 0) C dL_holds_7 rfl rfl ?_
    refine x_callVi C hE (k_X3_devices l D cy a A _ V) (cwV 0 C.2.2.2.2.1 gL_holds_X3_devices rfl rfl rfl (by decide +kernel) ⟨Nat.le_of_ble_eq_true rfl, Nat.le_of_ble_eq_true rfl⟩) 0 (cW_R cy a _ _) rfl rfl rfl rfl (Nat.le_of_ble_eq_true rfl) dL_holds_8 ⟨by show _ ≤ 300; omega, by show _ ≤ 1800; omega⟩ (fun r_8 u_8 h_8 => ?_)
    obtain ⟨rfl, rfl⟩ := rz_w (gJ_n h).1 h_8
    refine x_icmp_ge C 157 dL_holds_11 (by decide) (fun c_11 => ?_) (fun c_11 => absurd (nI_le (Nat.le_refl _) (by omega)) c_11)
    refine x_iconst (v := nI 0) C dL_holds_157 (by decide) ?_
    refine x_istore (i := 4) C dL_holds_158 (by decide) ?_
    refine x_iconst (v := nI 0) C dL_holds_160 (by decide) ?_
    refine x_istore (i := 5) C dL_holds_161 (by decide) ?_
    refine x_subm (lv' := [(5, .int (nI 0)), (4, .int (busyI V 0)), (3, .int (nI 1)), (2, .int (nI X)), (1, .ref o), (0, .ref (a 0))]) ?_ rfl
    refine x_widen (k := ((((0 + 0) + 7 * n) + 0) + 1 * 0)) (n := ((((0 + 0) + 42 * n) + 0) + 6 * 0)) (by omega) (by omega) ?_
    refine x_count (N := n) (fun i => xA p l e rmL_holds s m9 _ below meth c D A 11 ((((0 + 0) + 7 * n) + 0) + 1 * i) ((((0 + 0) + 42 * n) + 0) + 6 * i) _ 163 [(5, .int (nI i)), (4, .int (busyI V i)), (3, .int (nI 1)), (2, .int (nI X)), (1, .ref o), (0, .ref (a 0))] [] (cW cy a (nX cy o f :: Y) V)) ?_ ?_ 
    · refine x_iload (i := 5) C dL_holds_163 rfl ?_
      refine x_aload_n (i := 0) C dL_holds_165 rfl rfl ?_
      refine x_callVi C hE (k_X3_devices l D cy a A _ V) (cwV 0 C.2.2.2.2.1 gL_holds_X3_devices rfl rfl rfl (by decide +kernel) ⟨Nat.le_of_ble_eq_true rfl, Nat.le_of_ble_eq_true rfl⟩) 0 (cW_R cy a _ _) rfl rfl rfl rfl (Nat.le_of_ble_eq_true rfl) dL_holds_166 ⟨by show _ ≤ 300; omega, by show _ ≤ 1800; omega⟩ (fun r_166 u_166 h_166 => ?_)
      obtain ⟨rfl, rfl⟩ := rz_w (gJ_n h).1 h_166
      refine x_icmp_ge C 200 dL_holds_169 (by decide) (fun c_169 => ?_) (fun c_169 => absurd (nI_le (Nat.le_refl _) (by omega)) c_169)
      refine x_iconst (v := nI 0) C dL_holds_200 (by decide) ?_
      refine x_istore (i := 5) C dL_holds_201 (by decide) ?_
      refine x_subm (lv' := [(5, .int (nI 0)), (4, .int (busyI V n)), (3, .int (nI 1)), (2, .int (nI X)), (1, .ref o), (0, .ref (a 0))]) ?_ rfl
      refine x_widen (k := ((((((0 + 0) + 7 * n) + 0) + 1 * n) + 0) + 6 * 0)) (n := ((((((0 + 0) + 42 * n) + 0) + 6 * n) + 0) + 36 * 0)) (by omega) (by omega) ?_
      refine x_count (N := m) (fun k => xA p l e rmL_holds s m9 _ below meth c D A 11 ((((((0 + 0) + 7 * n) + 0) + 1 * n) + 0) + 6 * k) ((((((0 + 0) + 42 * n) + 0) + 6 * n) + 0) + 36 * k) _ 203 [(5, .int (nI k)), (4, .int (busyI V n)), (3, .int (nI 1)), (2, .int (nI X)), (1, .ref o), (0, .ref (a 0))] [] (cW cy a (nX cy o f :: Y) V)) ?_ ?_ 
      · refine x_iload (i := 5) C dL_holds_203 rfl ?_
        refine x_aload_n (i := 1) C dL_holds_205 rfl rfl ?_
        refine x_iconst (v := nI 0) C dL_holds_206 (by decide) ?_
        refine x_nrd C hf dL_holds_207 ?_
        refine x_icmp_ge C 313 dL_holds_208 (by decide) (fun c_208 => ?_) (fun c_208 => absurd (nI_le (Nat.le_refl _) (by omega)) c_208)
        refine x_iload_n (i := 2) C dL_holds_313 rfl rfl ?_
        refine x_bipush (v := nI 8) C dL_holds_314 (by decide) ?_
        refine x_irem C dL_holds_316 (nI_ne0 (by omega) (by omega)) ?_
        refine x_topi (pk_rem (by omega) (by omega) (by omega)) ?_
        refine x_istore (i := 5) C dL_holds_317 (by decide) ?_
        refine x_iload_n (i := 2) C dL_holds_319 rfl rfl ?_
        refine x_bipush (v := nI 8) C dL_holds_320 (by decide) ?_
        refine x_idiv C dL_holds_322 (nI_ne0 (by omega) (by omega)) ?_
        refine x_topi (pk_div (by omega) (by omega) (by omega)) ?_
        refine x_bipush (v := nI 8) C dL_holds_323 (by decide) ?_
        refine x_irem C dL_holds_325 (nI_ne0 (by omega) (by omega)) ?_
        refine x_topi (pk_rem (by omega) (by omega) (by omega)) ?_
        refine x_istore (i := 6) C dL_holds_326 (by decide) ?_
        refine x_iload_n (i := 2) C dL_holds_328 rfl rfl ?_
        refine x_bipush (v := nI 64) C dL_holds_329 (by decide) ?_
        refine x_idiv C dL_holds_331 (nI_ne0 (by omega) (by omega)) ?_
        refine x_topi (pk_div (by omega) (by omega) (by omega)) ?_
        refine x_bipush (v := nI 8) C dL_holds_332 (by decide) ?_
        refine x_irem C dL_holds_334 (nI_ne0 (by omega) (by omega)) ?_
        refine x_topi (pk_rem (by omega) (by omega) (by omega)) ?_
        refine x_istore (i := 7) C dL_holds_335 (by decide) ?_
        refine x_aload_n (i := 0) C dL_holds_337 rfl rfl ?_
        refine x_iload (i := 5) C dL_holds_338 rfl ?_
        refine x_iload (i := 6) C dL_holds_340 rfl ?_
        refine x_callSWi (As := [.ref (a 0), .int (nI ((X % 8))), .int (nI (((X / 8) % 8)))]) C hE (k_L_size l hfl D cy a A _ V h (nI ((X % 8))) (nI (((X / 8) % 8)))) (vx_cwSW 3 C.2.2.2.2.1 gL_holds_L_size rfl rfl rfl (by decide +kernel) ⟨Nat.le_of_ble_eq_true rfl, Nat.le_of_ble_eq_true rfl⟩) rfl rfl (Nat.le_of_ble_eq_true rfl) dL_holds_342 ⟨by show _ ≤ 300; omega, by show _ ≤ 1800; omega⟩ (fun r_342 u_342 h_342 => ?_)
        obtain ⟨rfl, rfl⟩ := rn_w (seqx_2 (nVx_at (j := X % 8) (by omega)) (nVx_at (j := X / 8 % 8) (by omega))) rfl h_342
        refine x_istore (i := 8) C dL_holds_345 (by decide) ?_
        refine x_aload_n (i := 0) C dL_holds_347 rfl rfl ?_
        refine x_iload (i := 6) C dL_holds_348 rfl ?_
        refine x_iload (i := 7) C dL_holds_350 rfl ?_
        refine x_callSWi (As := [.ref (a 0), .int (nI (((X / 8) % 8))), .int (nI (((X / 64) % 8)))]) C hE (k_L_size l hfl D cy a A _ V h (nI (((X / 8) % 8))) (nI (((X / 64) % 8)))) (vx_cwSW 3 C.2.2.2.2.1 gL_holds_L_size rfl rfl rfl (by decide +kernel) ⟨Nat.le_of_ble_eq_true rfl, Nat.le_of_ble_eq_true rfl⟩) rfl rfl (Nat.le_of_ble_eq_true rfl) dL_holds_352 ⟨by show _ ≤ 300; omega, by show _ ≤ 1800; omega⟩ (fun r_352 u_352 h_352 => ?_)
        obtain ⟨rfl, rfl⟩ := rn_w (seqx_2 (nVx_at (j := X / 8 % 8) (by omega)) (nVx_at (j := X / 64 % 8) (by omega))) rfl h_352
        refine x_istore (i := 9) C dL_holds_355 (by decide) ?_
        refine x_aload_n (i := 0) C dL_holds_357 rfl rfl ?_
        refine x_iload (i := 5) C dL_holds_358 rfl ?_
        refine x_iload (i := 7) C dL_holds_360 rfl ?_
        refine x_callSWi (As := [.ref (a 0), .int (nI ((X % 8))), .int (nI (((X / 64) % 8)))]) C hE (k_L_size l hfl D cy a A _ V h (nI ((X % 8))) (nI (((X / 64) % 8)))) (vx_cwSW 3 C.2.2.2.2.1 gL_holds_L_size rfl rfl rfl (by decide +kernel) ⟨Nat.le_of_ble_eq_true rfl, Nat.le_of_ble_eq_true rfl⟩) rfl rfl (Nat.le_of_ble_eq_true rfl) dL_holds_362 ⟨by show _ ≤ 300; omega, by show _ ≤ 1800; omega⟩ (fun r_362 u_362 h_362 => ?_)
        obtain ⟨rfl, rfl⟩ := rn_w (seqx_2 (nVx_at (j := X % 8) (by omega)) (nVx_at (j := X / 64 % 8) (by omega))) rfl h_362
        refine x_istore (i := 10) C dL_holds_365 (by decide) ?_
        refine x_iload_n (i := 3) C dL_holds_367 rfl rfl ?_
        refine x_if_eq C 424 dL_holds_368 (by decide) (fun c_368 => absurd c_368 (by decide)) (fun c_368 => ?_)
        refine x_aload_n (i := 0) C dL_holds_371 rfl rfl ?_
        refine x_iload (i := 5) C dL_holds_372 rfl ?_
        refine x_iload (i := 5) C dL_holds_374 rfl ?_
        refine x_callSWi (As := [.ref (a 0), .int (nI ((X % 8))), .int (nI ((X % 8)))]) C hE (k_L_size l hfl D cy a A _ V h (nI ((X % 8))) (nI ((X % 8)))) (vx_cwSW 3 C.2.2.2.2.1 gL_holds_L_size rfl rfl rfl (by decide +kernel) ⟨Nat.le_of_ble_eq_true rfl, Nat.le_of_ble_eq_true rfl⟩) rfl rfl (Nat.le_of_ble_eq_true rfl) dL_holds_376 ⟨by show _ ≤ 300; omega, by show _ ≤ 1800; omega⟩ (fun r_376 u_376 h_376 => ?_)
        obtain ⟨rfl, rfl⟩ := rn_w (seqx_2 (nVx_at (j := X % 8) (by omega)) (nVx_at (j := X % 8) (by omega))) (show lbI V (nI (X % 8)) (nI (X % 8)) = nI 0 from if_pos rfl) h_376
        refine x_if_ne C 424 dL_holds_379 (by decide) (fun c_379 => absurd rfl c_379) (fun c_379 => ?_)
        refine x_cut (J := 407) (lv' := [(10, .int (lbI V (nI (X % 8)) (nI (X / 64 % 8)))), (9, .int (lbI V (nI (X / 8 % 8)) (nI (X / 64 % 8)))), (8, .int (lbI V (nI (X % 8)) (nI (X / 8 % 8)))), (7, .int (nI (((X / 64) % 8)))), (6, .int (nI (((X / 8) % 8)))), (5, .int (nI ((X % 8)))), (4, .int (busyI V n)), (3, .int (nI 1)), (2, .int (nI X)), (1, .ref o), (0, .ref (a 0))]) (st' := []) (ws' := (cW cy a (nX cy o f :: Y) V)) (k := (((((((0 + 0) + 7 * n) + 0) + 1 * n) + 0) + 6 * m) + 8)) (n := (((((((0 + 0) + 42 * n) + 0) + 6 * n) + 0) + 36 * m) + 48)) ?_ (fun j_407 => ?_)
        · refine x_aload_n (i := 0) C dL_holds_407 rfl rfl ?_
          refine x_iload (i := 5) C dL_holds_408 rfl ?_
          refine x_iload (i := 7) C dL_holds_410 rfl ?_
          refine x_callSWi (As := [.ref (a 0), .int (nI ((X % 8))), .int (nI (((X / 64) % 8)))]) C hE (k_L_byWays l hfl D cy a A _ V h (nI ((X % 8))) (nI (((X / 64) % 8)))) (vx_cwSW 3 C.2.2.2.2.1 gL_holds_L_byWays rfl rfl rfl (by decide +kernel) ⟨Nat.le_of_ble_eq_true rfl, Nat.le_of_ble_eq_true rfl⟩) rfl rfl (Nat.le_of_ble_eq_true rfl) dL_holds_412 ⟨by show _ ≤ 300; omega, by show _ ≤ 1800; omega⟩ (fun r_412 u_412 h_412 => ?_)
          obtain ⟨rfl, rfl⟩ := rn_w (seqx_2 (nVx_at (j := X % 8) (by omega)) (nVx_at (j := X / 64 % 8) (by omega))) rfl h_412
          refine x_iload (i := 10) C dL_holds_415 rfl ?_
          refine x_icmp_ne C 424 dL_holds_417 (by decide) (fun c_417 => absurd (aw_lb h.2.2.2.2.1.1 h.2.2.2.2.1.2.1 h.2.2.2.2.1.2.2 (vp_in_nI (n := X % 8) (N := 8) (by omega) (by decide)) (vp_in_nI (n := X / 64 % 8) (N := 8) (by omega) (by decide))) c_417) (fun c_417 => ?_)
          refine x_iconst (v := nI 1) C dL_holds_420 (by decide) ?_
          refine x_goto C 425 dL_holds_421 (by decide) ?_
          exact x_zret (σ := XV) (Wf := fun (u : XV) => cW cy a (nX cy o f :: Y) u) (post := fun (r : Int32) (u : XV) => r = 1 ∧ u = V) (u := V) C dL_holds_425 ⟨by show _ ≤ 300; omega, by show _ ≤ 1800; omega⟩ rfl ⟨by decide, rfl⟩
        · refine x_iload (i := 8) C dL_holds_382 rfl ?_
          refine x_if_lt C 407 dL_holds_384 (by decide) (fun c_384 => ?_) (fun c_384 => ?_)
          · refine x_subm (lv' := [(10, .int (lbI V (nI (X % 8)) (nI (X / 64 % 8)))), (9, .int (lbI V (nI (X / 8 % 8)) (nI (X / 64 % 8)))), (8, .int (lbI V (nI (X % 8)) (nI (X / 8 % 8)))), (7, .int (nI (((X / 64) % 8)))), (6, .int (nI (((X / 8) % 8)))), (5, .int (nI ((X % 8)))), (4, .int (busyI V n)), (3, .int (nI 1)), (2, .int (nI X)), (1, .ref o), (0, .ref (a 0))]) ?_ rfl
            exact x_widen (by omega) (by omega) j_407
          · refine x_iload (i := 9) C dL_holds_387 rfl ?_
            refine x_if_lt C 407 dL_holds_389 (by decide) (fun c_389 => ?_) (fun c_389 => ?_)
            · refine x_subm (lv' := [(10, .int (lbI V (nI (X % 8)) (nI (X / 64 % 8)))), (9, .int (lbI V (nI (X / 8 % 8)) (nI (X / 64 % 8)))), (8, .int (lbI V (nI (X % 8)) (nI (X / 8 % 8)))), (7, .int (nI (((X / 64) % 8)))), (6, .int (nI (((X / 8) % 8)))), (5, .int (nI ((X % 8)))), (4, .int (busyI V n)), (3, .int (nI 1)), (2, .int (nI X)), (1, .ref o), (0, .ref (a 0))]) ?_ rfl
              exact x_widen (by omega) (by omega) j_407
            · have hone : 0 ≤ (lbI V (nI (X % 8)) (nI (X / 8 % 8))).toInt := by
                have q := c_384
                rw [ti_lt, ti_0] at q
                exact Int.not_lt.mp q
              have htwo : 0 ≤ (lbI V (nI (X / 8 % 8)) (nI (X / 64 % 8))).toInt := by
                have q := c_389
                rw [ti_lt, ti_0] at q
                exact Int.not_lt.mp q
              have htri := tri_T h.2.2.2.2.1 (vp_in_nI (n := X % 8) (N := 8) (by omega) (by decide)) (vp_in_nI (n := X / 8 % 8) (N := 8) (by omega) (by decide)) (vp_in_nI (n := X / 64 % 8) (N := 8) (by omega) (by decide)) hone htwo
              refine x_iload (i := 10) C dL_holds_392 rfl ?_
              refine x_if_lt C 424 dL_holds_394 (by decide) (fun c_394 => absurd c_394 (fun q => by rw [ti_lt, ti_0] at q; exact absurd htri.1 (Int.not_le.mpr q))) (fun c_394 => ?_)
              refine x_iload (i := 10) C dL_holds_397 rfl ?_
              refine x_iload (i := 8) C dL_holds_399 rfl ?_
              refine x_iload (i := 9) C dL_holds_401 rfl ?_
              refine x_iadd C dL_holds_403 ?_
              refine x_icmp_gt C 424 dL_holds_404 (by decide) (fun c_404 => absurd c_404 (fun q => by rw [ti_lt] at q; exact absurd htri.2 (Int.not_le.mpr q))) (fun c_404 => ?_)
              refine x_subm (lv' := [(10, .int (lbI V (nI (X % 8)) (nI (X / 64 % 8)))), (9, .int (lbI V (nI (X / 8 % 8)) (nI (X / 64 % 8)))), (8, .int (lbI V (nI (X % 8)) (nI (X / 8 % 8)))), (7, .int (nI (((X / 64) % 8)))), (6, .int (nI (((X / 8) % 8)))), (5, .int (nI ((X % 8)))), (4, .int (busyI V n)), (3, .int (nI 1)), (2, .int (nI X)), (1, .ref o), (0, .ref (a 0))]) ?_ rfl
              exact x_widen (by omega) (by omega) j_407
      · intro k hk ihk 
        obtain ⟨c0, c1, c8, ⟨z9, hz9, e9⟩, r9, hr9, e10⟩ := gJ_c h (show k < 6 by omega)
        have hcn := cnt_le (V (19 + k) 12) 10
        have hel := el_rng V (19 + k) hn10
        refine x_iload (i := 5) C dL_holds_203 rfl ?_
        refine x_aload_n (i := 1) C dL_holds_205 rfl rfl ?_
        refine x_iconst (v := nI 0) C dL_holds_206 (by decide) ?_
        refine x_nrd C hf dL_holds_207 ?_
        refine x_icmp_ge C 313 dL_holds_208 (by decide) (fun c_208 => absurd c_208 (nI_ge hk (by omega))) (fun c_208 => ?_)
        refine x_iload_n (i := 3) C dL_holds_211 rfl rfl ?_
        refine x_if_eq C 313 dL_holds_212 (by decide) (fun c_212 => absurd c_212 (by decide)) (fun c_212 => ?_)
        refine x_aload_n (i := 0) C dL_holds_215 rfl rfl ?_
        refine x_iload (i := 5) C dL_holds_216 rfl ?_
        refine x_callSWi (As := [.ref (a 0), .int (nI k)]) C hE (k_L_eligible l hfl D cy a A _ V h (nI k)) (vx_cwSW 2 C.2.2.2.2.1 gL_holds_L_eligible rfl rfl rfl (by decide +kernel) ⟨Nat.le_of_ble_eq_true rfl, Nat.le_of_ble_eq_true rfl⟩) rfl rfl (Nat.le_of_ble_eq_true rfl) dL_holds_218 ⟨by show _ ≤ 300; omega, by show _ ≤ 1800; omega⟩ (fun r_218 u_218 h_218 => ?_)
        obtain ⟨rfl, rfl⟩ := rn_w (nCx_at h hk) (show elI V (19 + (nI k).toNatClampNeg) n = elI V (19 + k) n by rw [nI_clamp (by omega)]) h_218
        refine x_istore (i := 6) C dL_holds_221 (by decide) ?_
        refine x_iload (i := 6) C dL_holds_223 rfl ?_
        refine x_if_lt C 305 dL_holds_225 (by decide) (fun c_225 => absurd c_225 (fun q => by rw [ti_lt, ti_0] at q; omega)) (fun c_225 => ?_)
        refine x_iload (i := 6) C dL_holds_228 rfl ?_
        refine x_iconst (v := nI 1) C dL_holds_230 (by decide) ?_
        refine x_aload_n (i := 0) C dL_holds_231 rfl rfl ?_
        refine x_callVi C hE (k_X3_devices l D cy a A _ V) (cwV 0 C.2.2.2.2.1 gL_holds_X3_devices rfl rfl rfl (by decide +kernel) ⟨Nat.le_of_ble_eq_true rfl, Nat.le_of_ble_eq_true rfl⟩) 0 (cW_R cy a _ _) rfl rfl rfl rfl (Nat.le_of_ble_eq_true rfl) dL_holds_232 ⟨by show _ ≤ 300; omega, by show _ ≤ 1800; omega⟩ (fun r_232 u_232 h_232 => ?_)
        obtain ⟨rfl, rfl⟩ := rz_w (gJ_n h).1 h_232
        refine x_ishl C dL_holds_235 ?_
        refine x_icmp_ge C 305 dL_holds_236 (by decide) (fun c_236 => absurd c_236 (fun q => absurd (show ((1 : Int32) <<< (nI n &&& 31)).toInt ≤ _ from (ti_le _ _).mp q) (by rw [shl_ti n hn10]; exact Int.not_le.mpr hel.2))) (fun c_236 => ?_)
        refine x_iload (i := 6) C dL_holds_239 rfl ?_
        refine x_iload (i := 4) C dL_holds_241 rfl ?_
        refine x_iand C dL_holds_243 ?_
        refine x_if_ne C 305 dL_holds_244 (by decide) (fun c_244 => absurd (el_busy V (19 + k) (by omega)) c_244) (fun c_244 => ?_)
        refine x_cut (J := 262) (lv' := [(6, .int (elI V (19 + k) n)), (5, .int (nI k)), (4, .int (busyI V n)), (3, .int (nI 1)), (2, .int (nI X)), (1, .ref o), (0, .ref (a 0))]) (st' := []) (ws' := (cW cy a (nX cy o f :: Y) V)) (k := (((((((0 + 0) + 7 * n) + 0) + 1 * n) + 0) + 6 * k) + 2)) (n := (((((((0 + 0) + 42 * n) + 0) + 6 * n) + 0) + 36 * k) + 12)) ?_ (fun j_262 => ?_)
        · refine x_aload_n (i := 0) C dL_holds_262 rfl rfl ?_
          refine x_iload (i := 5) C dL_holds_263 rfl ?_
          refine x_callSWi (As := [.ref (a 0), .int (nI k)]) C hE (k_L_ring l hfl D cy a A _ V h (nI k)) (vx_cwSW 2 C.2.2.2.2.1 gL_holds_L_ring rfl rfl rfl (by decide +kernel) ⟨Nat.le_of_ble_eq_true rfl, Nat.le_of_ble_eq_true rfl⟩) rfl rfl (Nat.le_of_ble_eq_true rfl) dL_holds_265 ⟨by show _ ≤ 300; omega, by show _ ≤ 1800; omega⟩ (fun r_265 u_265 h_265 => ?_)
          obtain ⟨rfl, rfl⟩ := rn_w (nCx_at h hk) (show V (19 + (nI k).toNatClampNeg) 9 = nI z9 by rw [nI_clamp (by omega)]; exact e9) h_265
          refine x_if_lt C 305 dL_holds_268 (by decide) (fun c_268 => absurd c_268 (nI_pos (by omega))) (fun c_268 => ?_)
          refine x_aload_n (i := 0) C dL_holds_271 rfl rfl ?_
          refine x_iload (i := 5) C dL_holds_272 rfl ?_
          refine x_callSWi (As := [.ref (a 0), .int (nI k)]) C hE (k_L_ring l hfl D cy a A _ V h (nI k)) (vx_cwSW 2 C.2.2.2.2.1 gL_holds_L_ring rfl rfl rfl (by decide +kernel) ⟨Nat.le_of_ble_eq_true rfl, Nat.le_of_ble_eq_true rfl⟩) rfl rfl (Nat.le_of_ble_eq_true rfl) dL_holds_274 ⟨by show _ ≤ 300; omega, by show _ ≤ 1800; omega⟩ (fun r_274 u_274 h_274 => ?_)
          obtain ⟨rfl, rfl⟩ := rn_w (nCx_at h hk) (show V (19 + (nI k).toNatClampNeg) 9 = nI z9 by rw [nI_clamp (by omega)]; exact e9) h_274
          refine x_iconst (v := nI 2) C dL_holds_277 (by decide) ?_
          refine x_icmp_gt C 305 dL_holds_278 (by decide) (fun c_278 => absurd c_278 (nI_nlt (by omega) (by omega))) (fun c_278 => ?_)
          refine x_aload_n (i := 0) C dL_holds_281 rfl rfl ?_
          refine x_iload (i := 5) C dL_holds_282 rfl ?_
          refine x_callSWi (As := [.ref (a 0), .int (nI k)]) C hE (k_L_counted l hfl D cy a A _ V h (nI k)) (vx_cwSW 2 C.2.2.2.2.1 gL_holds_L_counted rfl rfl rfl (by decide +kernel) ⟨Nat.le_of_ble_eq_true rfl, Nat.le_of_ble_eq_true rfl⟩) rfl rfl (Nat.le_of_ble_eq_true rfl) dL_holds_284 ⟨by show _ ≤ 300; omega, by show _ ≤ 1800; omega⟩ (fun r_284 u_284 h_284 => ?_)
          obtain ⟨rfl, rfl⟩ := rn_w (nCx_at h hk) (show V (19 + (nI k).toNatClampNeg) 10 = nI r9 by rw [nI_clamp (by omega)]; exact e10) h_284
          refine x_if_lt C 305 dL_holds_287 (by decide) (fun c_287 => absurd c_287 (nI_pos (by omega))) (fun c_287 => ?_)
          refine x_aload_n (i := 0) C dL_holds_290 rfl rfl ?_
          refine x_iload (i := 5) C dL_holds_291 rfl ?_
          refine x_callSWi (As := [.ref (a 0), .int (nI k)]) C hE (k_L_counted l hfl D cy a A _ V h (nI k)) (vx_cwSW 2 C.2.2.2.2.1 gL_holds_L_counted rfl rfl rfl (by decide +kernel) ⟨Nat.le_of_ble_eq_true rfl, Nat.le_of_ble_eq_true rfl⟩) rfl rfl (Nat.le_of_ble_eq_true rfl) dL_holds_293 ⟨by show _ ≤ 300; omega, by show _ ≤ 1800; omega⟩ (fun r_293 u_293 h_293 => ?_)
          obtain ⟨rfl, rfl⟩ := rn_w (nCx_at h hk) (show V (19 + (nI k).toNatClampNeg) 10 = nI r9 by rw [nI_clamp (by omega)]; exact e10) h_293
          refine x_bipush (v := nI 10) C dL_holds_296 (by decide) ?_
          refine x_icmp_gt C 305 dL_holds_298 (by decide) (fun c_298 => absurd c_298 (nI_nlt (by omega) (by omega))) (fun c_298 => ?_)
          refine x_iconst (v := nI 1) C dL_holds_301 (by decide) ?_
          refine x_goto C 306 dL_holds_302 (by decide) ?_
          refine x_istore_n (i := 3) C dL_holds_306 rfl (by decide) ?_
          refine x_iinc (v := nI (k + 1)) C dL_holds_307 rfl (nI_1 _) ?_
          refine x_goto C 203 dL_holds_310 (by decide) ?_
          refine x_subm (lv' := [(5, .int (nI ((k + 1)))), (4, .int (busyI V n)), (3, .int (nI 1)), (2, .int (nI X)), (1, .ref o), (0, .ref (a 0))]) ?_ rfl
          exact x_widen (by omega) (by omega) ihk
        · refine x_iload (i := 6) C dL_holds_247 rfl ?_
          refine x_if_eq C 262 dL_holds_249 (by decide) (fun c_249 => ?_) (fun c_249 => ?_)
          · refine x_subm (lv' := [(6, .int (elI V (19 + k) n)), (5, .int (nI k)), (4, .int (busyI V n)), (3, .int (nI 1)), (2, .int (nI X)), (1, .ref o), (0, .ref (a 0))]) ?_ rfl
            exact x_widen (by omega) (by omega) j_262
          · have ha1 : V (19 + k) 8 = 1 := c8.resolve_left (fun q => c_249 (el_off V (19 + k) q n))
            refine x_aload_n (i := 0) C dL_holds_252 rfl rfl ?_
            refine x_iload (i := 5) C dL_holds_253 rfl ?_
            refine x_callSWi (As := [.ref (a 0), .int (nI k)]) C hE (k_L_active l hfl D cy a A _ V h (nI k)) (vx_cwSW 2 C.2.2.2.2.1 gL_holds_L_active rfl rfl rfl (by decide +kernel) ⟨Nat.le_of_ble_eq_true rfl, Nat.le_of_ble_eq_true rfl⟩) rfl rfl (Nat.le_of_ble_eq_true rfl) dL_holds_255 ⟨by show _ ≤ 300; omega, by show _ ≤ 1800; omega⟩ (fun r_255 u_255 h_255 => ?_)
            obtain ⟨rfl, rfl⟩ := rn_w (nCx_at h hk) (show V (19 + (nI k).toNatClampNeg) 8 = nI 1 by rw [nI_clamp (by omega)]; exact ha1) h_255
            refine x_iconst (v := nI 1) C dL_holds_258 (by decide) ?_
            refine x_icmp_ne C 305 dL_holds_259 (by decide) (fun c_259 => absurd rfl c_259) (fun c_259 => ?_)
            refine x_subm (lv' := [(6, .int (elI V (19 + k) n)), (5, .int (nI k)), (4, .int (busyI V n)), (3, .int (nI 1)), (2, .int (nI X)), (1, .ref o), (0, .ref (a 0))]) ?_ rfl
            exact x_widen (by omega) (by omega) j_262
    · intro i hi ihi 
      refine x_iload (i := 5) C dL_holds_163 rfl ?_
      refine x_aload_n (i := 0) C dL_holds_165 rfl rfl ?_
      refine x_callVi C hE (k_X3_devices l D cy a A _ V) (cwV 0 C.2.2.2.2.1 gL_holds_X3_devices rfl rfl rfl (by decide +kernel) ⟨Nat.le_of_ble_eq_true rfl, Nat.le_of_ble_eq_true rfl⟩) 0 (cW_R cy a _ _) rfl rfl rfl rfl (Nat.le_of_ble_eq_true rfl) dL_holds_166 ⟨by show _ ≤ 300; omega, by show _ ≤ 1800; omega⟩ (fun r_166 u_166 h_166 => ?_)
      obtain ⟨rfl, rfl⟩ := rz_w (gJ_n h).1 h_166
      refine x_icmp_ge C 200 dL_holds_169 (by decide) (fun c_169 => absurd c_169 (nI_ge hi (by omega))) (fun c_169 => ?_)
      by_cases hs : V (9 + i) 6 = 0
      · refine x_iload (i := 4) C dL_holds_172 rfl ?_
        refine x_aload_n (i := 0) C dL_holds_174 rfl rfl ?_
        refine x_iload (i := 5) C dL_holds_175 rfl ?_
        refine x_callSWi (As := [.ref (a 0), .int (nI i)]) C hE (k_L_state l hfl D cy a A _ V h (nI i)) (vx_cwSW 2 C.2.2.2.2.1 gL_holds_L_state rfl rfl rfl (by decide +kernel) ⟨Nat.le_of_ble_eq_true rfl, Nat.le_of_ble_eq_true rfl⟩) rfl rfl (Nat.le_of_ble_eq_true rfl) dL_holds_177 ⟨by show _ ≤ 300; omega, by show _ ≤ 1800; omega⟩ (fun r_177 u_177 h_177 => ?_)
        obtain ⟨rfl, rfl⟩ := rn_w (nDx_at h hi) (show V (9 + (nI i).toNatClampNeg) 6 = nI 0 by rw [nI_clamp (by omega)]; exact hs) h_177
        refine x_if_le C 190 dL_holds_180 (by decide) (fun c_180 => ?_) (fun c_180 => absurd (by decide) c_180)
        refine x_iconst (v := nI 0) C dL_holds_190 (by decide) ?_
        refine x_ior C dL_holds_191 ?_
        refine x_topi (y := busyI V (i + 1)) (show busyI V i ||| nI 0 = busyI V i ||| (if V (9 + i) 6 = 0 then (0 : Int32) else ((1 : Int32) <<< (nI i &&& 31))) by rw [if_pos hs]; rfl) ?_
        refine x_istore (i := 4) C dL_holds_192 (by decide) ?_
        refine x_iinc (v := nI (i + 1)) C dL_holds_194 rfl (nI_1 _) ?_
        refine x_goto C 163 dL_holds_197 (by decide) ?_
        refine x_subm (lv' := [(5, .int (nI ((i + 1)))), (4, .int (busyI V (i + 1))), (3, .int (nI 1)), (2, .int (nI X)), (1, .ref o), (0, .ref (a 0))]) ?_ rfl
        exact x_widen (by omega) (by omega) ihi
      · have hp : ¬ V (9 + i) 6 ≤ 0 := by
          rcases (gJ_d h (show i < 10 by omega)).2.2.2.2 with ⟨e6, _⟩ | ⟨_, _, _, _, _, ⟨e6, _⟩ | ⟨e6, _⟩⟩
          · exact absurd e6 hs
          · rw [e6]; decide
          · rw [e6]; decide
        refine x_iload (i := 4) C dL_holds_172 rfl ?_
        refine x_aload_n (i := 0) C dL_holds_174 rfl rfl ?_
        refine x_iload (i := 5) C dL_holds_175 rfl ?_
        refine x_callSWi (As := [.ref (a 0), .int (nI i)]) C hE (k_L_state l hfl D cy a A _ V h (nI i)) (vx_cwSW 2 C.2.2.2.2.1 gL_holds_L_state rfl rfl rfl (by decide +kernel) ⟨Nat.le_of_ble_eq_true rfl, Nat.le_of_ble_eq_true rfl⟩) rfl rfl (Nat.le_of_ble_eq_true rfl) dL_holds_177 ⟨by show _ ≤ 300; omega, by show _ ≤ 1800; omega⟩ (fun r_177 u_177 h_177 => ?_)
        obtain ⟨rfl, rfl⟩ := rn_w (nDx_at h hi) (show V (9 + (nI i).toNatClampNeg) 6 = V (9 + i) 6 by rw [nI_clamp (by omega)]) h_177
        refine x_if_le C 190 dL_holds_180 (by decide) (fun c_180 => absurd c_180 hp) (fun c_180 => ?_)
        refine x_iconst (v := nI 1) C dL_holds_183 (by decide) ?_
        refine x_iload (i := 5) C dL_holds_184 rfl ?_
        refine x_ishl C dL_holds_186 ?_
        refine x_goto C 191 dL_holds_187 (by decide) ?_
        refine x_ior C dL_holds_191 ?_
        refine x_topi (y := busyI V (i + 1)) (show busyI V i ||| (nI 1 <<< (nI i &&& 31)) = busyI V i ||| (if V (9 + i) 6 = 0 then (0 : Int32) else ((1 : Int32) <<< (nI i &&& 31))) by rw [if_neg hs]; rfl) ?_
        refine x_istore (i := 4) C dL_holds_192 (by decide) ?_
        refine x_iinc (v := nI (i + 1)) C dL_holds_194 rfl (nI_1 _) ?_
        refine x_goto C 163 dL_holds_197 (by decide) ?_
        refine x_subm (lv' := [(5, .int (nI ((i + 1)))), (4, .int (busyI V (i + 1))), (3, .int (nI 1)), (2, .int (nI X)), (1, .ref o), (0, .ref (a 0))]) ?_ rfl
        exact x_widen (by omega) (by omega) ihi
  · intro i hi ihi 
    obtain ⟨bb, hbb, eb⟩ := (gJ_d h (show i < 10 by omega)).2.2.1
    obtain ⟨vv, hvv, ev⟩ := vp_in_of (gJ_d h (show i < 10 by omega)).2.1 (by omega)
    refine x_iload (i := 4) C dL_holds_5 rfl ?_
    refine x_aload_n (i := 0) C dL_holds_7 rfl rfl ?_
    refine x_callVi C hE (k_X3_devices l D cy a A _ V) (cwV 0 C.2.2.2.2.1 gL_holds_X3_devices rfl rfl rfl (by decide +kernel) ⟨Nat.le_of_ble_eq_true rfl, Nat.le_of_ble_eq_true rfl⟩) 0 (cW_R cy a _ _) rfl rfl rfl rfl (Nat.le_of_ble_eq_true rfl) dL_holds_8 ⟨by show _ ≤ 300; omega, by show _ ≤ 1800; omega⟩ (fun r_8 u_8 h_8 => ?_)
    obtain ⟨rfl, rfl⟩ := rz_w (gJ_n h).1 h_8
    refine x_icmp_ge C 157 dL_holds_11 (by decide) (fun c_11 => absurd c_11 (nI_ge hi (by omega))) (fun c_11 => ?_)
    refine x_iload_n (i := 3) C dL_holds_14 rfl rfl ?_
    refine x_if_eq C 157 dL_holds_15 (by decide) (fun c_15 => absurd c_15 (by decide)) (fun c_15 => ?_)
    rcases (gJ_d h (show i < 10 by omega)).2.2.2.2 with ⟨e6, e7, e8⟩ | ⟨c9, hc9, e7, _, _, ⟨e6, e8⟩ | ⟨e6, e8⟩⟩
    · refine x_aload_n (i := 0) C dL_holds_18 rfl rfl ?_
      refine x_iload (i := 4) C dL_holds_19 rfl ?_
      refine x_callSWi (As := [.ref (a 0), .int (nI i)]) C hE (k_L_state l hfl D cy a A _ V h (nI i)) (vx_cwSW 2 C.2.2.2.2.1 gL_holds_L_state rfl rfl rfl (by decide +kernel) ⟨Nat.le_of_ble_eq_true rfl, Nat.le_of_ble_eq_true rfl⟩) rfl rfl (Nat.le_of_ble_eq_true rfl) dL_holds_21 ⟨by show _ ≤ 300; omega, by show _ ≤ 1800; omega⟩ (fun r_21 u_21 h_21 => ?_)
      obtain ⟨rfl, rfl⟩ := rn_w (nDx_at h hi) (show V (9 + (nI i).toNatClampNeg) 6 = nI 0 by rw [nI_clamp (by omega)]; exact e6) h_21
      refine x_istore (i := 5) C dL_holds_24 (by decide) ?_
      refine x_aload_n (i := 0) C dL_holds_26 rfl rfl ?_
      refine x_iload (i := 4) C dL_holds_27 rfl ?_
      refine x_callSWi (As := [.ref (a 0), .int (nI i)]) C hE (k_L_campaign l hfl D cy a A _ V h (nI i)) (vx_cwSW 2 C.2.2.2.2.1 gL_holds_L_campaign rfl rfl rfl (by decide +kernel) ⟨Nat.le_of_ble_eq_true rfl, Nat.le_of_ble_eq_true rfl⟩) rfl rfl (Nat.le_of_ble_eq_true rfl) dL_holds_29 ⟨by show _ ≤ 300; omega, by show _ ≤ 1800; omega⟩ (fun r_29 u_29 h_29 => ?_)
      obtain ⟨rfl, rfl⟩ := rn_w (nDx_at h hi) (show V (9 + (nI i).toNatClampNeg) 7 = (-1) by rw [nI_clamp (by omega)]; exact e7) h_29
      refine x_istore (i := 6) C dL_holds_32 (by decide) ?_
      refine x_iload (i := 5) C dL_holds_34 rfl ?_
      refine x_if_lt C 149 dL_holds_36 (by decide) (fun c_36 => absurd c_36 (by decide)) (fun c_36 => ?_)
      refine x_iload (i := 5) C dL_holds_39 rfl ?_
      refine x_iconst (v := nI 2) C dL_holds_41 (by decide) ?_
      refine x_icmp_gt C 149 dL_holds_42 (by decide) (fun c_42 => absurd c_42 (by decide)) (fun c_42 => ?_)
      refine x_iload (i := 6) C dL_holds_45 rfl ?_
      refine x_iconst (v := (-1)) C dL_holds_47 (by decide) ?_
      refine x_icmp_ne C 55 dL_holds_48 (by decide) (fun c_48 => absurd rfl c_48) (fun c_48 => ?_)
      refine x_iconst (v := nI 1) C dL_holds_51 (by decide) ?_
      refine x_goto C 56 dL_holds_52 (by decide) ?_
      refine x_iload (i := 5) C dL_holds_56 rfl ?_
      refine x_if_ne C 65 dL_holds_58 (by decide) (fun c_58 => absurd rfl c_58) (fun c_58 => ?_)
      refine x_iconst (v := nI 1) C dL_holds_61 (by decide) ?_
      refine x_goto C 66 dL_holds_62 (by decide) ?_
      refine x_icmp_ne C 149 dL_holds_66 (by decide) (fun c_66 => absurd rfl c_66) (fun c_66 => ?_)
      refine x_iload (i := 6) C dL_holds_69 rfl ?_
      refine x_aload_n (i := 1) C dL_holds_71 rfl rfl ?_
      refine x_iconst (v := nI 0) C dL_holds_72 (by decide) ?_
      refine x_nrd C hf dL_holds_73 ?_
      refine x_icmp_ge C 149 dL_holds_74 (by decide) (fun c_74 => absurd c_74 (nI_m1 (by omega))) (fun c_74 => ?_)
      refine x_aload_n (i := 0) C dL_holds_77 rfl rfl ?_
      refine x_iload (i := 4) C dL_holds_78 rfl ?_
      refine x_callSWi (As := [.ref (a 0), .int (nI i)]) C hE (k_L_toGo l hfl D cy a A _ V h (nI i)) (vx_cwSW 2 C.2.2.2.2.1 gL_holds_L_toGo rfl rfl rfl (by decide +kernel) ⟨Nat.le_of_ble_eq_true rfl, Nat.le_of_ble_eq_true rfl⟩) rfl rfl (Nat.le_of_ble_eq_true rfl) dL_holds_80 ⟨by show _ ≤ 300; omega, by show _ ≤ 1800; omega⟩ (fun r_80 u_80 h_80 => ?_)
      obtain ⟨rfl, rfl⟩ := rn_w (nDx_at h hi) (show V (9 + (nI i).toNatClampNeg) 8 = nI 0 by rw [nI_clamp (by omega)]; exact e8) h_80
      refine x_if_le C 90 dL_holds_83 (by decide) (fun c_83 => ?_) (fun c_83 => absurd (by decide) c_83)
      refine x_iconst (v := nI 0) C dL_holds_90 (by decide) ?_
      refine x_iload (i := 5) C dL_holds_91 rfl ?_
      refine x_iconst (v := nI 1) C dL_holds_93 (by decide) ?_
      refine x_icmp_ne C 101 dL_holds_94 (by decide) (fun c_94 => ?_) (fun c_94 => absurd c_94 (by decide))
      refine x_iconst (v := nI 0) C dL_holds_101 (by decide) ?_
      refine x_icmp_ne C 149 dL_holds_102 (by decide) (fun c_102 => absurd rfl c_102) (fun c_102 => ?_)
      refine x_aload_n (i := 0) C dL_holds_105 rfl rfl ?_
      refine x_iload (i := 4) C dL_holds_106 rfl ?_
      refine x_callSWi (As := [.ref (a 0), .int (nI i)]) C hE (k_L_battery l hfl D cy a A _ V h (nI i)) (vx_cwSW 2 C.2.2.2.2.1 gL_holds_L_battery rfl rfl rfl (by decide +kernel) ⟨Nat.le_of_ble_eq_true rfl, Nat.le_of_ble_eq_true rfl⟩) rfl rfl (Nat.le_of_ble_eq_true rfl) dL_holds_108 ⟨by show _ ≤ 300; omega, by show _ ≤ 1800; omega⟩ (fun r_108 u_108 h_108 => ?_)
      obtain ⟨rfl, rfl⟩ := rn_w (nDx_at h hi) (show V (9 + (nI i).toNatClampNeg) 3 = nI bb by rw [nI_clamp (by omega)]; exact eb) h_108
      refine x_if_lt C 149 dL_holds_111 (by decide) (fun c_111 => absurd c_111 (nI_pos (by omega))) (fun c_111 => ?_)
      refine x_aload_n (i := 0) C dL_holds_114 rfl rfl ?_
      refine x_iload (i := 4) C dL_holds_115 rfl ?_
      refine x_callSWi (As := [.ref (a 0), .int (nI i)]) C hE (k_L_battery l hfl D cy a A _ V h (nI i)) (vx_cwSW 2 C.2.2.2.2.1 gL_holds_L_battery rfl rfl rfl (by decide +kernel) ⟨Nat.le_of_ble_eq_true rfl, Nat.le_of_ble_eq_true rfl⟩) rfl rfl (Nat.le_of_ble_eq_true rfl) dL_holds_117 ⟨by show _ ≤ 300; omega, by show _ ≤ 1800; omega⟩ (fun r_117 u_117 h_117 => ?_)
      obtain ⟨rfl, rfl⟩ := rn_w (nDx_at h hi) (show V (9 + (nI i).toNatClampNeg) 3 = nI bb by rw [nI_clamp (by omega)]; exact eb) h_117
      refine x_bipush (v := nI 100) C dL_holds_120 (by decide) ?_
      refine x_icmp_gt C 149 dL_holds_122 (by decide) (fun c_122 => absurd c_122 (nI_nlt (by omega) (by omega))) (fun c_122 => ?_)
      refine x_aload_n (i := 0) C dL_holds_125 rfl rfl ?_
      refine x_iload (i := 4) C dL_holds_126 rfl ?_
      refine x_callSWi (As := [.ref (a 0), .int (nI i)]) C hE (k_L_version l hfl D cy a A _ V h (nI i)) (vx_cwSW 2 C.2.2.2.2.1 gL_holds_L_version rfl rfl rfl (by decide +kernel) ⟨Nat.le_of_ble_eq_true rfl, Nat.le_of_ble_eq_true rfl⟩) rfl rfl (Nat.le_of_ble_eq_true rfl) dL_holds_128 ⟨by show _ ≤ 300; omega, by show _ ≤ 1800; omega⟩ (fun r_128 u_128 h_128 => ?_)
      obtain ⟨rfl, rfl⟩ := rn_w (nDx_at h hi) (show V (9 + (nI i).toNatClampNeg) 2 = nI vv by rw [nI_clamp (by omega)]; exact ev) h_128
      refine x_if_lt C 149 dL_holds_131 (by decide) (fun c_131 => absurd c_131 (nI_pos (by omega))) (fun c_131 => ?_)
      refine x_aload_n (i := 0) C dL_holds_134 rfl rfl ?_
      refine x_iload (i := 4) C dL_holds_135 rfl ?_
      refine x_callSWi (As := [.ref (a 0), .int (nI i)]) C hE (k_L_version l hfl D cy a A _ V h (nI i)) (vx_cwSW 2 C.2.2.2.2.1 gL_holds_L_version rfl rfl rfl (by decide +kernel) ⟨Nat.le_of_ble_eq_true rfl, Nat.le_of_ble_eq_true rfl⟩) rfl rfl (Nat.le_of_ble_eq_true rfl) dL_holds_137 ⟨by show _ ≤ 300; omega, by show _ ≤ 1800; omega⟩ (fun r_137 u_137 h_137 => ?_)
      obtain ⟨rfl, rfl⟩ := rn_w (nDx_at h hi) (show V (9 + (nI i).toNatClampNeg) 2 = nI vv by rw [nI_clamp (by omega)]; exact ev) h_137
      refine x_bipush (v := nI 8) C dL_holds_140 (by decide) ?_
      refine x_icmp_ge C 149 dL_holds_142 (by decide) (fun c_142 => absurd c_142 (nI_ge hvv (by omega))) (fun c_142 => ?_)
      refine x_iconst (v := nI 1) C dL_holds_145 (by decide) ?_
      refine x_goto C 150 dL_holds_146 (by decide) ?_
      refine x_istore_n (i := 3) C dL_holds_150 rfl (by decide) ?_
      refine x_iinc (v := nI (i + 1)) C dL_holds_151 rfl (nI_1 _) ?_
      refine x_goto C 5 dL_holds_154 (by decide) ?_
      refine x_subm (lv' := [(4, .int (nI ((i + 1)))), (3, .int (nI 1)), (2, .int (nI X)), (1, .ref o), (0, .ref (a 0))]) ?_ rfl
      exact x_widen (by omega) (by omega) ihi
    · refine x_aload_n (i := 0) C dL_holds_18 rfl rfl ?_
      refine x_iload (i := 4) C dL_holds_19 rfl ?_
      refine x_callSWi (As := [.ref (a 0), .int (nI i)]) C hE (k_L_state l hfl D cy a A _ V h (nI i)) (vx_cwSW 2 C.2.2.2.2.1 gL_holds_L_state rfl rfl rfl (by decide +kernel) ⟨Nat.le_of_ble_eq_true rfl, Nat.le_of_ble_eq_true rfl⟩) rfl rfl (Nat.le_of_ble_eq_true rfl) dL_holds_21 ⟨by show _ ≤ 300; omega, by show _ ≤ 1800; omega⟩ (fun r_21 u_21 h_21 => ?_)
      obtain ⟨rfl, rfl⟩ := rn_w (nDx_at h hi) (show V (9 + (nI i).toNatClampNeg) 6 = nI 1 by rw [nI_clamp (by omega)]; exact e6) h_21
      refine x_istore (i := 5) C dL_holds_24 (by decide) ?_
      refine x_aload_n (i := 0) C dL_holds_26 rfl rfl ?_
      refine x_iload (i := 4) C dL_holds_27 rfl ?_
      refine x_callSWi (As := [.ref (a 0), .int (nI i)]) C hE (k_L_campaign l hfl D cy a A _ V h (nI i)) (vx_cwSW 2 C.2.2.2.2.1 gL_holds_L_campaign rfl rfl rfl (by decide +kernel) ⟨Nat.le_of_ble_eq_true rfl, Nat.le_of_ble_eq_true rfl⟩) rfl rfl (Nat.le_of_ble_eq_true rfl) dL_holds_29 ⟨by show _ ≤ 300; omega, by show _ ≤ 1800; omega⟩ (fun r_29 u_29 h_29 => ?_)
      obtain ⟨rfl, rfl⟩ := rn_w (nDx_at h hi) (show V (9 + (nI i).toNatClampNeg) 7 = nI c9 by rw [nI_clamp (by omega)]; exact e7) h_29
      refine x_istore (i := 6) C dL_holds_32 (by decide) ?_
      refine x_iload (i := 5) C dL_holds_34 rfl ?_
      refine x_if_lt C 149 dL_holds_36 (by decide) (fun c_36 => absurd c_36 (by decide)) (fun c_36 => ?_)
      refine x_iload (i := 5) C dL_holds_39 rfl ?_
      refine x_iconst (v := nI 2) C dL_holds_41 (by decide) ?_
      refine x_icmp_gt C 149 dL_holds_42 (by decide) (fun c_42 => absurd c_42 (by decide)) (fun c_42 => ?_)
      refine x_iload (i := 6) C dL_holds_45 rfl ?_
      refine x_iconst (v := (-1)) C dL_holds_47 (by decide) ?_
      refine x_icmp_ne C 55 dL_holds_48 (by decide) (fun c_48 => ?_) (fun c_48 => absurd c_48 (nI_nm1 (by omega)))
      refine x_iconst (v := nI 0) C dL_holds_55 (by decide) ?_
      refine x_iload (i := 5) C dL_holds_56 rfl ?_
      refine x_if_ne C 65 dL_holds_58 (by decide) (fun c_58 => ?_) (fun c_58 => absurd c_58 (by decide))
      refine x_iconst (v := nI 0) C dL_holds_65 (by decide) ?_
      refine x_icmp_ne C 149 dL_holds_66 (by decide) (fun c_66 => absurd rfl c_66) (fun c_66 => ?_)
      refine x_iload (i := 6) C dL_holds_69 rfl ?_
      refine x_aload_n (i := 1) C dL_holds_71 rfl rfl ?_
      refine x_iconst (v := nI 0) C dL_holds_72 (by decide) ?_
      refine x_nrd C hf dL_holds_73 ?_
      refine x_icmp_ge C 149 dL_holds_74 (by decide) (fun c_74 => absurd c_74 (nI_ge hc9 (by omega))) (fun c_74 => ?_)
      refine x_aload_n (i := 0) C dL_holds_77 rfl rfl ?_
      refine x_iload (i := 4) C dL_holds_78 rfl ?_
      refine x_callSWi (As := [.ref (a 0), .int (nI i)]) C hE (k_L_toGo l hfl D cy a A _ V h (nI i)) (vx_cwSW 2 C.2.2.2.2.1 gL_holds_L_toGo rfl rfl rfl (by decide +kernel) ⟨Nat.le_of_ble_eq_true rfl, Nat.le_of_ble_eq_true rfl⟩) rfl rfl (Nat.le_of_ble_eq_true rfl) dL_holds_80 ⟨by show _ ≤ 300; omega, by show _ ≤ 1800; omega⟩ (fun r_80 u_80 h_80 => ?_)
      obtain ⟨rfl, rfl⟩ := rn_w (nDx_at h hi) (show V (9 + (nI i).toNatClampNeg) 8 = V (9 + i) 8 by rw [nI_clamp (by omega)]) h_80
      refine x_if_le C 90 dL_holds_83 (by decide) (fun c_83 => absurd c_83 (fun q => by rw [ti_le, ti_0] at q; omega)) (fun c_83 => ?_)
      refine x_iconst (v := nI 1) C dL_holds_86 (by decide) ?_
      refine x_goto C 91 dL_holds_87 (by decide) ?_
      refine x_iload (i := 5) C dL_holds_91 rfl ?_
      refine x_iconst (v := nI 1) C dL_holds_93 (by decide) ?_
      refine x_icmp_ne C 101 dL_holds_94 (by decide) (fun c_94 => absurd rfl c_94) (fun c_94 => ?_)
      refine x_iconst (v := nI 1) C dL_holds_97 (by decide) ?_
      refine x_goto C 102 dL_holds_98 (by decide) ?_
      refine x_icmp_ne C 149 dL_holds_102 (by decide) (fun c_102 => absurd rfl c_102) (fun c_102 => ?_)
      refine x_aload_n (i := 0) C dL_holds_105 rfl rfl ?_
      refine x_iload (i := 4) C dL_holds_106 rfl ?_
      refine x_callSWi (As := [.ref (a 0), .int (nI i)]) C hE (k_L_battery l hfl D cy a A _ V h (nI i)) (vx_cwSW 2 C.2.2.2.2.1 gL_holds_L_battery rfl rfl rfl (by decide +kernel) ⟨Nat.le_of_ble_eq_true rfl, Nat.le_of_ble_eq_true rfl⟩) rfl rfl (Nat.le_of_ble_eq_true rfl) dL_holds_108 ⟨by show _ ≤ 300; omega, by show _ ≤ 1800; omega⟩ (fun r_108 u_108 h_108 => ?_)
      obtain ⟨rfl, rfl⟩ := rn_w (nDx_at h hi) (show V (9 + (nI i).toNatClampNeg) 3 = nI bb by rw [nI_clamp (by omega)]; exact eb) h_108
      refine x_if_lt C 149 dL_holds_111 (by decide) (fun c_111 => absurd c_111 (nI_pos (by omega))) (fun c_111 => ?_)
      refine x_aload_n (i := 0) C dL_holds_114 rfl rfl ?_
      refine x_iload (i := 4) C dL_holds_115 rfl ?_
      refine x_callSWi (As := [.ref (a 0), .int (nI i)]) C hE (k_L_battery l hfl D cy a A _ V h (nI i)) (vx_cwSW 2 C.2.2.2.2.1 gL_holds_L_battery rfl rfl rfl (by decide +kernel) ⟨Nat.le_of_ble_eq_true rfl, Nat.le_of_ble_eq_true rfl⟩) rfl rfl (Nat.le_of_ble_eq_true rfl) dL_holds_117 ⟨by show _ ≤ 300; omega, by show _ ≤ 1800; omega⟩ (fun r_117 u_117 h_117 => ?_)
      obtain ⟨rfl, rfl⟩ := rn_w (nDx_at h hi) (show V (9 + (nI i).toNatClampNeg) 3 = nI bb by rw [nI_clamp (by omega)]; exact eb) h_117
      refine x_bipush (v := nI 100) C dL_holds_120 (by decide) ?_
      refine x_icmp_gt C 149 dL_holds_122 (by decide) (fun c_122 => absurd c_122 (nI_nlt (by omega) (by omega))) (fun c_122 => ?_)
      refine x_aload_n (i := 0) C dL_holds_125 rfl rfl ?_
      refine x_iload (i := 4) C dL_holds_126 rfl ?_
      refine x_callSWi (As := [.ref (a 0), .int (nI i)]) C hE (k_L_version l hfl D cy a A _ V h (nI i)) (vx_cwSW 2 C.2.2.2.2.1 gL_holds_L_version rfl rfl rfl (by decide +kernel) ⟨Nat.le_of_ble_eq_true rfl, Nat.le_of_ble_eq_true rfl⟩) rfl rfl (Nat.le_of_ble_eq_true rfl) dL_holds_128 ⟨by show _ ≤ 300; omega, by show _ ≤ 1800; omega⟩ (fun r_128 u_128 h_128 => ?_)
      obtain ⟨rfl, rfl⟩ := rn_w (nDx_at h hi) (show V (9 + (nI i).toNatClampNeg) 2 = nI vv by rw [nI_clamp (by omega)]; exact ev) h_128
      refine x_if_lt C 149 dL_holds_131 (by decide) (fun c_131 => absurd c_131 (nI_pos (by omega))) (fun c_131 => ?_)
      refine x_aload_n (i := 0) C dL_holds_134 rfl rfl ?_
      refine x_iload (i := 4) C dL_holds_135 rfl ?_
      refine x_callSWi (As := [.ref (a 0), .int (nI i)]) C hE (k_L_version l hfl D cy a A _ V h (nI i)) (vx_cwSW 2 C.2.2.2.2.1 gL_holds_L_version rfl rfl rfl (by decide +kernel) ⟨Nat.le_of_ble_eq_true rfl, Nat.le_of_ble_eq_true rfl⟩) rfl rfl (Nat.le_of_ble_eq_true rfl) dL_holds_137 ⟨by show _ ≤ 300; omega, by show _ ≤ 1800; omega⟩ (fun r_137 u_137 h_137 => ?_)
      obtain ⟨rfl, rfl⟩ := rn_w (nDx_at h hi) (show V (9 + (nI i).toNatClampNeg) 2 = nI vv by rw [nI_clamp (by omega)]; exact ev) h_137
      refine x_bipush (v := nI 8) C dL_holds_140 (by decide) ?_
      refine x_icmp_ge C 149 dL_holds_142 (by decide) (fun c_142 => absurd c_142 (nI_ge hvv (by omega))) (fun c_142 => ?_)
      refine x_iconst (v := nI 1) C dL_holds_145 (by decide) ?_
      refine x_goto C 150 dL_holds_146 (by decide) ?_
      refine x_istore_n (i := 3) C dL_holds_150 rfl (by decide) ?_
      refine x_iinc (v := nI (i + 1)) C dL_holds_151 rfl (nI_1 _) ?_
      refine x_goto C 5 dL_holds_154 (by decide) ?_
      refine x_subm (lv' := [(4, .int (nI ((i + 1)))), (3, .int (nI 1)), (2, .int (nI X)), (1, .ref o), (0, .ref (a 0))]) ?_ rfl
      exact x_widen (by omega) (by omega) ihi
    · refine x_aload_n (i := 0) C dL_holds_18 rfl rfl ?_
      refine x_iload (i := 4) C dL_holds_19 rfl ?_
      refine x_callSWi (As := [.ref (a 0), .int (nI i)]) C hE (k_L_state l hfl D cy a A _ V h (nI i)) (vx_cwSW 2 C.2.2.2.2.1 gL_holds_L_state rfl rfl rfl (by decide +kernel) ⟨Nat.le_of_ble_eq_true rfl, Nat.le_of_ble_eq_true rfl⟩) rfl rfl (Nat.le_of_ble_eq_true rfl) dL_holds_21 ⟨by show _ ≤ 300; omega, by show _ ≤ 1800; omega⟩ (fun r_21 u_21 h_21 => ?_)
      obtain ⟨rfl, rfl⟩ := rn_w (nDx_at h hi) (show V (9 + (nI i).toNatClampNeg) 6 = nI 2 by rw [nI_clamp (by omega)]; exact e6) h_21
      refine x_istore (i := 5) C dL_holds_24 (by decide) ?_
      refine x_aload_n (i := 0) C dL_holds_26 rfl rfl ?_
      refine x_iload (i := 4) C dL_holds_27 rfl ?_
      refine x_callSWi (As := [.ref (a 0), .int (nI i)]) C hE (k_L_campaign l hfl D cy a A _ V h (nI i)) (vx_cwSW 2 C.2.2.2.2.1 gL_holds_L_campaign rfl rfl rfl (by decide +kernel) ⟨Nat.le_of_ble_eq_true rfl, Nat.le_of_ble_eq_true rfl⟩) rfl rfl (Nat.le_of_ble_eq_true rfl) dL_holds_29 ⟨by show _ ≤ 300; omega, by show _ ≤ 1800; omega⟩ (fun r_29 u_29 h_29 => ?_)
      obtain ⟨rfl, rfl⟩ := rn_w (nDx_at h hi) (show V (9 + (nI i).toNatClampNeg) 7 = nI c9 by rw [nI_clamp (by omega)]; exact e7) h_29
      refine x_istore (i := 6) C dL_holds_32 (by decide) ?_
      refine x_iload (i := 5) C dL_holds_34 rfl ?_
      refine x_if_lt C 149 dL_holds_36 (by decide) (fun c_36 => absurd c_36 (by decide)) (fun c_36 => ?_)
      refine x_iload (i := 5) C dL_holds_39 rfl ?_
      refine x_iconst (v := nI 2) C dL_holds_41 (by decide) ?_
      refine x_icmp_gt C 149 dL_holds_42 (by decide) (fun c_42 => absurd c_42 (by decide)) (fun c_42 => ?_)
      refine x_iload (i := 6) C dL_holds_45 rfl ?_
      refine x_iconst (v := (-1)) C dL_holds_47 (by decide) ?_
      refine x_icmp_ne C 55 dL_holds_48 (by decide) (fun c_48 => ?_) (fun c_48 => absurd c_48 (nI_nm1 (by omega)))
      refine x_iconst (v := nI 0) C dL_holds_55 (by decide) ?_
      refine x_iload (i := 5) C dL_holds_56 rfl ?_
      refine x_if_ne C 65 dL_holds_58 (by decide) (fun c_58 => ?_) (fun c_58 => absurd c_58 (by decide))
      refine x_iconst (v := nI 0) C dL_holds_65 (by decide) ?_
      refine x_icmp_ne C 149 dL_holds_66 (by decide) (fun c_66 => absurd rfl c_66) (fun c_66 => ?_)
      refine x_iload (i := 6) C dL_holds_69 rfl ?_
      refine x_aload_n (i := 1) C dL_holds_71 rfl rfl ?_
      refine x_iconst (v := nI 0) C dL_holds_72 (by decide) ?_
      refine x_nrd C hf dL_holds_73 ?_
      refine x_icmp_ge C 149 dL_holds_74 (by decide) (fun c_74 => absurd c_74 (nI_ge hc9 (by omega))) (fun c_74 => ?_)
      refine x_aload_n (i := 0) C dL_holds_77 rfl rfl ?_
      refine x_iload (i := 4) C dL_holds_78 rfl ?_
      refine x_callSWi (As := [.ref (a 0), .int (nI i)]) C hE (k_L_toGo l hfl D cy a A _ V h (nI i)) (vx_cwSW 2 C.2.2.2.2.1 gL_holds_L_toGo rfl rfl rfl (by decide +kernel) ⟨Nat.le_of_ble_eq_true rfl, Nat.le_of_ble_eq_true rfl⟩) rfl rfl (Nat.le_of_ble_eq_true rfl) dL_holds_80 ⟨by show _ ≤ 300; omega, by show _ ≤ 1800; omega⟩ (fun r_80 u_80 h_80 => ?_)
      obtain ⟨rfl, rfl⟩ := rn_w (nDx_at h hi) (show V (9 + (nI i).toNatClampNeg) 8 = nI 0 by rw [nI_clamp (by omega)]; exact e8) h_80
      refine x_if_le C 90 dL_holds_83 (by decide) (fun c_83 => ?_) (fun c_83 => absurd (by decide) c_83)
      refine x_iconst (v := nI 0) C dL_holds_90 (by decide) ?_
      refine x_iload (i := 5) C dL_holds_91 rfl ?_
      refine x_iconst (v := nI 1) C dL_holds_93 (by decide) ?_
      refine x_icmp_ne C 101 dL_holds_94 (by decide) (fun c_94 => ?_) (fun c_94 => absurd c_94 (by decide))
      refine x_iconst (v := nI 0) C dL_holds_101 (by decide) ?_
      refine x_icmp_ne C 149 dL_holds_102 (by decide) (fun c_102 => absurd rfl c_102) (fun c_102 => ?_)
      refine x_aload_n (i := 0) C dL_holds_105 rfl rfl ?_
      refine x_iload (i := 4) C dL_holds_106 rfl ?_
      refine x_callSWi (As := [.ref (a 0), .int (nI i)]) C hE (k_L_battery l hfl D cy a A _ V h (nI i)) (vx_cwSW 2 C.2.2.2.2.1 gL_holds_L_battery rfl rfl rfl (by decide +kernel) ⟨Nat.le_of_ble_eq_true rfl, Nat.le_of_ble_eq_true rfl⟩) rfl rfl (Nat.le_of_ble_eq_true rfl) dL_holds_108 ⟨by show _ ≤ 300; omega, by show _ ≤ 1800; omega⟩ (fun r_108 u_108 h_108 => ?_)
      obtain ⟨rfl, rfl⟩ := rn_w (nDx_at h hi) (show V (9 + (nI i).toNatClampNeg) 3 = nI bb by rw [nI_clamp (by omega)]; exact eb) h_108
      refine x_if_lt C 149 dL_holds_111 (by decide) (fun c_111 => absurd c_111 (nI_pos (by omega))) (fun c_111 => ?_)
      refine x_aload_n (i := 0) C dL_holds_114 rfl rfl ?_
      refine x_iload (i := 4) C dL_holds_115 rfl ?_
      refine x_callSWi (As := [.ref (a 0), .int (nI i)]) C hE (k_L_battery l hfl D cy a A _ V h (nI i)) (vx_cwSW 2 C.2.2.2.2.1 gL_holds_L_battery rfl rfl rfl (by decide +kernel) ⟨Nat.le_of_ble_eq_true rfl, Nat.le_of_ble_eq_true rfl⟩) rfl rfl (Nat.le_of_ble_eq_true rfl) dL_holds_117 ⟨by show _ ≤ 300; omega, by show _ ≤ 1800; omega⟩ (fun r_117 u_117 h_117 => ?_)
      obtain ⟨rfl, rfl⟩ := rn_w (nDx_at h hi) (show V (9 + (nI i).toNatClampNeg) 3 = nI bb by rw [nI_clamp (by omega)]; exact eb) h_117
      refine x_bipush (v := nI 100) C dL_holds_120 (by decide) ?_
      refine x_icmp_gt C 149 dL_holds_122 (by decide) (fun c_122 => absurd c_122 (nI_nlt (by omega) (by omega))) (fun c_122 => ?_)
      refine x_aload_n (i := 0) C dL_holds_125 rfl rfl ?_
      refine x_iload (i := 4) C dL_holds_126 rfl ?_
      refine x_callSWi (As := [.ref (a 0), .int (nI i)]) C hE (k_L_version l hfl D cy a A _ V h (nI i)) (vx_cwSW 2 C.2.2.2.2.1 gL_holds_L_version rfl rfl rfl (by decide +kernel) ⟨Nat.le_of_ble_eq_true rfl, Nat.le_of_ble_eq_true rfl⟩) rfl rfl (Nat.le_of_ble_eq_true rfl) dL_holds_128 ⟨by show _ ≤ 300; omega, by show _ ≤ 1800; omega⟩ (fun r_128 u_128 h_128 => ?_)
      obtain ⟨rfl, rfl⟩ := rn_w (nDx_at h hi) (show V (9 + (nI i).toNatClampNeg) 2 = nI vv by rw [nI_clamp (by omega)]; exact ev) h_128
      refine x_if_lt C 149 dL_holds_131 (by decide) (fun c_131 => absurd c_131 (nI_pos (by omega))) (fun c_131 => ?_)
      refine x_aload_n (i := 0) C dL_holds_134 rfl rfl ?_
      refine x_iload (i := 4) C dL_holds_135 rfl ?_
      refine x_callSWi (As := [.ref (a 0), .int (nI i)]) C hE (k_L_version l hfl D cy a A _ V h (nI i)) (vx_cwSW 2 C.2.2.2.2.1 gL_holds_L_version rfl rfl rfl (by decide +kernel) ⟨Nat.le_of_ble_eq_true rfl, Nat.le_of_ble_eq_true rfl⟩) rfl rfl (Nat.le_of_ble_eq_true rfl) dL_holds_137 ⟨by show _ ≤ 300; omega, by show _ ≤ 1800; omega⟩ (fun r_137 u_137 h_137 => ?_)
      obtain ⟨rfl, rfl⟩ := rn_w (nDx_at h hi) (show V (9 + (nI i).toNatClampNeg) 2 = nI vv by rw [nI_clamp (by omega)]; exact ev) h_137
      refine x_bipush (v := nI 8) C dL_holds_140 (by decide) ?_
      refine x_icmp_ge C 149 dL_holds_142 (by decide) (fun c_142 => absurd c_142 (nI_ge hvv (by omega))) (fun c_142 => ?_)
      refine x_iconst (v := nI 1) C dL_holds_145 (by decide) ?_
      refine x_goto C 150 dL_holds_146 (by decide) ?_
      refine x_istore_n (i := 3) C dL_holds_150 rfl (by decide) ?_
      refine x_iinc (v := nI (i + 1)) C dL_holds_151 rfl (nI_1 _) ?_
      refine x_goto C 5 dL_holds_154 (by decide) ?_
      refine x_subm (lv' := [(4, .int (nI ((i + 1)))), (3, .int (nI 1)), (2, .int (nI X)), (1, .ref o), (0, .ref (a 0))]) ?_ rfl
      exact x_widen (by omega) (by omega) ihi
/-! ===== END holds ===== -/
