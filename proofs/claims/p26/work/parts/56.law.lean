/-! ===== BEGIN law: its walk ===== -/
theorem gJ_v0 : gJ v0 0 0 := by
  have hE : gE (cE w0) := fun i j => Or.inl (w0_E i j)
  have hI : gI (cIm w0) := fun v => Or.inl (w0_I v)
  refine ⟨v0_0 4, by omega, v0_0 5, by omega, ⟨?_, ?_, ?_⟩, ?_, ?_⟩
  · have e : cE v0 = cE w0 := cE_same fun p k h1 h2 h3 => (v0_w (by omega)).trans (measV_fr w0 (by omega) (by omega) k)
    rw [e]; exact hE
  · have e : cIm v0 = cIm w0 := cIm_same fun k h3 => (v0_w (by omega)).trans (measV_fr w0 (by omega) (by omega) k)
    rw [e]; exact hI
  · exact tOK_cg (fun p k _ hp => v0_w (by omega)) (tOK_meas w0 hE hI)
  · intro d hd
    unfold gD
    rw [v0_d hd, v0_d hd, v0_d hd, v0_d hd, v0_d hd, v0_d hd]
    exact ⟨rfl, vp_in_nI (n := 0) (N := 8) (by decide) (by decide), ⟨100, by omega, rfl⟩, fun _ => rfl, Or.inl ⟨rfl, rfl, rfl⟩⟩
  · intro c hc
    unfold gC
    rw [v0_c hc, v0_c hc, v0_c hc, v0_c hc, v0_c hc, v0_c hc]
    exact ⟨rfl, vp_in_nI (n := 0) (N := 8) (by decide) (by decide), Or.inr rfl, ⟨0, by omega, rfl⟩, 0, Nat.zero_le _, rfl⟩
set_option maxHeartbeats 40000000 in
set_option maxRecDepth 100000 in
theorem law_body {p : Program} {l : Launch} {e : Env} {s : State} {m9 : MethodId} {below : List Frame} {meth : Method} {c : Code} {D : va_G} {cy : Nat → ClassId} {sb L o : Nat} {a b : Nat → Nat} {xs : Nat → Int32} (hfl : l.stackTraces = false) (hL : L ≤ 260) (C : xC p s m9 #[Value.ref sb] meth c cL_law 9 RL wsL_law D (tyC cy) (fun q => s.heap.size ≤ q) ret) (hE : xE (fun q => s.heap.size ≤ q) s) (hX : va_X sb L xs s s.heap) (hbl : sb < s.heap.size) : xA p l e room_1 s m9 #[Value.ref sb] below meth c D (fun q => s.heap.size ≤ q) 9 83 727 (lw_Z below #[Value.ref sb] s) 20 [(3, .ref o), (2, .ref (b 0)), (1, .ref (a 0)), (0, .ref sb)] [] (cW cy a (nX cy o (fun _ => 0) :: cW cy b [] v0) v0) := by
  refine x_bipush (v := nI 20) C dL_law_20 (by decide) ?_
  refine x_aload_n (i := 0) C dL_law_22 rfl rfl ?_
  refine x_iconst (v := nI 0) C dL_law_23 (by decide) ?_
  refine x_callDr (As := [.ref sb, .int (nI 0)]) C hE hX hbl (Nat.not_le.mpr hbl) (k_L_drawn l D cy _ _ sb L xs (Nat.not_le.mpr hbl) hL (by omega)) (va_cwS 2 C.2.2.2.2.1 gL_law_L_drawn rfl rfl rfl (by decide +kernel) ⟨Nat.le_of_ble_eq_true rfl, Nat.le_of_ble_eq_true rfl⟩) rfl rfl (Nat.le_of_ble_eq_true rfl) dL_law_24 ⟨by show _ ≤ 765707; omega, by show _ ≤ 6804576; omega⟩ (fun r_24 u_24 h_24 => ?_)
  subst h_24
  have hd_24 := drw_lt xs L 0
  refine x_bipush (v := nI 31) C dL_law_27 (by decide) ?_
  refine x_irem C dL_law_29 (nI_ne0 (by omega) (by omega)) ?_
  refine x_topi (pk_rem (by omega) (by omega) (by omega)) ?_
  refine x_iadd C dL_law_30 ?_
  refine x_topi (nI_add _ _) ?_
  refine x_istore (i := 4) C dL_law_31 (by decide) ?_
  refine x_iconst (v := nI 1) C dL_law_33 (by decide) ?_
  refine x_istore (i := 5) C dL_law_34 (by decide) ?_
  refine x_iconst (v := nI 0) C dL_law_36 (by decide) ?_
  refine x_istore (i := 6) C dL_law_37 (by decide) ?_
  refine x_subm (lv' := [(6, .int (nI 0)), (5, .int (nI 1)), (4, .int (nI ((20 + (drw xs L 0 % 31))))), (3, .ref o), (2, .ref (b 0)), (1, .ref (a 0)), (0, .ref sb)]) ?_ rfl
  refine x_widen (k := ((83 + 0) + 1100 * 0)) (n := ((727 + 0) + 6600 * 0)) (by omega) (by omega) ?_
  refine x_count (N := (20 + drw xs L 0 % 31)) (fun k => ∀ (V : XV) (n m : Nat) (f : Nat → Int32), gJ V n m → f 0 = nI m → xA p l e room_1 s m9 _ below meth c D _ 9 ((83 + 0) + 1100 * k) ((727 + 0) + 6600 * k) _ 39 [(6, .int (nI k)), (5, .int (nI 1)), (4, .int (nI ((20 + (drw xs L 0 % 31))))), (3, .ref o), (2, .ref (b 0)), (1, .ref (a 0)), (0, .ref sb)] [] (cW cy a (nX cy o f :: cW cy b [] V) V)) ?_ ?_ v0 0 0 (fun _ => 0) gJ_v0 rfl
  · intro V n m f h hf
    refine x_iload (i := 6) C dL_law_39 rfl ?_
    refine x_iload (i := 4) C dL_law_41 rfl ?_
    refine x_icmp_ge C 292 dL_law_43 (by decide) (fun c_43 => ?_) (fun c_43 => absurd (nI_le (Nat.le_refl _) (by omega)) c_43)
    refine x_iload (i := 5) C dL_law_292 rfl ?_
    refine x_if_eq C 341 dL_law_294 (by decide) (fun c_294 => absurd c_294 (by decide)) (fun c_294 => ?_)
    refine x_aload_n (i := 1) C dL_law_297 rfl rfl ?_
    refine x_aload_n (i := 3) C dL_law_298 rfl rfl ?_
    refine x_aload_n (i := 0) C dL_law_299 rfl rfl ?_
    refine x_iconst (v := nI 0) C dL_law_300 (by decide) ?_
    refine x_callDr (As := [.ref sb, .int (nI 0)]) C hE hX hbl (Nat.not_le.mpr hbl) (k_L_drawn l D cy _ _ sb L xs (Nat.not_le.mpr hbl) hL (by omega)) (va_cwS 2 C.2.2.2.2.1 gL_law_L_drawn rfl rfl rfl (by decide +kernel) ⟨Nat.le_of_ble_eq_true rfl, Nat.le_of_ble_eq_true rfl⟩) rfl rfl (Nat.le_of_ble_eq_true rfl) dL_law_301 ⟨by show _ ≤ 765707; omega, by show _ ≤ 6804576; omega⟩ (fun r_301 u_301 h_301 => ?_)
    subst h_301
    have hd_301 := drw_lt xs L 0
    refine x_bipush (v := nI 31) C dL_law_304 (by decide) ?_
    refine x_idiv C dL_law_306 (nI_ne0 (by omega) (by omega)) ?_
    refine x_topi (pk_div (by omega) (by omega) (by omega)) ?_
    refine x_callSi (As := [.ref (a 0), .ref o, .int (nI ((drw xs L 0 / 31)))]) C hE (k_L_holds l hfl D cy a o f _ _ V h hf (X := ((drw xs L 0 / 31))) (by omega)) (va_cwS 3 C.2.2.2.2.1 gL_law_L_holds rfl rfl rfl (by decide +kernel) ⟨Nat.le_of_ble_eq_true rfl, Nat.le_of_ble_eq_true rfl⟩) rfl rfl (Nat.le_of_ble_eq_true rfl) dL_law_307 ⟨by show _ ≤ 765707; omega, by show _ ≤ 6804576; omega⟩ (fun r_307 u_307 h_307 => ?_)
    obtain ⟨rfl, rfl⟩ := s1_w h_307
    refine x_if_eq C 341 dL_law_310 (by decide) (fun c_310 => absurd c_310 (by decide)) (fun c_310 => ?_)
    refine x_aload_n (i := 1) C dL_law_313 rfl rfl ?_
    refine x_aload_n (i := 3) C dL_law_314 rfl rfl ?_
    refine x_callSi (As := [.ref (a 0), .ref o]) C hE (k_L_ends l hfl D cy a o f _ _ V h) (va_cwS 2 C.2.2.2.2.1 gL_law_L_ends rfl rfl rfl (by decide +kernel) ⟨Nat.le_of_ble_eq_true rfl, Nat.le_of_ble_eq_true rfl⟩) rfl rfl (Nat.le_of_ble_eq_true rfl) dL_law_315 ⟨by show _ ≤ 765707; omega, by show _ ≤ 6804576; omega⟩ (fun r_315 V3 h_315 => ?_)
    obtain ⟨h_315, h3⟩ := h_315
    have e_315 : nI 1 = r_315 := h_315.symm
    subst e_315
    refine x_if_eq C 341 dL_law_318 (by decide) (fun c_318 => absurd c_318 (by decide)) (fun c_318 => ?_)
    refine x_aload_n (i := 1) C dL_law_321 rfl rfl ?_
    refine x_aload_n (i := 3) C dL_law_322 rfl rfl ?_
    refine x_aload_n (i := 0) C dL_law_323 rfl rfl ?_
    refine x_iconst (v := nI 0) C dL_law_324 (by decide) ?_
    refine x_callDr (As := [.ref sb, .int (nI 0)]) C hE hX hbl (Nat.not_le.mpr hbl) (k_L_drawn l D cy _ _ sb L xs (Nat.not_le.mpr hbl) hL (by omega)) (va_cwS 2 C.2.2.2.2.1 gL_law_L_drawn rfl rfl rfl (by decide +kernel) ⟨Nat.le_of_ble_eq_true rfl, Nat.le_of_ble_eq_true rfl⟩) rfl rfl (Nat.le_of_ble_eq_true rfl) dL_law_325 ⟨by show _ ≤ 765707; omega, by show _ ≤ 6804576; omega⟩ (fun r_325 u_325 h_325 => ?_)
    subst h_325
    have hd_325 := drw_lt xs L 0
    refine x_bipush (v := nI 37) C dL_law_328 (by decide) ?_
    refine x_idiv C dL_law_330 (nI_ne0 (by omega) (by omega)) ?_
    refine x_topi (pk_div (by omega) (by omega) (by omega)) ?_
    refine x_callSi (As := [.ref (a 0), .ref o, .int (nI ((drw xs L 0 / 37)))]) C hE (k_L_holds l hfl D cy a o f _ _ V3 h3 hf (X := ((drw xs L 0 / 37))) (by omega)) (va_cwS 3 C.2.2.2.2.1 gL_law_L_holds rfl rfl rfl (by decide +kernel) ⟨Nat.le_of_ble_eq_true rfl, Nat.le_of_ble_eq_true rfl⟩) rfl rfl (Nat.le_of_ble_eq_true rfl) dL_law_331 ⟨by show _ ≤ 765707; omega, by show _ ≤ 6804576; omega⟩ (fun r_331 u_331 h_331 => ?_)
    obtain ⟨rfl, rfl⟩ := s1_w h_331
    refine x_if_eq C 341 dL_law_334 (by decide) (fun c_334 => absurd c_334 (by decide)) (fun c_334 => ?_)
    refine x_iconst (v := nI 1) C dL_law_337 (by decide) ?_
    refine x_goto C 342 dL_law_338 (by decide) ?_
    intro H locs ls hP hD hS hl
    refine va_forget (fun q hq => hS.2.2 q hq) ?_
    refine W.widen (k := 765707) (n := 6804576) (by omega) (by omega) ?_
    exact lw_ret C.1 C.2.1 C.2.2.2.2.2.2.2.2 C.2.2.2.2.2.2.2.1 dL_law_342
  · intro k hk ihk V n m f h hf
    refine x_iload (i := 6) C dL_law_39 rfl ?_
    refine x_iload (i := 4) C dL_law_41 rfl ?_
    refine x_icmp_ge C 292 dL_law_43 (by decide) (fun c_43 => absurd c_43 (nI_ge hk (by omega))) (fun c_43 => ?_)
    refine x_iload (i := 5) C dL_law_46 rfl ?_
    refine x_if_eq C 292 dL_law_48 (by decide) (fun c_48 => absurd c_48 (by decide)) (fun c_48 => ?_)
    refine x_aload_n (i := 0) C dL_law_51 rfl rfl ?_
    refine x_iconst (v := nI 1) C dL_law_52 (by decide) ?_
    refine x_iload (i := 6) C dL_law_53 rfl ?_
    refine x_iadd C dL_law_55 ?_
    refine x_topi (nI_add _ _) ?_
    refine x_callDr (As := [.ref sb, .int (nI ((1 + k)))]) C hE hX hbl (Nat.not_le.mpr hbl) (k_L_drawn l D cy _ _ sb L xs (Nat.not_le.mpr hbl) hL (by omega)) (va_cwS 2 C.2.2.2.2.1 gL_law_L_drawn rfl rfl rfl (by decide +kernel) ⟨Nat.le_of_ble_eq_true rfl, Nat.le_of_ble_eq_true rfl⟩) rfl rfl (Nat.le_of_ble_eq_true rfl) dL_law_56 ⟨by show _ ≤ 765707; omega, by show _ ≤ 6804576; omega⟩ (fun r_56 u_56 h_56 => ?_)
    subst h_56
    have hd_56 := drw_lt xs L ((1 + k))
    refine x_istore (i := 7) C dL_law_59 (by decide) ?_
    refine x_join (J := 145) (st' := []) (fun z => ∃ x : Nat, x < 2147483648 ∧ z = nI x) (fun w_145 e_145 => ?_) (fun j_145 => ?_)
    · obtain ⟨x, hx, rfl⟩ := e_145
      obtain ⟨n2, h2⟩ := gJ_act1 x h
      refine x_istore (i := 7) C dL_law_145 (by decide) ?_
      refine x_aload_n (i := 1) C dL_law_147 rfl rfl ?_
      refine x_aload_n (i := 3) C dL_law_148 rfl rfl ?_
      refine x_iload (i := 7) C dL_law_149 rfl ?_
      refine x_iconst (v := nI 0) C dL_law_151 (by decide) ?_
      refine x_callSi (As := [.ref (a 0), .ref o, .int (nI x), .int (nI 0)]) C hE (k_L_act l hfl D cy a o f _ _ V h hf (S := 0) hx (by decide)) (va_cwS 4 C.2.2.2.2.1 gL_law_L_act rfl rfl rfl (by decide +kernel) ⟨Nat.le_of_ble_eq_true rfl, Nat.le_of_ble_eq_true rfl⟩) rfl rfl (Nat.le_of_ble_eq_true rfl) dL_law_152 ⟨by show _ ≤ 765707; omega, by show _ ≤ 6804576; omega⟩ (fun r_152 u_152 h_152 => ?_)
      obtain ⟨rfl, rfl⟩ := sy_w h_152
      refine x_istore (i := 8) C dL_law_155 (by decide) ?_
      refine x_aload_n (i := 2) C dL_law_157 rfl rfl ?_
      refine x_aload_n (i := 3) C dL_law_158 rfl rfl ?_
      refine x_iload (i := 7) C dL_law_159 rfl ?_
      refine x_sipush (v := nI 9973) C dL_law_161 (by decide) ?_
      refine x_irem C dL_law_164 (nI_ne0 (by omega) (by omega)) ?_
      refine x_topi (pk_rem (by omega) (by omega) (by omega)) ?_
      refine x_swp ?_
      refine x_callSi (As := [.ref (b 0), .ref o, .int (nI ((x % 9973)))]) C hE (k_L_refuses l hfl D cy b o f _ _ V h hf (X := ((x % 9973))) (by omega)) (va_cwS 3 C.2.2.2.2.1 gL_law_L_refuses rfl rfl rfl (by decide +kernel) ⟨Nat.le_of_ble_eq_true rfl, Nat.le_of_ble_eq_true rfl⟩) rfl rfl (Nat.le_of_ble_eq_true rfl) dL_law_165 ⟨by show _ ≤ 765707; omega, by show _ ≤ 6804576; omega⟩ (fun r_165 u_165 h_165 => ?_)
      obtain ⟨rfl, rfl⟩ := s1_w h_165
      refine x_swp ?_
      refine x_if_eq C 188 dL_law_168 (by decide) (fun c_168 => absurd c_168 (by decide)) (fun c_168 => ?_)
      refine x_aload_n (i := 2) C dL_law_171 rfl rfl ?_
      refine x_aload_n (i := 3) C dL_law_172 rfl rfl ?_
      refine x_iload (i := 7) C dL_law_173 rfl ?_
      refine x_iconst (v := nI 1) C dL_law_175 (by decide) ?_
      refine x_swp ?_
      refine x_callSi (As := [.ref (b 0), .ref o, .int (nI x), .int (nI 1)]) C hE (k_L_act l hfl D cy b o f _ _ V h hf (S := 1) hx (by decide)) (va_cwS 4 C.2.2.2.2.1 gL_law_L_act rfl rfl rfl (by decide +kernel) ⟨Nat.le_of_ble_eq_true rfl, Nat.le_of_ble_eq_true rfl⟩) rfl rfl (Nat.le_of_ble_eq_true rfl) dL_law_176 ⟨by show _ ≤ 765707; omega, by show _ ≤ 6804576; omega⟩ (fun r_176 u_176 h_176 => ?_)
      obtain ⟨rfl, rfl⟩ := sy_w h_176
      refine x_swp ?_
      refine x_iload (i := 8) C dL_law_179 rfl ?_
      refine x_icmp_ne C 188 dL_law_181 (by decide) (fun c_181 => absurd rfl c_181) (fun c_181 => ?_)
      refine x_iconst (v := nI 1) C dL_law_184 (by decide) ?_
      refine x_goto C 189 dL_law_185 (by decide) ?_
      refine x_istore (i := 5) C dL_law_189 (by decide) ?_
      refine x_aload_n (i := 3) C dL_law_191 rfl rfl ?_
      refine x_iconst (v := nI 0) C dL_law_192 (by decide) ?_
      refine x_dup2_11 C dL_law_193 rfl rfl ?_
      refine x_nrd C hf dL_law_194 ?_
      refine x_join (J := 225) (st' := [.int (nI m), .int (nI 0), .ref o]) (fun z => z = nI ((if (11 ≤ x % 32 ∧ x % 32 ≤ 13) ∧ 0 ≤ (actF V n m x).1 then 1 else 0))) (fun w_225 e_225 => ?_) (fun j_225 => ?_)
      · subst e_225
        refine x_iadd C dL_law_225 ?_
        refine x_topi (nI_add _ _) ?_
        refine x_nst C dL_law_226 ?_
        refine x_iload (i := 5) C dL_law_227 rfl ?_
        refine x_if_eq C 283 dL_law_229 (by decide) (fun c_229 => absurd c_229 (by decide)) (fun c_229 => ?_)
        refine x_aload_n (i := 2) C dL_law_232 rfl rfl ?_
        refine x_aload_n (i := 3) C dL_law_233 rfl rfl ?_
        refine x_iload (i := 7) C dL_law_234 rfl ?_
        refine x_sipush (v := nI 499) C dL_law_236 (by decide) ?_
        refine x_irem C dL_law_239 (nI_ne0 (by omega) (by omega)) ?_
        refine x_topi (pk_rem (by omega) (by omega) (by omega)) ?_
        refine x_swp ?_
        refine x_callSi (As := [.ref (b 0), .ref o, .int (nI ((x % 499)))]) C hE (k_L_refuses l hfl D cy b o (upd f 0 (nI (m + (if (11 ≤ x % 32 ∧ x % 32 ≤ 13) ∧ 0 ≤ (actF V n m x).1 then 1 else 0)))) _ _ (actF V n m x).2 h2 pk_us (X := ((x % 499))) (by omega)) (va_cwS 3 C.2.2.2.2.1 gL_law_L_refuses rfl rfl rfl (by decide +kernel) ⟨Nat.le_of_ble_eq_true rfl, Nat.le_of_ble_eq_true rfl⟩) rfl rfl (Nat.le_of_ble_eq_true rfl) dL_law_240 ⟨by show _ ≤ 765707; omega, by show _ ≤ 6804576; omega⟩ (fun r_240 u_240 h_240 => ?_)
        obtain ⟨rfl, rfl⟩ := s1_w h_240
        refine x_swp ?_
        refine x_if_eq C 283 dL_law_243 (by decide) (fun c_243 => absurd c_243 (by decide)) (fun c_243 => ?_)
        refine x_aload_n (i := 1) C dL_law_246 rfl rfl ?_
        refine x_aload_n (i := 2) C dL_law_247 rfl rfl ?_
        refine x_aload_n (i := 3) C dL_law_248 rfl rfl ?_
        refine x_iload (i := 7) C dL_law_249 rfl ?_
        refine x_bipush (v := nI 7) C dL_law_251 (by decide) ?_
        refine x_idiv C dL_law_253 (nI_ne0 (by omega) (by omega)) ?_
        refine x_topi (pk_div (by omega) (by omega) (by omega)) ?_
        refine x_callSi (As := [.ref (a 0), .ref (b 0), .ref o, .int (nI ((x / 7)))]) C hE (k_L_alike l hfl D cy a b o (upd f 0 (nI (m + (if (11 ≤ x % 32 ∧ x % 32 ≤ 13) ∧ 0 ≤ (actF V n m x).1 then 1 else 0)))) _ [] (actF V n m x).2 h2 pk_us (X := ((x / 7))) (by omega)) (va_cwS 4 C.2.2.2.2.1 gL_law_L_alike rfl rfl rfl (by decide +kernel) ⟨Nat.le_of_ble_eq_true rfl, Nat.le_of_ble_eq_true rfl⟩) rfl rfl (Nat.le_of_ble_eq_true rfl) dL_law_254 ⟨by show _ ≤ 765707; omega, by show _ ≤ 6804576; omega⟩ (fun r_254 u_254 h_254 => ?_)
        obtain ⟨rfl, rfl⟩ := s1_w h_254
        refine x_if_eq C 283 dL_law_257 (by decide) (fun c_257 => absurd c_257 (by decide)) (fun c_257 => ?_)
        refine x_cut (J := 279) (lv' := [(8, .int ((actF V n m x).1)), (7, .int (nI x)), (6, .int (nI k)), (5, .int (nI 1)), (4, .int (nI ((20 + (drw xs L 0 % 31))))), (3, .ref o), (2, .ref (b 0)), (1, .ref (a 0)), (0, .ref sb)]) (st' := []) (ws' := (cW cy a (nX cy o (upd f 0 (nI (m + (if (11 ≤ x % 32 ∧ x % 32 ≤ 13) ∧ 0 ≤ (actF V n m x).1 then 1 else 0)))) :: cW cy b [] (actF V n m x).2) (actF V n m x).2)) (k := (((83 + 0) + 1100 * k) + 1098)) (n := (((727 + 0) + 6600 * k) + 6588)) ?_ (fun j_279 => ?_)
        · refine x_iconst (v := nI 1) C dL_law_279 (by decide) ?_
          refine x_goto C 284 dL_law_280 (by decide) ?_
          refine x_istore (i := 5) C dL_law_284 (by decide) ?_
          refine x_iinc (v := nI (k + 1)) C dL_law_286 rfl (nI_1 _) ?_
          refine x_goto C 39 dL_law_289 (by decide) ?_
          refine x_subm (lv' := [(6, .int (nI ((k + 1)))), (5, .int (nI 1)), (4, .int (nI ((20 + (drw xs L 0 % 31))))), (3, .ref o), (2, .ref (b 0)), (1, .ref (a 0)), (0, .ref sb)]) ?_ rfl
          exact x_widen (by omega) (by omega) (ihk _ n2 _ _ h2 pk_us)
        · refine x_iload (i := 6) C dL_law_260 rfl ?_
          refine x_iconst (v := nI 4) C dL_law_262 (by decide) ?_
          refine x_irem C dL_law_263 (nI_ne0 (by omega) (by omega)) ?_
          refine x_topi (pk_rem (by omega) (by omega) (by omega)) ?_
          refine x_if_gt C 279 dL_law_264 (by decide) (fun c_264 => ?_) (fun c_264 => ?_)
          · refine x_subm (lv' := [(8, .int ((actF V n m x).1)), (7, .int (nI x)), (6, .int (nI k)), (5, .int (nI 1)), (4, .int (nI ((20 + (drw xs L 0 % 31))))), (3, .ref o), (2, .ref (b 0)), (1, .ref (a 0)), (0, .ref sb)]) ?_ rfl
            exact x_widen (by omega) (by omega) j_279
          · refine x_aload_n (i := 2) C dL_law_267 rfl rfl ?_
            refine x_aload_n (i := 3) C dL_law_268 rfl rfl ?_
            refine x_iload (i := 7) C dL_law_269 rfl ?_
            refine x_iconst (v := nI 5) C dL_law_271 (by decide) ?_
            refine x_idiv C dL_law_272 (nI_ne0 (by omega) (by omega)) ?_
            refine x_topi (pk_div (by omega) (by omega) (by omega)) ?_
            refine x_swp ?_
            refine x_callSi (As := [.ref (b 0), .ref o, .int (nI ((x / 5)))]) C hE (k_L_holds l hfl D cy b o (upd f 0 (nI (m + (if (11 ≤ x % 32 ∧ x % 32 ≤ 13) ∧ 0 ≤ (actF V n m x).1 then 1 else 0)))) _ _ (actF V n m x).2 h2 pk_us (X := ((x / 5))) (by omega)) (va_cwS 3 C.2.2.2.2.1 gL_law_L_holds rfl rfl rfl (by decide +kernel) ⟨Nat.le_of_ble_eq_true rfl, Nat.le_of_ble_eq_true rfl⟩) rfl rfl (Nat.le_of_ble_eq_true rfl) dL_law_273 ⟨by show _ ≤ 765707; omega, by show _ ≤ 6804576; omega⟩ (fun r_273 u_273 h_273 => ?_)
            obtain ⟨rfl, rfl⟩ := s1_w h_273
            refine x_swp ?_
            refine x_if_eq C 283 dL_law_276 (by decide) (fun c_276 => absurd c_276 (by decide)) (fun c_276 => ?_)
            refine x_subm (lv' := [(8, .int ((actF V n m x).1)), (7, .int (nI x)), (6, .int (nI k)), (5, .int (nI 1)), (4, .int (nI ((20 + (drw xs L 0 % 31))))), (3, .ref o), (2, .ref (b 0)), (1, .ref (a 0)), (0, .ref sb)]) ?_ rfl
            exact x_widen (by omega) (by omega) j_279
      · refine x_iload (i := 7) C dL_law_195 rfl ?_
        refine x_bipush (v := nI 32) C dL_law_197 (by decide) ?_
        refine x_irem C dL_law_199 (nI_ne0 (by omega) (by omega)) ?_
        refine x_topi (pk_rem (by omega) (by omega) (by omega)) ?_
        refine x_bipush (v := nI 11) C dL_law_200 (by decide) ?_
        refine x_icmp_lt C 224 dL_law_202 (by decide) (fun c_202 => ?_) (fun c_202 => ?_)
        · refine x_iconst (v := nI 0) C dL_law_224 (by decide) ?_
          exact j_225 _ (by rw [if_neg (fun q => by have := (nI_ltI (by omega) (by omega)).mp c_202; omega)])
        · refine x_iload (i := 7) C dL_law_205 rfl ?_
          refine x_bipush (v := nI 32) C dL_law_207 (by decide) ?_
          refine x_irem C dL_law_209 (nI_ne0 (by omega) (by omega)) ?_
          refine x_topi (pk_rem (by omega) (by omega) (by omega)) ?_
          refine x_bipush (v := nI 13) C dL_law_210 (by decide) ?_
          refine x_icmp_gt C 224 dL_law_212 (by decide) (fun c_212 => ?_) (fun c_212 => ?_)
          · refine x_iconst (v := nI 0) C dL_law_224 (by decide) ?_
            exact j_225 _ (by rw [if_neg (fun q => by have := (nI_ltI (by omega) (by omega)).mp c_212; omega)])
          · refine x_iload (i := 8) C dL_law_215 rfl ?_
            refine x_if_lt C 224 dL_law_217 (by decide) (fun c_217 => ?_) (fun c_217 => ?_)
            · refine x_iconst (v := nI 0) C dL_law_224 (by decide) ?_
              exact j_225 _ (by rw [if_neg (fun q => Int32.not_lt.mpr q.2 c_217)])
            · refine x_iconst (v := nI 1) C dL_law_220 (by decide) ?_
              refine x_goto C 225 dL_law_221 (by decide) ?_
              exact j_225 _ (by rw [if_pos ⟨⟨Nat.not_lt.mp (fun q => c_202 ((nI_ltI (by omega) (by omega)).mpr q)), Nat.not_lt.mp (fun q => c_212 ((nI_ltI (by omega) (by omega)).mpr q))⟩, Int32.not_lt.mp c_217⟩])
    · refine x_iload (i := 6) C dL_law_61 rfl ?_
      refine x_iconst (v := nI 2) C dL_law_63 (by decide) ?_
      refine x_icmp_ge C 80 dL_law_64 (by decide) (fun c_64 => ?_) (fun c_64 => ?_)
      · refine x_iload (i := 6) C dL_law_80 rfl ?_
        refine x_bipush (v := nI 6) C dL_law_82 (by decide) ?_
        refine x_icmp_ge C 101 dL_law_84 (by decide) (fun c_84 => ?_) (fun c_84 => ?_)
        · refine x_iload (i := 6) C dL_law_101 rfl ?_
          refine x_bipush (v := nI 8) C dL_law_103 (by decide) ?_
          refine x_icmp_ge C 122 dL_law_105 (by decide) (fun c_105 => ?_) (fun c_105 => ?_)
          · refine x_iload (i := 6) C dL_law_122 rfl ?_
            refine x_bipush (v := nI 10) C dL_law_124 (by decide) ?_
            refine x_icmp_ge C 143 dL_law_126 (by decide) (fun c_126 => ?_) (fun c_126 => ?_)
            · refine x_iload (i := 7) C dL_law_143 rfl ?_
              exact j_145 _ ⟨_, by omega, rfl⟩
            · refine x_iload (i := 7) C dL_law_129 rfl ?_
              refine x_bipush (v := nI 32) C dL_law_131 (by decide) ?_
              refine x_idiv C dL_law_133 (nI_ne0 (by omega) (by omega)) ?_
              refine x_topi (pk_div (by omega) (by omega) (by omega)) ?_
              refine x_bipush (v := nI 32) C dL_law_134 (by decide) ?_
              refine x_imul C dL_law_136 ?_
              refine x_topi (pk_mul _ _) ?_
              refine x_bipush (v := nI 14) C dL_law_137 (by decide) ?_
              refine x_iadd C dL_law_139 ?_
              refine x_topi (nI_add _ _) ?_
              refine x_goto C 145 dL_law_140 (by decide) ?_
              exact j_145 _ ⟨_, by omega, rfl⟩
          · refine x_iload (i := 7) C dL_law_108 rfl ?_
            refine x_bipush (v := nI 32) C dL_law_110 (by decide) ?_
            refine x_idiv C dL_law_112 (nI_ne0 (by omega) (by omega)) ?_
            refine x_topi (pk_div (by omega) (by omega) (by omega)) ?_
            refine x_bipush (v := nI 32) C dL_law_113 (by decide) ?_
            refine x_imul C dL_law_115 ?_
            refine x_topi (pk_mul _ _) ?_
            refine x_bipush (v := nI 11) C dL_law_116 (by decide) ?_
            refine x_iadd C dL_law_118 ?_
            refine x_topi (nI_add _ _) ?_
            refine x_goto C 145 dL_law_119 (by decide) ?_
            exact j_145 _ ⟨_, by omega, rfl⟩
        · refine x_iload (i := 7) C dL_law_87 rfl ?_
          refine x_bipush (v := nI 32) C dL_law_89 (by decide) ?_
          refine x_idiv C dL_law_91 (nI_ne0 (by omega) (by omega)) ?_
          refine x_topi (pk_div (by omega) (by omega) (by omega)) ?_
          refine x_bipush (v := nI 32) C dL_law_92 (by decide) ?_
          refine x_imul C dL_law_94 ?_
          refine x_topi (pk_mul _ _) ?_
          refine x_bipush (v := nI 6) C dL_law_95 (by decide) ?_
          refine x_iadd C dL_law_97 ?_
          refine x_topi (nI_add _ _) ?_
          refine x_goto C 145 dL_law_98 (by decide) ?_
          exact j_145 _ ⟨_, by omega, rfl⟩
      · refine x_iload (i := 7) C dL_law_67 rfl ?_
        refine x_bipush (v := nI 32) C dL_law_69 (by decide) ?_
        refine x_idiv C dL_law_71 (nI_ne0 (by omega) (by omega)) ?_
        refine x_topi (pk_div (by omega) (by omega) (by omega)) ?_
        refine x_bipush (v := nI 32) C dL_law_72 (by decide) ?_
        refine x_imul C dL_law_74 ?_
        refine x_topi (pk_mul _ _) ?_
        refine x_iconst (v := nI 1) C dL_law_75 (by decide) ?_
        refine x_iadd C dL_law_76 ?_
        refine x_topi (nI_add _ _) ?_
        refine x_goto C 145 dL_law_77 (by decide) ?_
        exact j_145 _ ⟨_, by omega, rfl⟩
/-! ===== END law ===== -/
