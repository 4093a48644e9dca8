/-! ===== BEGIN lawcases: the law, case by case ===== -/
theorem act_all {V M : XV} {n m k : Nat} (h : jJ V M n m k) : ∀ q, 19 ≤ q ∧ q < 25 → V q 8 = 0 ∨ V q 8 = 1 := fun q hq => by
  have h9 := act_01 h (c := q - 19) (by omega)
  rw [show 19 + (q - 19) = q by omega] at h9
  exact h9
theorem act_nc {V M : XV} {n m k : Nat} (h : jJ V M n m k) {q : Int32} (hx : nCx V q = none) : V (19 + q.toNatClampNeg) 8 = 0 ∨ V (19 + q.toNatClampNeg) 8 = 1 := by
  rcases nCx_T h q with ⟨a, _⟩ | ⟨_, b⟩
  · obtain ⟨j, _, hj6, _, ej⟩ := in_cam h a
    rw [ej]
    exact act_01 h hj6
  · rw [hx] at b; cases b
theorem rep_T {V M : XV} {n m k : Nat} (h : jJ V M n m k) (d : Int32) : vp_in d 10 ∧ M 10 d.toNatClampNeg = 2 → vp_in (M 11 d.toNatClampNeg) 6 := by
  intro ⟨h1, h2⟩
  have hj := vp_at h1
  generalize d.toNatClampNeg = j at hj h2 ⊢
  obtain ⟨_, _, _, _, q6, _, _, q7, qn, qz⟩ := h.2.2.1 j hj
  have hm := h.1.2.2.2.2.2.1
  obtain ⟨c, hc1, hc2⟩ := q7 (by rw [q6, h2]; decide)
  by_cases hjn : j < n
  · rw [← (qn hjn).2.2.2, hc2]
    exact vp_in_nI (by omega) (by decide)
  · have h6 := (qz (Nat.not_lt.mp hjn)).2.2.2.1
    rw [q6, h2] at h6
    exact absurd h6 (by decide)
theorem zz01 (x : Int32) : b2i (!decide (x = 0)) = 0 ∨ b2i (!decide (x = 0)) = 1 := b2i_01 _
section LCS
variable {p : Program} {l : Launch} {e : Env} {s : State} {m : MethodId} {below : List Frame} {meth : Method} {c : Code} {cells slots : Nat} {Q : State → Prop} {D : va_G} {A : Nat → Prop} {ret : Option FieldType} {sb t L : Nat} {sc : Nat → Int32} {cy : Nat → ClassId} {a b : Nat → Nat} {o : Nat} {V M : XV} {f : Nat → Int64} {n9 m9 k9 : Nat}
set_option maxHeartbeats 4000000 in
set_option maxRecDepth 100000 in
theorem law_c_allow (hfl : l.stackTraces = false) (C : xC p s m #[Value.ref sb] meth c cL_law 7 RL wsL_law D (tyC cy) A ret) (hE : xE A s) (hX : va_X sb L sc s s.heap) (hbl : sb < s.heap.size) (hbA : ¬ A sb) (hL : L ≤ 3072) (ht : 6 * t + 5 < L) (hcs : cells + 6 ≤ 655756 ∧ slots + 36 ≤ 7128835) (h : jJ V M n9 m9 k9) (hk : k9 + 100 ≤ 60000)
    (kk : ∀ (V' M' : XV) (f' : Nat → Int64) (n' m' k' : Nat), jJ V' M' n' m' k' → k' ≤ k9 + 100 → xA p l e room_1 s m #[Value.ref sb] below meth c D A 7 (cells + 6) (slots + 36) Q 1599 (llv a b o sb t) [] (oW cy a o (mW cy b [] M') V' f')) : xA p l e room_1 s m #[Value.ref sb] below meth c D A 7 cells slots Q 148 (llv a b o sb t) [] (oW cy a o (mW cy b [] M) V f) := by
  obtain ⟨hcs1, hcs2⟩ := hcs
  refine x_aload_n (i := 1) C dL_law_148 rfl rfl ?_
  refine x_arg (k := 1) C hX hbl hbA hL ht (by decide) (by decide) rfl rfl dL_law_149 dL_law_150 dL_law_152 dL_law_153 dL_law_154 ?_
  refine x_arg (k := 2) C hX hbl hbA hL ht (by decide) (by decide) rfl rfl dL_law_155 dL_law_156 dL_law_158 dL_law_159 dL_law_160 ?_
  refine x_aload_n (i := 3) C dL_law_161 rfl rfl ?_
  refine x_callSWi (As := [.ref (a 0), .int (sc (6 * t + 1)), .int (sc (6 * t + 2)), .ref o]) C hE (k_L_allow l hfl D cy a o A (mW cy b [] M) V f (sc (6 * t + 1)) (sc (6 * t + 2)) (ex_in3 (ex_allow (sc (6 * t + 1)) (sc (6 * t + 2))))) (vx_cwSW 4 C.2.2.2.2.1 gL_law_L_allow rfl rfl rfl (by decide +kernel) ⟨Nat.le_of_ble_eq_true rfl, Nat.le_of_ble_eq_true rfl⟩) rfl rfl (Nat.le_of_ble_eq_true rfl) dL_law_162 ⟨by show cells + 2 ≤ 655756; omega, by show slots + 12 ≤ 7128835; omega⟩ (fun r5 u1 h1 => ?_)
  have g1 := ag_3 n_IOIA (ex_allow (sc (6 * t + 1)) (sc (6 * t + 2))) h1
  refine x_istore (i := 5) C dL_law_165 (by decide) ?_
  refine x_toM ?_
  refine x_aload_n (i := 2) C dL_law_167 rfl rfl ?_
  refine x_arg (k := 1) C hX hbl hbA hL ht (by decide) (by decide) rfl rfl dL_law_168 dL_law_169 dL_law_171 dL_law_172 dL_law_173 ?_
  refine x_arg (k := 2) C hX hbl hbA hL ht (by decide) (by decide) rfl rfl dL_law_174 dL_law_175 dL_law_177 dL_law_178 dL_law_179 ?_
  refine x_callVi (As := [.int (sc (6 * t + 1)), .int (sc (6 * t + 2))]) C hE (k_X4_allow l D cy b A (oW cy a o [] u1.1 u1.2) M (sc (6 * t + 1)) (sc (6 * t + 2)) ) (cwV 2 C.2.2.2.2.1 gL_law_X4_allow rfl rfl rfl (by decide +kernel) ⟨Nat.le_of_ble_eq_true rfl, Nat.le_of_ble_eq_true rfl⟩) 0 (mW_M cy b _ _) rfl rfl rfl rfl (Nat.le_of_ble_eq_true rfl) dL_law_180 ⟨by show cells + 2 + 0 ≤ 655756; omega, by show slots + 12 + 0 ≤ 7128835; omega⟩ (fun r6 w2 h2 => ?_)
  refine x_istore (i := 6) C dL_law_183 (by decide) ?_
  obtain ⟨n', m', k', hj, hk', hw, hv⟩ := fin_gen h g1 h2 (fun hc => sem_allow h hc)
  exact law_tail C hE ⟨by omega, by omega⟩ hw hv (by decide) dL_law_185 dL_law_186 dL_law_189 dL_law_191 dL_law_196 dL_law_198 dL_law_201 dL_law_202 dL_law_203 dL_law_204 dL_law_206 dL_law_207 dL_law_208 dL_law_213 (x_widen (k := cells + 6) (n := slots + 36) (by omega) (by omega) (kk _ _ _ n' m' k' hj hk'))
set_option maxHeartbeats 4000000 in
set_option maxRecDepth 100000 in
theorem law_c_setImage (hfl : l.stackTraces = false) (C : xC p s m #[Value.ref sb] meth c cL_law 7 RL wsL_law D (tyC cy) A ret) (hE : xE A s) (hX : va_X sb L sc s s.heap) (hbl : sb < s.heap.size) (hbA : ¬ A sb) (hL : L ≤ 3072) (ht : 6 * t + 5 < L) (hcs : cells + 6 ≤ 655756 ∧ slots + 36 ≤ 7128835) (h : jJ V M n9 m9 k9) (hk : k9 + 100 ≤ 60000)
    (kk : ∀ (V' M' : XV) (f' : Nat → Int64) (n' m' k' : Nat), jJ V' M' n' m' k' → k' ≤ k9 + 100 → xA p l e room_1 s m #[Value.ref sb] below meth c D A 7 (cells + 6) (slots + 36) Q 1599 (llv a b o sb t) [] (oW cy a o (mW cy b [] M') V' f')) : xA p l e room_1 s m #[Value.ref sb] below meth c D A 7 cells slots Q 216 (llv a b o sb t) [] (oW cy a o (mW cy b [] M) V f) := by
  obtain ⟨hcs1, hcs2⟩ := hcs
  refine x_aload_n (i := 1) C dL_law_216 rfl rfl ?_
  refine x_arg (k := 1) C hX hbl hbA hL ht (by decide) (by decide) rfl rfl dL_law_217 dL_law_218 dL_law_220 dL_law_221 dL_law_222 ?_
  refine x_arg (k := 2) C hX hbl hbA hL ht (by decide) (by decide) rfl rfl dL_law_223 dL_law_224 dL_law_226 dL_law_227 dL_law_228 ?_
  refine x_aload_n (i := 3) C dL_law_229 rfl rfl ?_
  refine x_callSWi (As := [.ref (a 0), .int (sc (6 * t + 1)), .int (sc (6 * t + 2)), .ref o]) C hE (k_L_setImage l hfl D cy a o A (mW cy b [] M) V f (sc (6 * t + 1)) (sc (6 * t + 2)) (ex_in3 (ex_image (sc (6 * t + 1)) (sc (6 * t + 2))))) (vx_cwSW 4 C.2.2.2.2.1 gL_law_L_setImage rfl rfl rfl (by decide +kernel) ⟨Nat.le_of_ble_eq_true rfl, Nat.le_of_ble_eq_true rfl⟩) rfl rfl (Nat.le_of_ble_eq_true rfl) dL_law_230 ⟨by show cells + 2 ≤ 655756; omega, by show slots + 12 ≤ 7128835; omega⟩ (fun r5 u1 h1 => ?_)
  have g1 := ag_3 n_IOIA (ex_image (sc (6 * t + 1)) (sc (6 * t + 2))) h1
  refine x_istore (i := 5) C dL_law_233 (by decide) ?_
  refine x_toM ?_
  refine x_aload_n (i := 2) C dL_law_235 rfl rfl ?_
  refine x_arg (k := 1) C hX hbl hbA hL ht (by decide) (by decide) rfl rfl dL_law_236 dL_law_237 dL_law_239 dL_law_240 dL_law_241 ?_
  refine x_arg (k := 2) C hX hbl hbA hL ht (by decide) (by decide) rfl rfl dL_law_242 dL_law_243 dL_law_245 dL_law_246 dL_law_247 ?_
  refine x_callVi (As := [.int (sc (6 * t + 1)), .int (sc (6 * t + 2))]) C hE (k_X4_setImage l D cy b A (oW cy a o [] u1.1 u1.2) M (sc (6 * t + 1)) (sc (6 * t + 2)) ) (cwV 2 C.2.2.2.2.1 gL_law_X4_setImage rfl rfl rfl (by decide +kernel) ⟨Nat.le_of_ble_eq_true rfl, Nat.le_of_ble_eq_true rfl⟩) 0 (mW_M cy b _ _) rfl rfl rfl rfl (Nat.le_of_ble_eq_true rfl) dL_law_248 ⟨by show cells + 2 + 0 ≤ 655756; omega, by show slots + 12 + 0 ≤ 7128835; omega⟩ (fun r6 w2 h2 => ?_)
  refine x_istore (i := 6) C dL_law_251 (by decide) ?_
  obtain ⟨n', m', k', hj, hk', hw, hv⟩ := fin_gen h g1 h2 (fun hc => sem_image h hc)
  exact law_tail C hE ⟨by omega, by omega⟩ hw hv (by decide) dL_law_253 dL_law_254 dL_law_257 dL_law_259 dL_law_264 dL_law_266 dL_law_269 dL_law_270 dL_law_271 dL_law_272 dL_law_274 dL_law_275 dL_law_276 dL_law_281 (x_widen (k := cells + 6) (n := slots + 36) (by omega) (by omega) (kk _ _ _ n' m' k' hj hk'))
set_option maxHeartbeats 4000000 in
set_option maxRecDepth 100000 in
theorem law_c_setDelta (hfl : l.stackTraces = false) (C : xC p s m #[Value.ref sb] meth c cL_law 7 RL wsL_law D (tyC cy) A ret) (hE : xE A s) (hX : va_X sb L sc s s.heap) (hbl : sb < s.heap.size) (hbA : ¬ A sb) (hL : L ≤ 3072) (ht : 6 * t + 5 < L) (hcs : cells + 6 ≤ 655756 ∧ slots + 36 ≤ 7128835) (h : jJ V M n9 m9 k9) (hk : k9 + 100 ≤ 60000)
    (kk : ∀ (V' M' : XV) (f' : Nat → Int64) (n' m' k' : Nat), jJ V' M' n' m' k' → k' ≤ k9 + 100 → xA p l e room_1 s m #[Value.ref sb] below meth c D A 7 (cells + 6) (slots + 36) Q 1599 (llv a b o sb t) [] (oW cy a o (mW cy b [] M') V' f')) : xA p l e room_1 s m #[Value.ref sb] below meth c D A 7 cells slots Q 284 (llv a b o sb t) [] (oW cy a o (mW cy b [] M) V f) := by
  obtain ⟨hcs1, hcs2⟩ := hcs
  refine x_aload_n (i := 1) C dL_law_284 rfl rfl ?_
  refine x_arg (k := 1) C hX hbl hbA hL ht (by decide) (by decide) rfl rfl dL_law_285 dL_law_286 dL_law_288 dL_law_289 dL_law_290 ?_
  refine x_arg (k := 2) C hX hbl hbA hL ht (by decide) (by decide) rfl rfl dL_law_291 dL_law_292 dL_law_294 dL_law_295 dL_law_296 ?_
  refine x_arg (k := 3) C hX hbl hbA hL ht (by decide) (by decide) rfl rfl dL_law_297 dL_law_298 dL_law_300 dL_law_301 dL_law_302 ?_
  refine x_aload_n (i := 3) C dL_law_303 rfl rfl ?_
  refine x_callSWi (As := [.ref (a 0), .int (sc (6 * t + 1)), .int (sc (6 * t + 2)), .int (sc (6 * t + 3)), .ref o]) C hE (k_L_setDelta l hfl D cy a o A (mW cy b [] M) V f (sc (6 * t + 1)) (sc (6 * t + 2)) (sc (6 * t + 3)) (ex_in3 (ex_delta (sc (6 * t + 1)) (sc (6 * t + 2)) (sc (6 * t + 3))))) (vx_cwSW 5 C.2.2.2.2.1 gL_law_L_setDelta rfl rfl rfl (by decide +kernel) ⟨Nat.le_of_ble_eq_true rfl, Nat.le_of_ble_eq_true rfl⟩) rfl rfl (Nat.le_of_ble_eq_true rfl) dL_law_304 ⟨by show cells + 3 ≤ 655756; omega, by show slots + 18 ≤ 7128835; omega⟩ (fun r5 u1 h1 => ?_)
  have g1 := ag_3 n_IOIA (ex_delta (sc (6 * t + 1)) (sc (6 * t + 2)) (sc (6 * t + 3))) h1
  refine x_istore (i := 5) C dL_law_307 (by decide) ?_
  refine x_toM ?_
  refine x_aload_n (i := 2) C dL_law_309 rfl rfl ?_
  refine x_arg (k := 1) C hX hbl hbA hL ht (by decide) (by decide) rfl rfl dL_law_310 dL_law_311 dL_law_313 dL_law_314 dL_law_315 ?_
  refine x_arg (k := 2) C hX hbl hbA hL ht (by decide) (by decide) rfl rfl dL_law_316 dL_law_317 dL_law_319 dL_law_320 dL_law_321 ?_
  refine x_arg (k := 3) C hX hbl hbA hL ht (by decide) (by decide) rfl rfl dL_law_322 dL_law_323 dL_law_325 dL_law_326 dL_law_327 ?_
  refine x_callVi (As := [.int (sc (6 * t + 1)), .int (sc (6 * t + 2)), .int (sc (6 * t + 3))]) C hE (k_X4_setDelta l D cy b A (oW cy a o [] u1.1 u1.2) M (sc (6 * t + 1)) (sc (6 * t + 2)) (sc (6 * t + 3)) ) (cwV 3 C.2.2.2.2.1 gL_law_X4_setDelta rfl rfl rfl (by decide +kernel) ⟨Nat.le_of_ble_eq_true rfl, Nat.le_of_ble_eq_true rfl⟩) 0 (mW_M cy b _ _) rfl rfl rfl rfl (Nat.le_of_ble_eq_true rfl) dL_law_328 ⟨by show cells + 3 + 0 ≤ 655756; omega, by show slots + 18 + 0 ≤ 7128835; omega⟩ (fun r6 w2 h2 => ?_)
  refine x_istore (i := 6) C dL_law_331 (by decide) ?_
  obtain ⟨n', m', k', hj, hk', hw, hv⟩ := fin_gen h g1 h2 (fun hc => sem_delta h hc)
  exact law_tail C hE ⟨by omega, by omega⟩ hw hv (by decide) dL_law_333 dL_law_334 dL_law_337 dL_law_339 dL_law_344 dL_law_346 dL_law_349 dL_law_350 dL_law_351 dL_law_352 dL_law_354 dL_law_355 dL_law_356 dL_law_361 (x_widen (k := cells + 6) (n := slots + 36) (by omega) (by omega) (kk _ _ _ n' m' k' hj hk'))
set_option maxHeartbeats 4000000 in
set_option maxRecDepth 100000 in
theorem law_c_size (hfl : l.stackTraces = false) (C : xC p s m #[Value.ref sb] meth c cL_law 7 RL wsL_law D (tyC cy) A ret) (hE : xE A s) (hX : va_X sb L sc s s.heap) (hbl : sb < s.heap.size) (hbA : ¬ A sb) (hL : L ≤ 3072) (ht : 6 * t + 5 < L) (hcs : cells + 6 ≤ 655756 ∧ slots + 36 ≤ 7128835) (h : jJ V M n9 m9 k9) (hk : k9 + 100 ≤ 60000)
    (kk : ∀ (V' M' : XV) (f' : Nat → Int64) (n' m' k' : Nat), jJ V' M' n' m' k' → k' ≤ k9 + 100 → xA p l e room_1 s m #[Value.ref sb] below meth c D A 7 (cells + 6) (slots + 36) Q 1599 (llv a b o sb t) [] (oW cy a o (mW cy b [] M') V' f')) : xA p l e room_1 s m #[Value.ref sb] below meth c D A 7 cells slots Q 364 (llv a b o sb t) [] (oW cy a o (mW cy b [] M) V f) := by
  obtain ⟨hcs1, hcs2⟩ := hcs
  refine x_aload_n (i := 1) C dL_law_364 rfl rfl ?_
  refine x_arg (k := 1) C hX hbl hbA hL ht (by decide) (by decide) rfl rfl dL_law_365 dL_law_366 dL_law_368 dL_law_369 dL_law_370 ?_
  refine x_arg (k := 2) C hX hbl hbA hL ht (by decide) (by decide) rfl rfl dL_law_371 dL_law_372 dL_law_374 dL_law_375 dL_law_376 ?_
  refine x_aload_n (i := 3) C dL_law_377 rfl rfl ?_
  refine x_callSWi (As := [.ref (a 0), .int (sc (6 * t + 1)), .int (sc (6 * t + 2)), .ref o]) C hE (k_L_size l hfl D cy a o A (mW cy b [] M) V f (sc (6 * t + 1)) (sc (6 * t + 2)) (ex_in2 (ex2_size (sc (6 * t + 1)) (sc (6 * t + 2))))) (vx_cwSW 4 C.2.2.2.2.1 gL_law_L_size rfl rfl rfl (by decide +kernel) ⟨Nat.le_of_ble_eq_true rfl, Nat.le_of_ble_eq_true rfl⟩) rfl rfl (Nat.le_of_ble_eq_true rfl) dL_law_378 ⟨by show cells + 2 ≤ 655756; omega, by show slots + 12 ≤ 7128835; omega⟩ (fun r5 u1 h1 => ?_)
  have g1 := ag_2 (ex2_size (sc (6 * t + 1)) (sc (6 * t + 2))) h1
  refine x_istore (i := 5) C dL_law_381 (by decide) ?_
  refine x_toM ?_
  refine x_aload_n (i := 2) C dL_law_383 rfl rfl ?_
  refine x_arg (k := 1) C hX hbl hbA hL ht (by decide) (by decide) rfl rfl dL_law_384 dL_law_385 dL_law_387 dL_law_388 dL_law_389 ?_
  refine x_arg (k := 2) C hX hbl hbA hL ht (by decide) (by decide) rfl rfl dL_law_390 dL_law_391 dL_law_393 dL_law_394 dL_law_395 ?_
  refine x_callVi (As := [.int (sc (6 * t + 1)), .int (sc (6 * t + 2))]) C hE (k_X4_size l D cy b A (oW cy a o [] u1.1 u1.2) M (sc (6 * t + 1)) (sc (6 * t + 2)) ) (cwV 2 C.2.2.2.2.1 gL_law_X4_size rfl rfl rfl (by decide +kernel) ⟨Nat.le_of_ble_eq_true rfl, Nat.le_of_ble_eq_true rfl⟩) 0 (mW_M cy b _ _) rfl rfl rfl rfl (Nat.le_of_ble_eq_true rfl) dL_law_396 ⟨by show cells + 2 + 0 ≤ 655756; omega, by show slots + 12 + 0 ≤ 7128835; omega⟩ (fun r6 w2 h2 => ?_)
  refine x_istore (i := 6) C dL_law_399 (by decide) ?_
  obtain ⟨n', m', k', hj, hk', hw, hv⟩ := fin_gen h g1 h2 (fun hc => sem_size h hc)
  exact law_tail C hE ⟨by omega, by omega⟩ hw hv (by decide) dL_law_401 dL_law_402 dL_law_405 dL_law_407 dL_law_412 dL_law_414 dL_law_417 dL_law_418 dL_law_419 dL_law_420 dL_law_422 dL_law_423 dL_law_424 dL_law_429 (x_widen (k := cells + 6) (n := slots + 36) (by omega) (by omega) (kk _ _ _ n' m' k' hj hk'))
set_option maxHeartbeats 4000000 in
set_option maxRecDepth 100000 in
theorem law_c_sizeByWays (hfl : l.stackTraces = false) (C : xC p s m #[Value.ref sb] meth c cL_law 7 RL wsL_law D (tyC cy) A ret) (hE : xE A s) (hX : va_X sb L sc s s.heap) (hbl : sb < s.heap.size) (hbA : ¬ A sb) (hL : L ≤ 3072) (ht : 6 * t + 5 < L) (hcs : cells + 6 ≤ 655756 ∧ slots + 36 ≤ 7128835) (h : jJ V M n9 m9 k9) (hk : k9 + 100 ≤ 60000)
    (kk : ∀ (V' M' : XV) (f' : Nat → Int64) (n' m' k' : Nat), jJ V' M' n' m' k' → k' ≤ k9 + 100 → xA p l e room_1 s m #[Value.ref sb] below meth c D A 7 (cells + 6) (slots + 36) Q 1599 (llv a b o sb t) [] (oW cy a o (mW cy b [] M') V' f')) : xA p l e room_1 s m #[Value.ref sb] below meth c D A 7 cells slots Q 432 (llv a b o sb t) [] (oW cy a o (mW cy b [] M) V f) := by
  obtain ⟨hcs1, hcs2⟩ := hcs
  refine x_aload_n (i := 1) C dL_law_432 rfl rfl ?_
  refine x_arg (k := 1) C hX hbl hbA hL ht (by decide) (by decide) rfl rfl dL_law_433 dL_law_434 dL_law_436 dL_law_437 dL_law_438 ?_
  refine x_arg (k := 2) C hX hbl hbA hL ht (by decide) (by decide) rfl rfl dL_law_439 dL_law_440 dL_law_442 dL_law_443 dL_law_444 ?_
  refine x_aload_n (i := 3) C dL_law_445 rfl rfl ?_
  refine x_callSWi (As := [.ref (a 0), .int (sc (6 * t + 1)), .int (sc (6 * t + 2)), .ref o]) C hE (k_L_sizeByWays l hfl D cy a o A (mW cy b [] M) V f (sc (6 * t + 1)) (sc (6 * t + 2)) (ex_in2 (ex2_size (sc (6 * t + 1)) (sc (6 * t + 2))))) (vx_cwSW 4 C.2.2.2.2.1 gL_law_L_sizeByWays rfl rfl rfl (by decide +kernel) ⟨Nat.le_of_ble_eq_true rfl, Nat.le_of_ble_eq_true rfl⟩) rfl rfl (Nat.le_of_ble_eq_true rfl) dL_law_446 ⟨by show cells + 2 ≤ 655756; omega, by show slots + 12 ≤ 7128835; omega⟩ (fun r5 u1 h1 => ?_)
  have g1 := ag_2 (ex2_size (sc (6 * t + 1)) (sc (6 * t + 2))) h1
  refine x_istore (i := 5) C dL_law_449 (by decide) ?_
  refine x_toM ?_
  refine x_aload_n (i := 2) C dL_law_451 rfl rfl ?_
  refine x_arg (k := 1) C hX hbl hbA hL ht (by decide) (by decide) rfl rfl dL_law_452 dL_law_453 dL_law_455 dL_law_456 dL_law_457 ?_
  refine x_arg (k := 2) C hX hbl hbA hL ht (by decide) (by decide) rfl rfl dL_law_458 dL_law_459 dL_law_461 dL_law_462 dL_law_463 ?_
  refine x_callVi (As := [.int (sc (6 * t + 1)), .int (sc (6 * t + 2))]) C hE (k_X4_sizeByWays l D cy b A (oW cy a o [] u1.1 u1.2) M (sc (6 * t + 1)) (sc (6 * t + 2)) ) (cwV 2 C.2.2.2.2.1 gL_law_X4_sizeByWays rfl rfl rfl (by decide +kernel) ⟨Nat.le_of_ble_eq_true rfl, Nat.le_of_ble_eq_true rfl⟩) 0 (mW_M cy b _ _) rfl rfl rfl rfl (Nat.le_of_ble_eq_true rfl) dL_law_464 ⟨by show cells + 2 + 0 ≤ 655756; omega, by show slots + 12 + 0 ≤ 7128835; omega⟩ (fun r6 w2 h2 => ?_)
  refine x_istore (i := 6) C dL_law_467 (by decide) ?_
  obtain ⟨n', m', k', hj, hk', hw, hv⟩ := fin_gen h g1 h2 (fun hc => sem_ways h hc)
  exact law_tail C hE ⟨by omega, by omega⟩ hw hv (by decide) dL_law_469 dL_law_470 dL_law_473 dL_law_475 dL_law_480 dL_law_482 dL_law_485 dL_law_486 dL_law_487 dL_law_488 dL_law_490 dL_law_491 dL_law_492 dL_law_497 (x_widen (k := cells + 6) (n := slots + 36) (by omega) (by omega) (kk _ _ _ n' m' k' hj hk'))
set_option maxHeartbeats 4000000 in
set_option maxRecDepth 100000 in
theorem law_c_addDevice (hfl : l.stackTraces = false) (C : xC p s m #[Value.ref sb] meth c cL_law 7 RL wsL_law D (tyC cy) A ret) (hE : xE A s) (hX : va_X sb L sc s s.heap) (hbl : sb < s.heap.size) (hbA : ¬ A sb) (hL : L ≤ 3072) (ht : 6 * t + 5 < L) (hcs : cells + 6 ≤ 655756 ∧ slots + 36 ≤ 7128835) (h : jJ V M n9 m9 k9) (hk : k9 + 100 ≤ 60000)
    (kk : ∀ (V' M' : XV) (f' : Nat → Int64) (n' m' k' : Nat), jJ V' M' n' m' k' → k' ≤ k9 + 100 → xA p l e room_1 s m #[Value.ref sb] below meth c D A 7 (cells + 6) (slots + 36) Q 1599 (llv a b o sb t) [] (oW cy a o (mW cy b [] M') V' f')) : xA p l e room_1 s m #[Value.ref sb] below meth c D A 7 cells slots Q 500 (llv a b o sb t) [] (oW cy a o (mW cy b [] M) V f) := by
  obtain ⟨hcs1, hcs2⟩ := hcs
  refine x_aload_n (i := 1) C dL_law_500 rfl rfl ?_
  refine x_arg (k := 1) C hX hbl hbA hL ht (by decide) (by decide) rfl rfl dL_law_501 dL_law_502 dL_law_504 dL_law_505 dL_law_506 ?_
  refine x_arg (k := 2) C hX hbl hbA hL ht (by decide) (by decide) rfl rfl dL_law_507 dL_law_508 dL_law_510 dL_law_511 dL_law_512 ?_
  refine x_aload_n (i := 3) C dL_law_513 rfl rfl ?_
  refine x_callSWi (As := [.ref (a 0), .int (sc (6 * t + 1)), .int (sc (6 * t + 2)), .ref o]) C hE (k_L_addDevice l hfl D cy a o A (mW cy b [] M) V f (sc (6 * t + 1)) (sc (6 * t + 2)) h.1.1 h.1.2.2.1 (ex_in3 (ex_add h (sc (6 * t + 1)) (sc (6 * t + 2))))) (vx_cwSW 4 C.2.2.2.2.1 gL_law_L_addDevice rfl rfl rfl (by decide +kernel) ⟨Nat.le_of_ble_eq_true rfl, Nat.le_of_ble_eq_true rfl⟩) rfl rfl (Nat.le_of_ble_eq_true rfl) dL_law_514 ⟨by show cells + 2 ≤ 655756; omega, by show slots + 12 ≤ 7128835; omega⟩ (fun r5 u1 h1 => ?_)
  have g1 := ag_3 n_IOIS (ex_add h (sc (6 * t + 1)) (sc (6 * t + 2))) h1
  refine x_istore (i := 5) C dL_law_517 (by decide) ?_
  refine x_toM ?_
  refine x_aload_n (i := 2) C dL_law_519 rfl rfl ?_
  refine x_arg (k := 1) C hX hbl hbA hL ht (by decide) (by decide) rfl rfl dL_law_520 dL_law_521 dL_law_523 dL_law_524 dL_law_525 ?_
  refine x_arg (k := 2) C hX hbl hbA hL ht (by decide) (by decide) rfl rfl dL_law_526 dL_law_527 dL_law_529 dL_law_530 dL_law_531 ?_
  refine x_callVi (As := [.int (sc (6 * t + 1)), .int (sc (6 * t + 2))]) C hE (k_X4_addDevice l D cy b A (oW cy a o [] u1.1 u1.2) M (sc (6 * t + 1)) (sc (6 * t + 2)) h.1.2.1 h.1.2.2.1) (cwV 2 C.2.2.2.2.1 gL_law_X4_addDevice rfl rfl rfl (by decide +kernel) ⟨Nat.le_of_ble_eq_true rfl, Nat.le_of_ble_eq_true rfl⟩) 0 (mW_M cy b _ _) rfl rfl rfl rfl (Nat.le_of_ble_eq_true rfl) dL_law_532 ⟨by show cells + 2 + 0 ≤ 655756; omega, by show slots + 12 + 0 ≤ 7128835; omega⟩ (fun r6 w2 h2 => ?_)
  refine x_istore (i := 6) C dL_law_535 (by decide) ?_
  obtain ⟨n', m', k', hj, hk', hw, hv⟩ := fin_gen h g1 h2 (fun hc => sem_add h hc)
  exact law_tail C hE ⟨by omega, by omega⟩ hw hv (by decide) dL_law_537 dL_law_538 dL_law_541 dL_law_543 dL_law_548 dL_law_550 dL_law_553 dL_law_554 dL_law_555 dL_law_556 dL_law_558 dL_law_559 dL_law_560 dL_law_565 (x_widen (k := cells + 6) (n := slots + 36) (by omega) (by omega) (kk _ _ _ n' m' k' hj hk'))
set_option maxHeartbeats 4000000 in
set_option maxRecDepth 100000 in
theorem law_c_charge (hfl : l.stackTraces = false) (C : xC p s m #[Value.ref sb] meth c cL_law 7 RL wsL_law D (tyC cy) A ret) (hE : xE A s) (hX : va_X sb L sc s s.heap) (hbl : sb < s.heap.size) (hbA : ¬ A sb) (hL : L ≤ 3072) (ht : 6 * t + 5 < L) (hcs : cells + 6 ≤ 655756 ∧ slots + 36 ≤ 7128835) (h : jJ V M n9 m9 k9) (hk : k9 + 100 ≤ 60000)
    (kk : ∀ (V' M' : XV) (f' : Nat → Int64) (n' m' k' : Nat), jJ V' M' n' m' k' → k' ≤ k9 + 100 → xA p l e room_1 s m #[Value.ref sb] below meth c D A 7 (cells + 6) (slots + 36) Q 1599 (llv a b o sb t) [] (oW cy a o (mW cy b [] M') V' f')) : xA p l e room_1 s m #[Value.ref sb] below meth c D A 7 cells slots Q 568 (llv a b o sb t) [] (oW cy a o (mW cy b [] M) V f) := by
  obtain ⟨hcs1, hcs2⟩ := hcs
  refine x_aload_n (i := 1) C dL_law_568 rfl rfl ?_
  refine x_arg (k := 1) C hX hbl hbA hL ht (by decide) (by decide) rfl rfl dL_law_569 dL_law_570 dL_law_572 dL_law_573 dL_law_574 ?_
  refine x_arg (k := 2) C hX hbl hbA hL ht (by decide) (by decide) rfl rfl dL_law_575 dL_law_576 dL_law_578 dL_law_579 dL_law_580 ?_
  refine x_aload_n (i := 3) C dL_law_581 rfl rfl ?_
  refine x_callSWi (As := [.ref (a 0), .int (sc (6 * t + 1)), .int (sc (6 * t + 2)), .ref o]) C hE (k_L_charge l hfl D cy a o A (mW cy b [] M) V f (sc (6 * t + 1)) (sc (6 * t + 2)) (toI10 (N := 10) h.1.1 h.1.2.2.1 (by decide)) (ex_in3 (ex_charge h (sc (6 * t + 1)) (sc (6 * t + 2))))) (vx_cwSW 4 C.2.2.2.2.1 gL_law_L_charge rfl rfl rfl (by decide +kernel) ⟨Nat.le_of_ble_eq_true rfl, Nat.le_of_ble_eq_true rfl⟩) rfl rfl (Nat.le_of_ble_eq_true rfl) dL_law_582 ⟨by show cells + 2 ≤ 655756; omega, by show slots + 12 ≤ 7128835; omega⟩ (fun r5 u1 h1 => ?_)
  have g1 := ag_3 n_IOIA (ex_charge h (sc (6 * t + 1)) (sc (6 * t + 2))) h1
  refine x_istore (i := 5) C dL_law_585 (by decide) ?_
  refine x_toM ?_
  refine x_aload_n (i := 2) C dL_law_587 rfl rfl ?_
  refine x_arg (k := 1) C hX hbl hbA hL ht (by decide) (by decide) rfl rfl dL_law_588 dL_law_589 dL_law_591 dL_law_592 dL_law_593 ?_
  refine x_arg (k := 2) C hX hbl hbA hL ht (by decide) (by decide) rfl rfl dL_law_594 dL_law_595 dL_law_597 dL_law_598 dL_law_599 ?_
  refine x_callVi (As := [.int (sc (6 * t + 1)), .int (sc (6 * t + 2))]) C hE (k_X4_charge l D cy b A (oW cy a o [] u1.1 u1.2) M (sc (6 * t + 1)) (sc (6 * t + 2)) h.1.2.1 h.1.2.2.1) (cwV 2 C.2.2.2.2.1 gL_law_X4_charge rfl rfl rfl (by decide +kernel) ⟨Nat.le_of_ble_eq_true rfl, Nat.le_of_ble_eq_true rfl⟩) 0 (mW_M cy b _ _) rfl rfl rfl rfl (Nat.le_of_ble_eq_true rfl) dL_law_600 ⟨by show cells + 2 + 0 ≤ 655756; omega, by show slots + 12 + 0 ≤ 7128835; omega⟩ (fun r6 w2 h2 => ?_)
  refine x_istore (i := 6) C dL_law_603 (by decide) ?_
  obtain ⟨n', m', k', hj, hk', hw, hv⟩ := fin_gen h g1 h2 (fun hc => sem_charge h hc)
  exact law_tail C hE ⟨by omega, by omega⟩ hw hv (by decide) dL_law_605 dL_law_606 dL_law_609 dL_law_611 dL_law_616 dL_law_618 dL_law_621 dL_law_622 dL_law_623 dL_law_624 dL_law_626 dL_law_627 dL_law_628 dL_law_633 (x_widen (k := cells + 6) (n := slots + 36) (by omega) (by omega) (kk _ _ _ n' m' k' hj hk'))
set_option maxHeartbeats 4000000 in
set_option maxRecDepth 100000 in
theorem law_c_setWindow (hfl : l.stackTraces = false) (C : xC p s m #[Value.ref sb] meth c cL_law 7 RL wsL_law D (tyC cy) A ret) (hE : xE A s) (hX : va_X sb L sc s s.heap) (hbl : sb < s.heap.size) (hbA : ¬ A sb) (hL : L ≤ 3072) (ht : 6 * t + 5 < L) (hcs : cells + 6 ≤ 655756 ∧ slots + 36 ≤ 7128835) (h : jJ V M n9 m9 k9) (hk : k9 + 100 ≤ 60000)
    (kk : ∀ (V' M' : XV) (f' : Nat → Int64) (n' m' k' : Nat), jJ V' M' n' m' k' → k' ≤ k9 + 100 → xA p l e room_1 s m #[Value.ref sb] below meth c D A 7 (cells + 6) (slots + 36) Q 1599 (llv a b o sb t) [] (oW cy a o (mW cy b [] M') V' f')) : xA p l e room_1 s m #[Value.ref sb] below meth c D A 7 cells slots Q 636 (llv a b o sb t) [] (oW cy a o (mW cy b [] M) V f) := by
  obtain ⟨hcs1, hcs2⟩ := hcs
  refine x_aload_n (i := 1) C dL_law_636 rfl rfl ?_
  refine x_arg (k := 1) C hX hbl hbA hL ht (by decide) (by decide) rfl rfl dL_law_637 dL_law_638 dL_law_640 dL_law_641 dL_law_642 ?_
  refine x_arg (k := 2) C hX hbl hbA hL ht (by decide) (by decide) rfl rfl dL_law_643 dL_law_644 dL_law_646 dL_law_647 dL_law_648 ?_
  refine x_arg (k := 3) C hX hbl hbA hL ht (by decide) (by decide) rfl rfl dL_law_649 dL_law_650 dL_law_652 dL_law_653 dL_law_654 ?_
  refine x_callSWi (As := [.ref (a 0), .int (sc (6 * t + 1)), .int (sc (6 * t + 2)), .int (sc (6 * t + 3))]) C hE (k_L_setWindow l hfl D cy a o A (mW cy b [] M) V f (sc (6 * t + 1)) (sc (6 * t + 2)) (sc (6 * t + 3)) (toI10 (N := 10) h.1.1 h.1.2.2.1 (by decide)) (ex_in3 (ex_window h (sc (6 * t + 1)) (sc (6 * t + 2)) (sc (6 * t + 3))))) (vx_cwSW 4 C.2.2.2.2.1 gL_law_L_setWindow rfl rfl rfl (by decide +kernel) ⟨Nat.le_of_ble_eq_true rfl, Nat.le_of_ble_eq_true rfl⟩) rfl rfl (Nat.le_of_ble_eq_true rfl) dL_law_655 ⟨by show cells + 3 ≤ 655756; omega, by show slots + 18 ≤ 7128835; omega⟩ (fun r5 u1 h1 => ?_)
  have g1 := ag_3V n_IOIA (ex_window h (sc (6 * t + 1)) (sc (6 * t + 2)) (sc (6 * t + 3))) h1
  refine x_istore (i := 5) C dL_law_658 (by decide) ?_
  refine x_toM ?_
  refine x_aload_n (i := 2) C dL_law_660 rfl rfl ?_
  refine x_arg (k := 1) C hX hbl hbA hL ht (by decide) (by decide) rfl rfl dL_law_661 dL_law_662 dL_law_664 dL_law_665 dL_law_666 ?_
  refine x_arg (k := 2) C hX hbl hbA hL ht (by decide) (by decide) rfl rfl dL_law_667 dL_law_668 dL_law_670 dL_law_671 dL_law_672 ?_
  refine x_arg (k := 3) C hX hbl hbA hL ht (by decide) (by decide) rfl rfl dL_law_673 dL_law_674 dL_law_676 dL_law_677 dL_law_678 ?_
  refine x_callVv (As := [.int (sc (6 * t + 1)), .int (sc (6 * t + 2)), .int (sc (6 * t + 3))]) C hE (k_X4_setWindow l D cy b A (oW cy a o [] u1.1 u1.2) M (sc (6 * t + 1)) (sc (6 * t + 2)) (sc (6 * t + 3)) h.1.2.1 h.1.2.2.1) (cwV 3 C.2.2.2.2.1 gL_law_X4_setWindow rfl rfl rfl (by decide +kernel) ⟨Nat.le_of_ble_eq_true rfl, Nat.le_of_ble_eq_true rfl⟩) 0 (mW_M cy b _ _) rfl rfl rfl rfl (Nat.le_of_ble_eq_true rfl) dL_law_679 ⟨by show cells + 3 + 0 ≤ 655756; omega, by show slots + 18 + 0 ≤ 7128835; omega⟩ (fun w2 h2 => ?_)
  obtain ⟨n', m', k', hj, hk', hw⟩ := fin_genV h g1 h2 (fun hc => sem_window h hc)
  exact law_tailV C hE ⟨by omega, by omega⟩ hw (by decide) dL_law_682 dL_law_683 dL_law_686 dL_law_688 dL_law_693 (x_widen (k := cells + 6) (n := slots + 36) (by omega) (by omega) (kk _ _ _ n' m' k' hj hk'))
set_option maxHeartbeats 4000000 in
set_option maxRecDepth 100000 in
theorem law_c_report (hfl : l.stackTraces = false) (C : xC p s m #[Value.ref sb] meth c cL_law 7 RL wsL_law D (tyC cy) A ret) (hE : xE A s) (hX : va_X sb L sc s s.heap) (hbl : sb < s.heap.size) (hbA : ¬ A sb) (hL : L ≤ 3072) (ht : 6 * t + 5 < L) (hcs : cells + 6 ≤ 655756 ∧ slots + 36 ≤ 7128835) (h : jJ V M n9 m9 k9) (hk : k9 + 100 ≤ 60000)
    (kk : ∀ (V' M' : XV) (f' : Nat → Int64) (n' m' k' : Nat), jJ V' M' n' m' k' → k' ≤ k9 + 100 → xA p l e room_1 s m #[Value.ref sb] below meth c D A 7 (cells + 6) (slots + 36) Q 1599 (llv a b o sb t) [] (oW cy a o (mW cy b [] M') V' f')) : xA p l e room_1 s m #[Value.ref sb] below meth c D A 7 cells slots Q 696 (llv a b o sb t) [] (oW cy a o (mW cy b [] M) V f) := by
  obtain ⟨hcs1, hcs2⟩ := hcs
  refine x_aload_n (i := 1) C dL_law_696 rfl rfl ?_
  refine x_arg (k := 1) C hX hbl hbA hL ht (by decide) (by decide) rfl rfl dL_law_697 dL_law_698 dL_law_700 dL_law_701 dL_law_702 ?_
  refine x_arg (k := 2) C hX hbl hbA hL ht (by decide) (by decide) rfl rfl dL_law_703 dL_law_704 dL_law_706 dL_law_707 dL_law_708 ?_
  refine x_nz C dL_law_709 dL_law_712 dL_law_713 dL_law_716 ?_
  refine x_aload_n (i := 3) C dL_law_717 rfl rfl ?_
  refine x_callSWi (As := [.ref (a 0), .int (sc (6 * t + 1)), .int (if sc (6 * t + 2) = 0 then 0 else 1), .ref o]) C hE (k_L_report l hfl D cy a o A (mW cy b [] M) V f (sc (6 * t + 1)) (if sc (6 * t + 2) = 0 then 0 else 1) (toI10 (N := 10) h.1.1 h.1.2.2.1 (by decide)) (toI10 (N := 6) h.1.2.2.2.1 h.1.2.2.2.2.2.1 (by decide)) (ex_in3 (ex_report h (sc (6 * t + 1))))) (vx_cwSW 4 C.2.2.2.2.1 gL_law_L_report rfl rfl rfl (by decide +kernel) ⟨Nat.le_of_ble_eq_true rfl, Nat.le_of_ble_eq_true rfl⟩) rfl rfl (Nat.le_of_ble_eq_true rfl) dL_law_718 ⟨by show cells + 3 ≤ 655756; omega, by show slots + 18 ≤ 7128835; omega⟩ (fun r5 u1 h1 => ?_)
  have g1 := ag_3 n_IOIS (ex_report h (sc (6 * t + 1))) h1
  refine x_istore (i := 5) C dL_law_721 (by decide) ?_
  refine x_toM ?_
  refine x_aload_n (i := 2) C dL_law_723 rfl rfl ?_
  refine x_arg (k := 1) C hX hbl hbA hL ht (by decide) (by decide) rfl rfl dL_law_724 dL_law_725 dL_law_727 dL_law_728 dL_law_729 ?_
  refine x_arg (k := 2) C hX hbl hbA hL ht (by decide) (by decide) rfl rfl dL_law_730 dL_law_731 dL_law_733 dL_law_734 dL_law_735 ?_
  refine x_nz C dL_law_736 dL_law_739 dL_law_740 dL_law_743 ?_
  refine x_callVi (As := [.int (sc (6 * t + 1)), .int (if sc (6 * t + 2) = 0 then 0 else 1)]) C hE (k_X4_report l D cy b A (oW cy a o [] u1.1 u1.2) M (sc (6 * t + 1)) (if sc (6 * t + 2) = 0 then 0 else 1) h.1.2.1 h.1.2.2.1 (rep_T h (sc (6 * t + 1)))) (cwV 2 C.2.2.2.2.1 gL_law_X4_report rfl rfl rfl (by decide +kernel) ⟨Nat.le_of_ble_eq_true rfl, Nat.le_of_ble_eq_true rfl⟩) 0 (mW_M cy b _ _) rfl rfl rfl rfl (Nat.le_of_ble_eq_true rfl) dL_law_744 ⟨by show cells + 3 + 0 ≤ 655756; omega, by show slots + 18 + 0 ≤ 7128835; omega⟩ (fun r6 w2 h2 => ?_)
  refine x_istore (i := 6) C dL_law_747 (by decide) ?_
  obtain ⟨n', m', k', hj, hk', hw, hv⟩ := fin_gen h g1 h2 (fun hc => sem_report h hc)
  exact law_tail C hE ⟨by omega, by omega⟩ hw hv (by decide) dL_law_749 dL_law_750 dL_law_753 dL_law_755 dL_law_760 dL_law_762 dL_law_765 dL_law_766 dL_law_767 dL_law_768 dL_law_770 dL_law_771 dL_law_772 dL_law_777 (x_widen (k := cells + 6) (n := slots + 36) (by omega) (by omega) (kk _ _ _ n' m' k' hj hk'))
set_option maxHeartbeats 4000000 in
set_option maxRecDepth 100000 in
theorem law_c_devices (hfl : l.stackTraces = false) (C : xC p s m #[Value.ref sb] meth c cL_law 7 RL wsL_law D (tyC cy) A ret) (hE : xE A s) (hX : va_X sb L sc s s.heap) (hbl : sb < s.heap.size) (hbA : ¬ A sb) (hL : L ≤ 3072) (ht : 6 * t + 5 < L) (hcs : cells + 6 ≤ 655756 ∧ slots + 36 ≤ 7128835) (h : jJ V M n9 m9 k9) (hk : k9 + 100 ≤ 60000)
    (kk : ∀ (V' M' : XV) (f' : Nat → Int64) (n' m' k' : Nat), jJ V' M' n' m' k' → k' ≤ k9 + 100 → xA p l e room_1 s m #[Value.ref sb] below meth c D A 7 (cells + 6) (slots + 36) Q 1599 (llv a b o sb t) [] (oW cy a o (mW cy b [] M') V' f')) : xA p l e room_1 s m #[Value.ref sb] below meth c D A 7 cells slots Q 780 (llv a b o sb t) [] (oW cy a o (mW cy b [] M) V f) := by
  obtain ⟨hcs1, hcs2⟩ := hcs
  refine x_aload_n (i := 1) C dL_law_780 rfl rfl ?_
  refine x_ws (show oW cy a o (mW cy b [] M) V f = cW cy a ((o, outF cy f) :: mW cy b [] M) V from rfl) ?_
  refine x_callVi C hE (k_X3_devices l D cy a A _ V) (cwV 0 C.2.2.2.2.1 gL_law_X3_devices rfl rfl rfl (by decide +kernel) ⟨Nat.le_of_ble_eq_true rfl, Nat.le_of_ble_eq_true rfl⟩) 0 (cW_R cy a _ _) rfl rfl rfl rfl (Nat.le_of_ble_eq_true rfl) dL_law_781 ⟨by show cells + 0 ≤ 655756; omega, by show slots + 0 ≤ 7128835; omega⟩ (fun r1 u1 h1 => ?_)
  obtain ⟨h1, h2⟩ := h1
  rw [h1, h2]
  refine x_ws (show cW cy a ((o, outF cy f) :: mW cy b [] M) V = oW cy a o (mW cy b [] M) V f from rfl) ?_
  refine x_toM ?_
  refine x_aload_n (i := 2) C dL_law_784 rfl rfl ?_
  refine x_callVi C hE (k_X4_devices l D cy b A (oW cy a o [] V f) M) (cwV 0 C.2.2.2.2.1 gL_law_X4_devices rfl rfl rfl (by decide +kernel) ⟨Nat.le_of_ble_eq_true rfl, Nat.le_of_ble_eq_true rfl⟩) 0 (mW_M cy b _ _) rfl rfl rfl rfl (Nat.le_of_ble_eq_true rfl) dL_law_785 ⟨by show cells + 0 + 0 ≤ 655756; omega, by show slots + 0 + 0 ≤ 7128835; omega⟩ (fun r2 u2 h2 => ?_)
  obtain ⟨h3, h4⟩ := h2
  rw [h3, h4]
  refine x_toO ?_
  refine x_icmp_eq C 1599 dL_law_788 (by decide) (fun _ => ?_) (fun q => absurd (h.1.1.trans h.1.2.1.symm) q)
  exact x_widen (k := cells + 6) (n := slots + 36) (by omega) (by omega) (kk _ _ _ n9 m9 k9 (jJ_0 0 h) (by omega))
set_option maxHeartbeats 4000000 in
set_option maxRecDepth 100000 in
theorem law_c_state (hfl : l.stackTraces = false) (C : xC p s m #[Value.ref sb] meth c cL_law 7 RL wsL_law D (tyC cy) A ret) (hE : xE A s) (hX : va_X sb L sc s s.heap) (hbl : sb < s.heap.size) (hbA : ¬ A sb) (hL : L ≤ 3072) (ht : 6 * t + 5 < L) (hcs : cells + 6 ≤ 655756 ∧ slots + 36 ≤ 7128835) (h : jJ V M n9 m9 k9) (hk : k9 + 100 ≤ 60000)
    (kk : ∀ (V' M' : XV) (f' : Nat → Int64) (n' m' k' : Nat), jJ V' M' n' m' k' → k' ≤ k9 + 100 → xA p l e room_1 s m #[Value.ref sb] below meth c D A 7 (cells + 6) (slots + 36) Q 1599 (llv a b o sb t) [] (oW cy a o (mW cy b [] M') V' f')) : xA p l e room_1 s m #[Value.ref sb] below meth c D A 7 cells slots Q 793 (llv a b o sb t) [] (oW cy a o (mW cy b [] M) V f) := by
  obtain ⟨hcs1, hcs2⟩ := hcs
  refine x_aload_n (i := 1) C dL_law_793 rfl rfl ?_
  refine x_arg (k := 1) C hX hbl hbA hL ht (by decide) (by decide) rfl rfl dL_law_794 dL_law_795 dL_law_797 dL_law_798 dL_law_799 ?_
  refine x_aload_n (i := 3) C dL_law_800 rfl rfl ?_
  refine x_callSWi (As := [.ref (a 0), .int (sc (6 * t + 1)), .ref o]) C hE (k_L_state l hfl D cy a o A (mW cy b [] M) V f (sc (6 * t + 1)) (toI10 (N := 10) h.1.1 h.1.2.2.1 (by decide)) (ex_in2 (ex2_dev h (sc (6 * t + 1))))) (vx_cwSW 3 C.2.2.2.2.1 gL_law_L_state rfl rfl rfl (by decide +kernel) ⟨Nat.le_of_ble_eq_true rfl, Nat.le_of_ble_eq_true rfl⟩) rfl rfl (Nat.le_of_ble_eq_true rfl) dL_law_801 ⟨by show cells + 1 ≤ 655756; omega, by show slots + 6 ≤ 7128835; omega⟩ (fun r5 u1 h1 => ?_)
  have g1 := ag_2 (ex2_dev h (sc (6 * t + 1))) h1
  refine x_istore (i := 5) C dL_law_804 (by decide) ?_
  refine x_toM ?_
  refine x_aload_n (i := 2) C dL_law_806 rfl rfl ?_
  refine x_arg (k := 1) C hX hbl hbA hL ht (by decide) (by decide) rfl rfl dL_law_807 dL_law_808 dL_law_810 dL_law_811 dL_law_812 ?_
  refine x_callVi (As := [.int (sc (6 * t + 1))]) C hE (k_X4_state l D cy b A (oW cy a o [] u1.1 u1.2) M (sc (6 * t + 1)) h.1.2.1 h.1.2.2.1) (cwV 1 C.2.2.2.2.1 gL_law_X4_state rfl rfl rfl (by decide +kernel) ⟨Nat.le_of_ble_eq_true rfl, Nat.le_of_ble_eq_true rfl⟩) 0 (mW_M cy b _ _) rfl rfl rfl rfl (Nat.le_of_ble_eq_true rfl) dL_law_813 ⟨by show cells + 1 + 0 ≤ 655756; omega, by show slots + 6 + 0 ≤ 7128835; omega⟩ (fun r6 w2 h2 => ?_)
  refine x_istore (i := 6) C dL_law_816 (by decide) ?_
  obtain ⟨n', m', k', hj, hk', hw, hv⟩ := fin_gen h g1 h2 (fun hc => sem_state h hc)
  exact law_tail C hE ⟨by omega, by omega⟩ hw hv (by decide) dL_law_818 dL_law_819 dL_law_822 dL_law_824 dL_law_829 dL_law_831 dL_law_834 dL_law_835 dL_law_836 dL_law_837 dL_law_839 dL_law_840 dL_law_841 dL_law_846 (x_widen (k := cells + 6) (n := slots + 36) (by omega) (by omega) (kk _ _ _ n' m' k' hj hk'))
set_option maxHeartbeats 4000000 in
set_option maxRecDepth 100000 in
theorem law_c_version (hfl : l.stackTraces = false) (C : xC p s m #[Value.ref sb] meth c cL_law 7 RL wsL_law D (tyC cy) A ret) (hE : xE A s) (hX : va_X sb L sc s s.heap) (hbl : sb < s.heap.size) (hbA : ¬ A sb) (hL : L ≤ 3072) (ht : 6 * t + 5 < L) (hcs : cells + 6 ≤ 655756 ∧ slots + 36 ≤ 7128835) (h : jJ V M n9 m9 k9) (hk : k9 + 100 ≤ 60000)
    (kk : ∀ (V' M' : XV) (f' : Nat → Int64) (n' m' k' : Nat), jJ V' M' n' m' k' → k' ≤ k9 + 100 → xA p l e room_1 s m #[Value.ref sb] below meth c D A 7 (cells + 6) (slots + 36) Q 1599 (llv a b o sb t) [] (oW cy a o (mW cy b [] M') V' f')) : xA p l e room_1 s m #[Value.ref sb] below meth c D A 7 cells slots Q 849 (llv a b o sb t) [] (oW cy a o (mW cy b [] M) V f) := by
  obtain ⟨hcs1, hcs2⟩ := hcs
  refine x_aload_n (i := 1) C dL_law_849 rfl rfl ?_
  refine x_arg (k := 1) C hX hbl hbA hL ht (by decide) (by decide) rfl rfl dL_law_850 dL_law_851 dL_law_853 dL_law_854 dL_law_855 ?_
  refine x_aload_n (i := 3) C dL_law_856 rfl rfl ?_
  refine x_callSWi (As := [.ref (a 0), .int (sc (6 * t + 1)), .ref o]) C hE (k_L_version l hfl D cy a o A (mW cy b [] M) V f (sc (6 * t + 1)) (toI10 (N := 10) h.1.1 h.1.2.2.1 (by decide)) (ex_in2 (ex2_dev h (sc (6 * t + 1))))) (vx_cwSW 3 C.2.2.2.2.1 gL_law_L_version rfl rfl rfl (by decide +kernel) ⟨Nat.le_of_ble_eq_true rfl, Nat.le_of_ble_eq_true rfl⟩) rfl rfl (Nat.le_of_ble_eq_true rfl) dL_law_857 ⟨by show cells + 1 ≤ 655756; omega, by show slots + 6 ≤ 7128835; omega⟩ (fun r5 u1 h1 => ?_)
  have g1 := ag_2 (ex2_dev h (sc (6 * t + 1))) h1
  refine x_istore (i := 5) C dL_law_860 (by decide) ?_
  refine x_toM ?_
  refine x_aload_n (i := 2) C dL_law_862 rfl rfl ?_
  refine x_arg (k := 1) C hX hbl hbA hL ht (by decide) (by decide) rfl rfl dL_law_863 dL_law_864 dL_law_866 dL_law_867 dL_law_868 ?_
  refine x_callVi (As := [.int (sc (6 * t + 1))]) C hE (k_X4_version l D cy b A (oW cy a o [] u1.1 u1.2) M (sc (6 * t + 1)) h.1.2.1 h.1.2.2.1) (cwV 1 C.2.2.2.2.1 gL_law_X4_version rfl rfl rfl (by decide +kernel) ⟨Nat.le_of_ble_eq_true rfl, Nat.le_of_ble_eq_true rfl⟩) 0 (mW_M cy b _ _) rfl rfl rfl rfl (Nat.le_of_ble_eq_true rfl) dL_law_869 ⟨by show cells + 1 + 0 ≤ 655756; omega, by show slots + 6 + 0 ≤ 7128835; omega⟩ (fun r6 w2 h2 => ?_)
  refine x_istore (i := 6) C dL_law_872 (by decide) ?_
  obtain ⟨n', m', k', hj, hk', hw, hv⟩ := fin_gen h g1 h2 (fun hc => sem_version h hc)
  exact law_tail C hE ⟨by omega, by omega⟩ hw hv (by decide) dL_law_874 dL_law_875 dL_law_878 dL_law_880 dL_law_885 dL_law_887 dL_law_890 dL_law_891 dL_law_892 dL_law_893 dL_law_895 dL_law_896 dL_law_897 dL_law_902 (x_widen (k := cells + 6) (n := slots + 36) (by omega) (by omega) (kk _ _ _ n' m' k' hj hk'))
set_option maxHeartbeats 4000000 in
set_option maxRecDepth 100000 in
theorem law_c_campaignOf (hfl : l.stackTraces = false) (C : xC p s m #[Value.ref sb] meth c cL_law 7 RL wsL_law D (tyC cy) A ret) (hE : xE A s) (hX : va_X sb L sc s s.heap) (hbl : sb < s.heap.size) (hbA : ¬ A sb) (hL : L ≤ 3072) (ht : 6 * t + 5 < L) (hcs : cells + 6 ≤ 655756 ∧ slots + 36 ≤ 7128835) (h : jJ V M n9 m9 k9) (hk : k9 + 100 ≤ 60000)
    (kk : ∀ (V' M' : XV) (f' : Nat → Int64) (n' m' k' : Nat), jJ V' M' n' m' k' → k' ≤ k9 + 100 → xA p l e room_1 s m #[Value.ref sb] below meth c D A 7 (cells + 6) (slots + 36) Q 1599 (llv a b o sb t) [] (oW cy a o (mW cy b [] M') V' f')) : xA p l e room_1 s m #[Value.ref sb] below meth c D A 7 cells slots Q 905 (llv a b o sb t) [] (oW cy a o (mW cy b [] M) V f) := by
  obtain ⟨hcs1, hcs2⟩ := hcs
  refine x_aload_n (i := 1) C dL_law_905 rfl rfl ?_
  refine x_arg (k := 1) C hX hbl hbA hL ht (by decide) (by decide) rfl rfl dL_law_906 dL_law_907 dL_law_909 dL_law_910 dL_law_911 ?_
  refine x_aload_n (i := 3) C dL_law_912 rfl rfl ?_
  refine x_callSWi (As := [.ref (a 0), .int (sc (6 * t + 1)), .ref o]) C hE (k_L_campaignOf l hfl D cy a o A (mW cy b [] M) V f (sc (6 * t + 1)) (toI10 (N := 10) h.1.1 h.1.2.2.1 (by decide)) (ex_in2 (ex2_dev h (sc (6 * t + 1))))) (vx_cwSW 3 C.2.2.2.2.1 gL_law_L_campaignOf rfl rfl rfl (by decide +kernel) ⟨Nat.le_of_ble_eq_true rfl, Nat.le_of_ble_eq_true rfl⟩) rfl rfl (Nat.le_of_ble_eq_true rfl) dL_law_913 ⟨by show cells + 1 ≤ 655756; omega, by show slots + 6 ≤ 7128835; omega⟩ (fun r5 u1 h1 => ?_)
  have g1 := ag_2 (ex2_dev h (sc (6 * t + 1))) h1
  refine x_istore (i := 5) C dL_law_916 (by decide) ?_
  refine x_toM ?_
  refine x_aload_n (i := 2) C dL_law_918 rfl rfl ?_
  refine x_arg (k := 1) C hX hbl hbA hL ht (by decide) (by decide) rfl rfl dL_law_919 dL_law_920 dL_law_922 dL_law_923 dL_law_924 ?_
  refine x_callVi (As := [.int (sc (6 * t + 1))]) C hE (k_X4_campaignOf l D cy b A (oW cy a o [] u1.1 u1.2) M (sc (6 * t + 1)) h.1.2.1 h.1.2.2.1) (cwV 1 C.2.2.2.2.1 gL_law_X4_campaignOf rfl rfl rfl (by decide +kernel) ⟨Nat.le_of_ble_eq_true rfl, Nat.le_of_ble_eq_true rfl⟩) 0 (mW_M cy b _ _) rfl rfl rfl rfl (Nat.le_of_ble_eq_true rfl) dL_law_925 ⟨by show cells + 1 + 0 ≤ 655756; omega, by show slots + 6 + 0 ≤ 7128835; omega⟩ (fun r6 w2 h2 => ?_)
  refine x_istore (i := 6) C dL_law_928 (by decide) ?_
  obtain ⟨n', m', k', hj, hk', hw, hv⟩ := fin_gen h g1 h2 (fun hc => sem_campaignOf h hc)
  exact law_tail C hE ⟨by omega, by omega⟩ hw hv (by decide) dL_law_930 dL_law_931 dL_law_934 dL_law_936 dL_law_941 dL_law_943 dL_law_946 dL_law_947 dL_law_948 dL_law_949 dL_law_951 dL_law_952 dL_law_953 dL_law_958 (x_widen (k := cells + 6) (n := slots + 36) (by omega) (by omega) (kk _ _ _ n' m' k' hj hk'))
set_option maxHeartbeats 4000000 in
set_option maxRecDepth 100000 in
theorem law_c_toGo (hfl : l.stackTraces = false) (C : xC p s m #[Value.ref sb] meth c cL_law 7 RL wsL_law D (tyC cy) A ret) (hE : xE A s) (hX : va_X sb L sc s s.heap) (hbl : sb < s.heap.size) (hbA : ¬ A sb) (hL : L ≤ 3072) (ht : 6 * t + 5 < L) (hcs : cells + 6 ≤ 655756 ∧ slots + 36 ≤ 7128835) (h : jJ V M n9 m9 k9) (hk : k9 + 100 ≤ 60000)
    (kk : ∀ (V' M' : XV) (f' : Nat → Int64) (n' m' k' : Nat), jJ V' M' n' m' k' → k' ≤ k9 + 100 → xA p l e room_1 s m #[Value.ref sb] below meth c D A 7 (cells + 6) (slots + 36) Q 1599 (llv a b o sb t) [] (oW cy a o (mW cy b [] M') V' f')) : xA p l e room_1 s m #[Value.ref sb] below meth c D A 7 cells slots Q 961 (llv a b o sb t) [] (oW cy a o (mW cy b [] M) V f) := by
  obtain ⟨hcs1, hcs2⟩ := hcs
  refine x_aload_n (i := 1) C dL_law_961 rfl rfl ?_
  refine x_arg (k := 1) C hX hbl hbA hL ht (by decide) (by decide) rfl rfl dL_law_962 dL_law_963 dL_law_965 dL_law_966 dL_law_967 ?_
  refine x_aload_n (i := 3) C dL_law_968 rfl rfl ?_
  refine x_callSWi (As := [.ref (a 0), .int (sc (6 * t + 1)), .ref o]) C hE (k_L_toGo l hfl D cy a o A (mW cy b [] M) V f (sc (6 * t + 1)) (toI10 (N := 10) h.1.1 h.1.2.2.1 (by decide)) (ex_in2 (ex2_dev h (sc (6 * t + 1))))) (vx_cwSW 3 C.2.2.2.2.1 gL_law_L_toGo rfl rfl rfl (by decide +kernel) ⟨Nat.le_of_ble_eq_true rfl, Nat.le_of_ble_eq_true rfl⟩) rfl rfl (Nat.le_of_ble_eq_true rfl) dL_law_969 ⟨by show cells + 1 ≤ 655756; omega, by show slots + 6 ≤ 7128835; omega⟩ (fun r5 u1 h1 => ?_)
  have g1 := ag_2 (ex2_dev h (sc (6 * t + 1))) h1
  refine x_istore (i := 5) C dL_law_972 (by decide) ?_
  refine x_toM ?_
  refine x_aload_n (i := 2) C dL_law_974 rfl rfl ?_
  refine x_arg (k := 1) C hX hbl hbA hL ht (by decide) (by decide) rfl rfl dL_law_975 dL_law_976 dL_law_978 dL_law_979 dL_law_980 ?_
  refine x_callVi (As := [.int (sc (6 * t + 1))]) C hE (k_X4_toGo l D cy b A (oW cy a o [] u1.1 u1.2) M (sc (6 * t + 1)) h.1.2.1 h.1.2.2.1) (cwV 1 C.2.2.2.2.1 gL_law_X4_toGo rfl rfl rfl (by decide +kernel) ⟨Nat.le_of_ble_eq_true rfl, Nat.le_of_ble_eq_true rfl⟩) 0 (mW_M cy b _ _) rfl rfl rfl rfl (Nat.le_of_ble_eq_true rfl) dL_law_981 ⟨by show cells + 1 + 0 ≤ 655756; omega, by show slots + 6 + 0 ≤ 7128835; omega⟩ (fun r6 w2 h2 => ?_)
  refine x_istore (i := 6) C dL_law_984 (by decide) ?_
  obtain ⟨n', m', k', hj, hk', hw, hv⟩ := fin_gen h g1 h2 (fun hc => sem_toGo h hc)
  exact law_tail C hE ⟨by omega, by omega⟩ hw hv (by decide) dL_law_986 dL_law_987 dL_law_990 dL_law_992 dL_law_997 dL_law_999 dL_law_1002 dL_law_1003 dL_law_1004 dL_law_1005 dL_law_1007 dL_law_1008 dL_law_1009 dL_law_1014 (x_widen (k := cells + 6) (n := slots + 36) (by omega) (by omega) (kk _ _ _ n' m' k' hj hk'))
set_option maxHeartbeats 4000000 in
set_option maxRecDepth 100000 in
theorem law_c_battery (hfl : l.stackTraces = false) (C : xC p s m #[Value.ref sb] meth c cL_law 7 RL wsL_law D (tyC cy) A ret) (hE : xE A s) (hX : va_X sb L sc s s.heap) (hbl : sb < s.heap.size) (hbA : ¬ A sb) (hL : L ≤ 3072) (ht : 6 * t + 5 < L) (hcs : cells + 6 ≤ 655756 ∧ slots + 36 ≤ 7128835) (h : jJ V M n9 m9 k9) (hk : k9 + 100 ≤ 60000)
    (kk : ∀ (V' M' : XV) (f' : Nat → Int64) (n' m' k' : Nat), jJ V' M' n' m' k' → k' ≤ k9 + 100 → xA p l e room_1 s m #[Value.ref sb] below meth c D A 7 (cells + 6) (slots + 36) Q 1599 (llv a b o sb t) [] (oW cy a o (mW cy b [] M') V' f')) : xA p l e room_1 s m #[Value.ref sb] below meth c D A 7 cells slots Q 1017 (llv a b o sb t) [] (oW cy a o (mW cy b [] M) V f) := by
  obtain ⟨hcs1, hcs2⟩ := hcs
  refine x_aload_n (i := 1) C dL_law_1017 rfl rfl ?_
  refine x_arg (k := 1) C hX hbl hbA hL ht (by decide) (by decide) rfl rfl dL_law_1018 dL_law_1019 dL_law_1021 dL_law_1022 dL_law_1023 ?_
  refine x_aload_n (i := 3) C dL_law_1024 rfl rfl ?_
  refine x_callSWi (As := [.ref (a 0), .int (sc (6 * t + 1)), .ref o]) C hE (k_L_battery l hfl D cy a o A (mW cy b [] M) V f (sc (6 * t + 1)) (toI10 (N := 10) h.1.1 h.1.2.2.1 (by decide)) (ex_in2 (ex2_dev h (sc (6 * t + 1))))) (vx_cwSW 3 C.2.2.2.2.1 gL_law_L_battery rfl rfl rfl (by decide +kernel) ⟨Nat.le_of_ble_eq_true rfl, Nat.le_of_ble_eq_true rfl⟩) rfl rfl (Nat.le_of_ble_eq_true rfl) dL_law_1025 ⟨by show cells + 1 ≤ 655756; omega, by show slots + 6 ≤ 7128835; omega⟩ (fun r5 u1 h1 => ?_)
  have g1 := ag_2 (ex2_dev h (sc (6 * t + 1))) h1
  refine x_istore (i := 5) C dL_law_1028 (by decide) ?_
  refine x_toM ?_
  refine x_aload_n (i := 2) C dL_law_1030 rfl rfl ?_
  refine x_arg (k := 1) C hX hbl hbA hL ht (by decide) (by decide) rfl rfl dL_law_1031 dL_law_1032 dL_law_1034 dL_law_1035 dL_law_1036 ?_
  refine x_callVi (As := [.int (sc (6 * t + 1))]) C hE (k_X4_battery l D cy b A (oW cy a o [] u1.1 u1.2) M (sc (6 * t + 1)) h.1.2.1 h.1.2.2.1) (cwV 1 C.2.2.2.2.1 gL_law_X4_battery rfl rfl rfl (by decide +kernel) ⟨Nat.le_of_ble_eq_true rfl, Nat.le_of_ble_eq_true rfl⟩) 0 (mW_M cy b _ _) rfl rfl rfl rfl (Nat.le_of_ble_eq_true rfl) dL_law_1037 ⟨by show cells + 1 + 0 ≤ 655756; omega, by show slots + 6 + 0 ≤ 7128835; omega⟩ (fun r6 w2 h2 => ?_)
  refine x_istore (i := 6) C dL_law_1040 (by decide) ?_
  obtain ⟨n', m', k', hj, hk', hw, hv⟩ := fin_gen h g1 h2 (fun hc => sem_battery h hc)
  exact law_tail C hE ⟨by omega, by omega⟩ hw hv (by decide) dL_law_1042 dL_law_1043 dL_law_1046 dL_law_1048 dL_law_1053 dL_law_1055 dL_law_1058 dL_law_1059 dL_law_1060 dL_law_1061 dL_law_1063 dL_law_1064 dL_law_1065 dL_law_1070 (x_widen (k := cells + 6) (n := slots + 36) (by omega) (by omega) (kk _ _ _ n' m' k' hj hk'))
set_option maxHeartbeats 4000000 in
set_option maxRecDepth 100000 in
theorem law_c_begin (hfl : l.stackTraces = false) (C : xC p s m #[Value.ref sb] meth c cL_law 7 RL wsL_law D (tyC cy) A ret) (hE : xE A s) (hX : va_X sb L sc s s.heap) (hbl : sb < s.heap.size) (hbA : ¬ A sb) (hL : L ≤ 3072) (ht : 6 * t + 5 < L) (hcs : cells + 6 ≤ 655756 ∧ slots + 36 ≤ 7128835) (h : jJ V M n9 m9 k9) (hk : k9 + 100 ≤ 60000)
    (kk : ∀ (V' M' : XV) (f' : Nat → Int64) (n' m' k' : Nat), jJ V' M' n' m' k' → k' ≤ k9 + 100 → xA p l e room_1 s m #[Value.ref sb] below meth c D A 7 (cells + 6) (slots + 36) Q 1599 (llv a b o sb t) [] (oW cy a o (mW cy b [] M') V' f')) : xA p l e room_1 s m #[Value.ref sb] below meth c D A 7 cells slots Q 1073 (llv a b o sb t) [] (oW cy a o (mW cy b [] M) V f) := by
  obtain ⟨hcs1, hcs2⟩ := hcs
  refine x_aload_n (i := 1) C dL_law_1073 rfl rfl ?_
  refine x_arg (k := 1) C hX hbl hbA hL ht (by decide) (by decide) rfl rfl dL_law_1074 dL_law_1075 dL_law_1077 dL_law_1078 dL_law_1079 ?_
  refine x_arg (k := 2) C hX hbl hbA hL ht (by decide) (by decide) rfl rfl dL_law_1080 dL_law_1081 dL_law_1083 dL_law_1084 dL_law_1085 ?_
  refine x_arg (k := 3) C hX hbl hbA hL ht (by decide) (by decide) rfl rfl dL_law_1086 dL_law_1087 dL_law_1089 dL_law_1090 dL_law_1091 ?_
  refine x_arg (k := 4) C hX hbl hbA hL ht (by decide) (by decide) rfl rfl dL_law_1092 dL_law_1093 dL_law_1095 dL_law_1096 dL_law_1097 ?_
  refine x_aload_n (i := 3) C dL_law_1098 rfl rfl ?_
  refine x_callSWi (As := [.ref (a 0), .int (sc (6 * t + 1)), .int (sc (6 * t + 2)), .int (sc (6 * t + 3)), .int (sc (6 * t + 4)), .ref o]) C hE (k_L_begin l hfl D cy a o A (mW cy b [] M) V f (sc (6 * t + 1)) (sc (6 * t + 2)) (sc (6 * t + 3)) (sc (6 * t + 4)) h.1.2.2.2.1 h.1.2.2.2.2.2.1 (ex_in4 (ex_begin h (sc (6 * t + 1)) (sc (6 * t + 2)) (sc (6 * t + 3)) (sc (6 * t + 4))))) (vx_cwSW 6 C.2.2.2.2.1 gL_law_L_begin rfl rfl rfl (by decide +kernel) ⟨Nat.le_of_ble_eq_true rfl, Nat.le_of_ble_eq_true rfl⟩) rfl rfl (Nat.le_of_ble_eq_true rfl) dL_law_1099 ⟨by show cells + 6 ≤ 655756; omega, by show slots + 36 ≤ 7128835; omega⟩ (fun r5 u1 h1 => ?_)
  have g1 := ag_4 (ex_begin h (sc (6 * t + 1)) (sc (6 * t + 2)) (sc (6 * t + 3)) (sc (6 * t + 4))) h1
  refine x_istore (i := 5) C dL_law_1102 (by decide) ?_
  refine x_toM ?_
  refine x_aload_n (i := 2) C dL_law_1104 rfl rfl ?_
  refine x_arg (k := 1) C hX hbl hbA hL ht (by decide) (by decide) rfl rfl dL_law_1105 dL_law_1106 dL_law_1108 dL_law_1109 dL_law_1110 ?_
  refine x_arg (k := 2) C hX hbl hbA hL ht (by decide) (by decide) rfl rfl dL_law_1111 dL_law_1112 dL_law_1114 dL_law_1115 dL_law_1116 ?_
  refine x_arg (k := 3) C hX hbl hbA hL ht (by decide) (by decide) rfl rfl dL_law_1117 dL_law_1118 dL_law_1120 dL_law_1121 dL_law_1122 ?_
  refine x_arg (k := 4) C hX hbl hbA hL ht (by decide) (by decide) rfl rfl dL_law_1123 dL_law_1124 dL_law_1126 dL_law_1127 dL_law_1128 ?_
  refine x_callVi (As := [.int (sc (6 * t + 1)), .int (sc (6 * t + 2)), .int (sc (6 * t + 3)), .int (sc (6 * t + 4))]) C hE (k_X4_begin l D cy b A (oW cy a o [] u1.1 u1.2) M (sc (6 * t + 1)) (sc (6 * t + 2)) (sc (6 * t + 3)) (sc (6 * t + 4)) h.1.2.2.2.2.1 h.1.2.2.2.2.2.1) (cwV 4 C.2.2.2.2.1 gL_law_X4_begin rfl rfl rfl (by decide +kernel) ⟨Nat.le_of_ble_eq_true rfl, Nat.le_of_ble_eq_true rfl⟩) 0 (mW_M cy b _ _) rfl rfl rfl rfl (Nat.le_of_ble_eq_true rfl) dL_law_1129 ⟨by show cells + 6 + 0 ≤ 655756; omega, by show slots + 36 + 0 ≤ 7128835; omega⟩ (fun r6 w2 h2 => ?_)
  refine x_istore (i := 6) C dL_law_1132 (by decide) ?_
  obtain ⟨n', m', k', hj, hk', hw, hv⟩ := fin_gen h g1 h2 (fun hc => sem_begin h hc)
  exact law_tail C hE ⟨by omega, by omega⟩ hw hv (by decide) dL_law_1134 dL_law_1135 dL_law_1138 dL_law_1140 dL_law_1145 dL_law_1147 dL_law_1150 dL_law_1151 dL_law_1152 dL_law_1153 dL_law_1155 dL_law_1156 dL_law_1157 dL_law_1162 (x_widen (k := cells + 6) (n := slots + 36) (by omega) (by omega) (kk _ _ _ n' m' k' hj hk'))
set_option maxHeartbeats 4000000 in
set_option maxRecDepth 100000 in
theorem law_c_setRules (hfl : l.stackTraces = false) (C : xC p s m #[Value.ref sb] meth c cL_law 7 RL wsL_law D (tyC cy) A ret) (hE : xE A s) (hX : va_X sb L sc s s.heap) (hbl : sb < s.heap.size) (hbA : ¬ A sb) (hL : L ≤ 3072) (ht : 6 * t + 5 < L) (hcs : cells + 6 ≤ 655756 ∧ slots + 36 ≤ 7128835) (h : jJ V M n9 m9 k9) (hk : k9 + 100 ≤ 60000)
    (kk : ∀ (V' M' : XV) (f' : Nat → Int64) (n' m' k' : Nat), jJ V' M' n' m' k' → k' ≤ k9 + 100 → xA p l e room_1 s m #[Value.ref sb] below meth c D A 7 (cells + 6) (slots + 36) Q 1599 (llv a b o sb t) [] (oW cy a o (mW cy b [] M') V' f')) : xA p l e room_1 s m #[Value.ref sb] below meth c D A 7 cells slots Q 1165 (llv a b o sb t) [] (oW cy a o (mW cy b [] M) V f) := by
  obtain ⟨hcs1, hcs2⟩ := hcs
  refine x_aload_n (i := 1) C dL_law_1165 rfl rfl ?_
  refine x_arg (k := 1) C hX hbl hbA hL ht (by decide) (by decide) rfl rfl dL_law_1166 dL_law_1167 dL_law_1169 dL_law_1170 dL_law_1171 ?_
  refine x_arg (k := 2) C hX hbl hbA hL ht (by decide) (by decide) rfl rfl dL_law_1172 dL_law_1173 dL_law_1175 dL_law_1176 dL_law_1177 ?_
  refine x_arg (k := 3) C hX hbl hbA hL ht (by decide) (by decide) rfl rfl dL_law_1178 dL_law_1179 dL_law_1181 dL_law_1182 dL_law_1183 ?_
  refine x_arg (k := 4) C hX hbl hbA hL ht (by decide) (by decide) rfl rfl dL_law_1184 dL_law_1185 dL_law_1187 dL_law_1188 dL_law_1189 ?_
  refine x_arg (k := 5) C hX hbl hbA hL ht (by decide) (by decide) rfl rfl dL_law_1190 dL_law_1191 dL_law_1193 dL_law_1194 dL_law_1195 ?_
  refine x_callSWi (As := [.ref (a 0), .int (sc (6 * t + 1)), .int (sc (6 * t + 2)), .int (sc (6 * t + 3)), .int (sc (6 * t + 4)), .int (sc (6 * t + 5))]) C hE (k_L_setRules l hfl D cy a o A (mW cy b [] M) V f (sc (6 * t + 1)) (sc (6 * t + 2)) (sc (6 * t + 3)) (sc (6 * t + 4)) (sc (6 * t + 5)) (toI10 (N := 6) h.1.2.2.2.1 h.1.2.2.2.2.2.1 (by decide)) (ex_in3 (ex_rules h (sc (6 * t + 1)) (sc (6 * t + 2)) (sc (6 * t + 3)) (sc (6 * t + 4)) (sc (6 * t + 5))))) (vx_cwSW 6 C.2.2.2.2.1 gL_law_L_setRules rfl rfl rfl (by decide +kernel) ⟨Nat.le_of_ble_eq_true rfl, Nat.le_of_ble_eq_true rfl⟩) rfl rfl (Nat.le_of_ble_eq_true rfl) dL_law_1196 ⟨by show cells + 5 ≤ 655756; omega, by show slots + 30 ≤ 7128835; omega⟩ (fun r5 u1 h1 => ?_)
  have g1 := ag_3V n_IOIA (ex_rules h (sc (6 * t + 1)) (sc (6 * t + 2)) (sc (6 * t + 3)) (sc (6 * t + 4)) (sc (6 * t + 5))) h1
  refine x_istore (i := 5) C dL_law_1199 (by decide) ?_
  refine x_toM ?_
  refine x_aload_n (i := 2) C dL_law_1201 rfl rfl ?_
  refine x_arg (k := 1) C hX hbl hbA hL ht (by decide) (by decide) rfl rfl dL_law_1202 dL_law_1203 dL_law_1205 dL_law_1206 dL_law_1207 ?_
  refine x_arg (k := 2) C hX hbl hbA hL ht (by decide) (by decide) rfl rfl dL_law_1208 dL_law_1209 dL_law_1211 dL_law_1212 dL_law_1213 ?_
  refine x_arg (k := 3) C hX hbl hbA hL ht (by decide) (by decide) rfl rfl dL_law_1214 dL_law_1215 dL_law_1217 dL_law_1218 dL_law_1219 ?_
  refine x_arg (k := 4) C hX hbl hbA hL ht (by decide) (by decide) rfl rfl dL_law_1220 dL_law_1221 dL_law_1223 dL_law_1224 dL_law_1225 ?_
  refine x_arg (k := 5) C hX hbl hbA hL ht (by decide) (by decide) rfl rfl dL_law_1226 dL_law_1227 dL_law_1229 dL_law_1230 dL_law_1231 ?_
  refine x_callVv (As := [.int (sc (6 * t + 1)), .int (sc (6 * t + 2)), .int (sc (6 * t + 3)), .int (sc (6 * t + 4)), .int (sc (6 * t + 5))]) C hE (k_X4_setRules l D cy b A (oW cy a o [] u1.1 u1.2) M (sc (6 * t + 1)) (sc (6 * t + 2)) (sc (6 * t + 3)) (sc (6 * t + 4)) (sc (6 * t + 5)) h.1.2.2.2.2.1 h.1.2.2.2.2.2.1) (cwV 5 C.2.2.2.2.1 gL_law_X4_setRules rfl rfl rfl (by decide +kernel) ⟨Nat.le_of_ble_eq_true rfl, Nat.le_of_ble_eq_true rfl⟩) 0 (mW_M cy b _ _) rfl rfl rfl rfl (Nat.le_of_ble_eq_true rfl) dL_law_1232 ⟨by show cells + 5 + 0 ≤ 655756; omega, by show slots + 30 + 0 ≤ 7128835; omega⟩ (fun w2 h2 => ?_)
  obtain ⟨n', m', k', hj, hk', hw⟩ := fin_genV h g1 h2 (fun hc => sem_rules h hc)
  exact law_tailV C hE ⟨by omega, by omega⟩ hw (by decide) dL_law_1235 dL_law_1236 dL_law_1239 dL_law_1241 dL_law_1246 (x_widen (k := cells + 6) (n := slots + 36) (by omega) (by omega) (kk _ _ _ n' m' k' hj hk'))
set_option maxHeartbeats 4000000 in
set_option maxRecDepth 100000 in
theorem law_c_toggle (hfl : l.stackTraces = false) (C : xC p s m #[Value.ref sb] meth c cL_law 7 RL wsL_law D (tyC cy) A ret) (hE : xE A s) (hX : va_X sb L sc s s.heap) (hbl : sb < s.heap.size) (hbA : ¬ A sb) (hL : L ≤ 3072) (ht : 6 * t + 5 < L) (hcs : cells + 6 ≤ 655756 ∧ slots + 36 ≤ 7128835) (h : jJ V M n9 m9 k9) (hk : k9 + 100 ≤ 60000)
    (kk : ∀ (V' M' : XV) (f' : Nat → Int64) (n' m' k' : Nat), jJ V' M' n' m' k' → k' ≤ k9 + 100 → xA p l e room_1 s m #[Value.ref sb] below meth c D A 7 (cells + 6) (slots + 36) Q 1599 (llv a b o sb t) [] (oW cy a o (mW cy b [] M') V' f')) : xA p l e room_1 s m #[Value.ref sb] below meth c D A 7 cells slots Q 1249 (llv a b o sb t) [] (oW cy a o (mW cy b [] M) V f) := by
  obtain ⟨hcs1, hcs2⟩ := hcs
  refine x_aload_n (i := 1) C dL_law_1249 rfl rfl ?_
  refine x_arg (k := 1) C hX hbl hbA hL ht (by decide) (by decide) rfl rfl dL_law_1250 dL_law_1251 dL_law_1253 dL_law_1254 dL_law_1255 ?_
  refine x_aload_n (i := 3) C dL_law_1256 rfl rfl ?_
  refine x_callSWi (As := [.ref (a 0), .int (sc (6 * t + 1)), .ref o]) C hE (k_L_toggle l hfl D cy a o A (mW cy b [] M) V f (sc (6 * t + 1)) (toI10 (N := 6) h.1.2.2.2.1 h.1.2.2.2.2.2.1 (by decide)) (fun _ => toggleV_01 V _) (ex_in2 (ex2_cam h (sc (6 * t + 1))))) (vx_cwSW 3 C.2.2.2.2.1 gL_law_L_toggle rfl rfl rfl (by decide +kernel) ⟨Nat.le_of_ble_eq_true rfl, Nat.le_of_ble_eq_true rfl⟩) rfl rfl (Nat.le_of_ble_eq_true rfl) dL_law_1257 ⟨by show cells + 1 ≤ 655756; omega, by show slots + 6 ≤ 7128835; omega⟩ (fun r5 u1 h1 => ?_)
  have g1 := ag_2 (ex2_cam h (sc (6 * t + 1))) h1
  refine x_istore (i := 5) C dL_law_1260 (by decide) ?_
  refine x_toM ?_
  refine x_aload_n (i := 2) C dL_law_1262 rfl rfl ?_
  refine x_arg (k := 1) C hX hbl hbA hL ht (by decide) (by decide) rfl rfl dL_law_1263 dL_law_1264 dL_law_1266 dL_law_1267 dL_law_1268 ?_
  refine x_callVi (As := [.int (sc (6 * t + 1))]) C hE (k_X4_toggle l D cy b A (oW cy a o [] u1.1 u1.2) M (sc (6 * t + 1)) h.1.2.2.2.2.1 h.1.2.2.2.2.2.1) (cwV 1 C.2.2.2.2.1 gL_law_X4_toggle rfl rfl rfl (by decide +kernel) ⟨Nat.le_of_ble_eq_true rfl, Nat.le_of_ble_eq_true rfl⟩) 0 (mW_M cy b _ _) rfl rfl rfl rfl (Nat.le_of_ble_eq_true rfl) dL_law_1269 ⟨by show cells + 1 + 0 ≤ 655756; omega, by show slots + 6 + 0 ≤ 7128835; omega⟩ (fun r6 w2 h2 => ?_)
  refine x_istore (i := 6) C dL_law_1272 (by decide) ?_
  have hz : r5 = 0 → r6 = 0 ∨ r6 = 1 := fun hz0 => by
    have hc : codeCam M (sc (6 * t + 1)) = 0 := g1.1 ▸ hz0
    rw [(h2.2 hc).1]; exact tog_01 h hc
  obtain ⟨n', m', k', hj, hk', hw, hv⟩ := fin_gen h g1 h2 (fun hc => sem_toggle h hc)
  exact law_tailZ C hE ⟨by omega, by omega⟩ hw hv hz (by decide) dL_law_1274 dL_law_1275 dL_law_1278 dL_law_1280 dL_law_1285 dL_law_1287 dL_law_1290 dL_law_1291 dL_law_1292 dL_law_1293 dL_law_1295 dL_law_1298 dL_law_1299 dL_law_1302 dL_law_1303 dL_law_1304 dL_law_1309 (x_widen (k := cells + 6) (n := slots + 36) (by omega) (by omega) (kk _ _ _ n' m' k' hj hk'))
set_option maxHeartbeats 4000000 in
set_option maxRecDepth 100000 in
theorem law_c_isActive (hfl : l.stackTraces = false) (C : xC p s m #[Value.ref sb] meth c cL_law 7 RL wsL_law D (tyC cy) A ret) (hE : xE A s) (hX : va_X sb L sc s s.heap) (hbl : sb < s.heap.size) (hbA : ¬ A sb) (hL : L ≤ 3072) (ht : 6 * t + 5 < L) (hcs : cells + 6 ≤ 655756 ∧ slots + 36 ≤ 7128835) (h : jJ V M n9 m9 k9) (hk : k9 + 100 ≤ 60000)
    (kk : ∀ (V' M' : XV) (f' : Nat → Int64) (n' m' k' : Nat), jJ V' M' n' m' k' → k' ≤ k9 + 100 → xA p l e room_1 s m #[Value.ref sb] below meth c D A 7 (cells + 6) (slots + 36) Q 1599 (llv a b o sb t) [] (oW cy a o (mW cy b [] M') V' f')) : xA p l e room_1 s m #[Value.ref sb] below meth c D A 7 cells slots Q 1312 (llv a b o sb t) [] (oW cy a o (mW cy b [] M) V f) := by
  obtain ⟨hcs1, hcs2⟩ := hcs
  refine x_aload_n (i := 1) C dL_law_1312 rfl rfl ?_
  refine x_arg (k := 1) C hX hbl hbA hL ht (by decide) (by decide) rfl rfl dL_law_1313 dL_law_1314 dL_law_1316 dL_law_1317 dL_law_1318 ?_
  refine x_aload_n (i := 3) C dL_law_1319 rfl rfl ?_
  refine x_callSWi (As := [.ref (a 0), .int (sc (6 * t + 1)), .ref o]) C hE (k_L_isActive l hfl D cy a o A (mW cy b [] M) V f (sc (6 * t + 1)) (toI10 (N := 6) h.1.2.2.2.1 h.1.2.2.2.2.2.1 (by decide)) (act_all h) (fun hx => act_nc h hx) (ex_in2 (ex2_cam h (sc (6 * t + 1))))) (vx_cwSW 3 C.2.2.2.2.1 gL_law_L_isActive rfl rfl rfl (by decide +kernel) ⟨Nat.le_of_ble_eq_true rfl, Nat.le_of_ble_eq_true rfl⟩) rfl rfl (Nat.le_of_ble_eq_true rfl) dL_law_1320 ⟨by show cells + 1 ≤ 655756; omega, by show slots + 6 ≤ 7128835; omega⟩ (fun r5 u1 h1 => ?_)
  have g1 := ag_2 (ex2_cam h (sc (6 * t + 1))) h1
  refine x_istore (i := 5) C dL_law_1323 (by decide) ?_
  refine x_toM ?_
  refine x_aload_n (i := 2) C dL_law_1325 rfl rfl ?_
  refine x_arg (k := 1) C hX hbl hbA hL ht (by decide) (by decide) rfl rfl dL_law_1326 dL_law_1327 dL_law_1329 dL_law_1330 dL_law_1331 ?_
  refine x_callVi (As := [.int (sc (6 * t + 1))]) C hE (k_X4_isActive l D cy b A (oW cy a o [] u1.1 u1.2) M (sc (6 * t + 1)) h.1.2.2.2.2.1 h.1.2.2.2.2.2.1) (cwV 1 C.2.2.2.2.1 gL_law_X4_isActive rfl rfl rfl (by decide +kernel) ⟨Nat.le_of_ble_eq_true rfl, Nat.le_of_ble_eq_true rfl⟩) 0 (mW_M cy b _ _) rfl rfl rfl rfl (Nat.le_of_ble_eq_true rfl) dL_law_1332 ⟨by show cells + 1 + 0 ≤ 655756; omega, by show slots + 6 + 0 ≤ 7128835; omega⟩ (fun r6 w2 h2 => ?_)
  refine x_istore (i := 6) C dL_law_1335 (by decide) ?_
  have hz : r5 = 0 → r6 = 0 ∨ r6 = 1 := fun hz0 => by
    have hc : codeCam M (sc (6 * t + 1)) = 0 := g1.1 ▸ hz0
    rw [(h2.2 hc).1]; exact zz01 _
  obtain ⟨n', m', k', hj, hk', hw, hv⟩ := fin_gen h g1 h2 (fun hc => sem_isActive h hc)
  exact law_tailZ C hE ⟨by omega, by omega⟩ hw hv hz (by decide) dL_law_1337 dL_law_1338 dL_law_1341 dL_law_1343 dL_law_1348 dL_law_1350 dL_law_1353 dL_law_1354 dL_law_1355 dL_law_1356 dL_law_1358 dL_law_1361 dL_law_1362 dL_law_1365 dL_law_1366 dL_law_1367 dL_law_1372 (x_widen (k := cells + 6) (n := slots + 36) (by omega) (by omega) (kk _ _ _ n' m' k' hj hk'))
set_option maxHeartbeats 4000000 in
set_option maxRecDepth 100000 in
theorem law_c_ring (hfl : l.stackTraces = false) (C : xC p s m #[Value.ref sb] meth c cL_law 7 RL wsL_law D (tyC cy) A ret) (hE : xE A s) (hX : va_X sb L sc s s.heap) (hbl : sb < s.heap.size) (hbA : ¬ A sb) (hL : L ≤ 3072) (ht : 6 * t + 5 < L) (hcs : cells + 6 ≤ 655756 ∧ slots + 36 ≤ 7128835) (h : jJ V M n9 m9 k9) (hk : k9 + 100 ≤ 60000)
    (kk : ∀ (V' M' : XV) (f' : Nat → Int64) (n' m' k' : Nat), jJ V' M' n' m' k' → k' ≤ k9 + 100 → xA p l e room_1 s m #[Value.ref sb] below meth c D A 7 (cells + 6) (slots + 36) Q 1599 (llv a b o sb t) [] (oW cy a o (mW cy b [] M') V' f')) : xA p l e room_1 s m #[Value.ref sb] below meth c D A 7 cells slots Q 1375 (llv a b o sb t) [] (oW cy a o (mW cy b [] M) V f) := by
  obtain ⟨hcs1, hcs2⟩ := hcs
  refine x_aload_n (i := 1) C dL_law_1375 rfl rfl ?_
  refine x_arg (k := 1) C hX hbl hbA hL ht (by decide) (by decide) rfl rfl dL_law_1376 dL_law_1377 dL_law_1379 dL_law_1380 dL_law_1381 ?_
  refine x_aload_n (i := 3) C dL_law_1382 rfl rfl ?_
  refine x_callSWi (As := [.ref (a 0), .int (sc (6 * t + 1)), .ref o]) C hE (k_L_ring l hfl D cy a o A (mW cy b [] M) V f (sc (6 * t + 1)) (toI10 (N := 6) h.1.2.2.2.1 h.1.2.2.2.2.2.1 (by decide)) (ex_in2 (ex2_cam h (sc (6 * t + 1))))) (vx_cwSW 3 C.2.2.2.2.1 gL_law_L_ring rfl rfl rfl (by decide +kernel) ⟨Nat.le_of_ble_eq_true rfl, Nat.le_of_ble_eq_true rfl⟩) rfl rfl (Nat.le_of_ble_eq_true rfl) dL_law_1383 ⟨by show cells + 1 ≤ 655756; omega, by show slots + 6 ≤ 7128835; omega⟩ (fun r5 u1 h1 => ?_)
  have g1 := ag_2 (ex2_cam h (sc (6 * t + 1))) h1
  refine x_istore (i := 5) C dL_law_1386 (by decide) ?_
  refine x_toM ?_
  refine x_aload_n (i := 2) C dL_law_1388 rfl rfl ?_
  refine x_arg (k := 1) C hX hbl hbA hL ht (by decide) (by decide) rfl rfl dL_law_1389 dL_law_1390 dL_law_1392 dL_law_1393 dL_law_1394 ?_
  refine x_callVi (As := [.int (sc (6 * t + 1))]) C hE (k_X4_ring l D cy b A (oW cy a o [] u1.1 u1.2) M (sc (6 * t + 1)) h.1.2.2.2.2.1 h.1.2.2.2.2.2.1) (cwV 1 C.2.2.2.2.1 gL_law_X4_ring rfl rfl rfl (by decide +kernel) ⟨Nat.le_of_ble_eq_true rfl, Nat.le_of_ble_eq_true rfl⟩) 0 (mW_M cy b _ _) rfl rfl rfl rfl (Nat.le_of_ble_eq_true rfl) dL_law_1395 ⟨by show cells + 1 + 0 ≤ 655756; omega, by show slots + 6 + 0 ≤ 7128835; omega⟩ (fun r6 w2 h2 => ?_)
  refine x_istore (i := 6) C dL_law_1398 (by decide) ?_
  obtain ⟨n', m', k', hj, hk', hw, hv⟩ := fin_gen h g1 h2 (fun hc => sem_ring h hc)
  exact law_tail C hE ⟨by omega, by omega⟩ hw hv (by decide) dL_law_1400 dL_law_1401 dL_law_1404 dL_law_1406 dL_law_1411 dL_law_1413 dL_law_1416 dL_law_1417 dL_law_1418 dL_law_1419 dL_law_1421 dL_law_1422 dL_law_1423 dL_law_1428 (x_widen (k := cells + 6) (n := slots + 36) (by omega) (by omega) (kk _ _ _ n' m' k' hj hk'))
set_option maxHeartbeats 4000000 in
set_option maxRecDepth 100000 in
theorem law_c_reports (hfl : l.stackTraces = false) (C : xC p s m #[Value.ref sb] meth c cL_law 7 RL wsL_law D (tyC cy) A ret) (hE : xE A s) (hX : va_X sb L sc s s.heap) (hbl : sb < s.heap.size) (hbA : ¬ A sb) (hL : L ≤ 3072) (ht : 6 * t + 5 < L) (hcs : cells + 6 ≤ 655756 ∧ slots + 36 ≤ 7128835) (h : jJ V M n9 m9 k9) (hk : k9 + 100 ≤ 60000)
    (kk : ∀ (V' M' : XV) (f' : Nat → Int64) (n' m' k' : Nat), jJ V' M' n' m' k' → k' ≤ k9 + 100 → xA p l e room_1 s m #[Value.ref sb] below meth c D A 7 (cells + 6) (slots + 36) Q 1599 (llv a b o sb t) [] (oW cy a o (mW cy b [] M') V' f')) : xA p l e room_1 s m #[Value.ref sb] below meth c D A 7 cells slots Q 1431 (llv a b o sb t) [] (oW cy a o (mW cy b [] M) V f) := by
  obtain ⟨hcs1, hcs2⟩ := hcs
  refine x_aload_n (i := 1) C dL_law_1431 rfl rfl ?_
  refine x_arg (k := 1) C hX hbl hbA hL ht (by decide) (by decide) rfl rfl dL_law_1432 dL_law_1433 dL_law_1435 dL_law_1436 dL_law_1437 ?_
  refine x_aload_n (i := 3) C dL_law_1438 rfl rfl ?_
  refine x_callSWi (As := [.ref (a 0), .int (sc (6 * t + 1)), .ref o]) C hE (k_L_reports l hfl D cy a o A (mW cy b [] M) V f (sc (6 * t + 1)) (toI10 (N := 6) h.1.2.2.2.1 h.1.2.2.2.2.2.1 (by decide)) (ex_in2 (ex2_cam h (sc (6 * t + 1))))) (vx_cwSW 3 C.2.2.2.2.1 gL_law_L_reports rfl rfl rfl (by decide +kernel) ⟨Nat.le_of_ble_eq_true rfl, Nat.le_of_ble_eq_true rfl⟩) rfl rfl (Nat.le_of_ble_eq_true rfl) dL_law_1439 ⟨by show cells + 1 ≤ 655756; omega, by show slots + 6 ≤ 7128835; omega⟩ (fun r5 u1 h1 => ?_)
  have g1 := ag_2 (ex2_cam h (sc (6 * t + 1))) h1
  refine x_istore (i := 5) C dL_law_1442 (by decide) ?_
  refine x_toM ?_
  refine x_aload_n (i := 2) C dL_law_1444 rfl rfl ?_
  refine x_arg (k := 1) C hX hbl hbA hL ht (by decide) (by decide) rfl rfl dL_law_1445 dL_law_1446 dL_law_1448 dL_law_1449 dL_law_1450 ?_
  refine x_callVi (As := [.int (sc (6 * t + 1))]) C hE (k_X4_reports l D cy b A (oW cy a o [] u1.1 u1.2) M (sc (6 * t + 1)) h.1.2.2.2.2.1 h.1.2.2.2.2.2.1) (cwV 1 C.2.2.2.2.1 gL_law_X4_reports rfl rfl rfl (by decide +kernel) ⟨Nat.le_of_ble_eq_true rfl, Nat.le_of_ble_eq_true rfl⟩) 0 (mW_M cy b _ _) rfl rfl rfl rfl (Nat.le_of_ble_eq_true rfl) dL_law_1451 ⟨by show cells + 1 + 0 ≤ 655756; omega, by show slots + 6 + 0 ≤ 7128835; omega⟩ (fun r6 w2 h2 => ?_)
  refine x_istore (i := 6) C dL_law_1454 (by decide) ?_
  obtain ⟨n', m', k', hj, hk', hw, hv⟩ := fin_gen h g1 h2 (fun hc => sem_reports h hc)
  exact law_tail C hE ⟨by omega, by omega⟩ hw hv (by decide) dL_law_1456 dL_law_1457 dL_law_1460 dL_law_1462 dL_law_1467 dL_law_1469 dL_law_1472 dL_law_1473 dL_law_1474 dL_law_1475 dL_law_1477 dL_law_1478 dL_law_1479 dL_law_1484 (x_widen (k := cells + 6) (n := slots + 36) (by omega) (by omega) (kk _ _ _ n' m' k' hj hk'))
set_option maxHeartbeats 4000000 in
set_option maxRecDepth 100000 in
theorem law_c_eligible (hfl : l.stackTraces = false) (C : xC p s m #[Value.ref sb] meth c cL_law 7 RL wsL_law D (tyC cy) A ret) (hE : xE A s) (hX : va_X sb L sc s s.heap) (hbl : sb < s.heap.size) (hbA : ¬ A sb) (hL : L ≤ 3072) (ht : 6 * t + 5 < L) (hcs : cells + 6 ≤ 655756 ∧ slots + 36 ≤ 7128835) (h : jJ V M n9 m9 k9) (hk : k9 + 100 ≤ 60000)
    (kk : ∀ (V' M' : XV) (f' : Nat → Int64) (n' m' k' : Nat), jJ V' M' n' m' k' → k' ≤ k9 + 100 → xA p l e room_1 s m #[Value.ref sb] below meth c D A 7 (cells + 6) (slots + 36) Q 1599 (llv a b o sb t) [] (oW cy a o (mW cy b [] M') V' f')) : xA p l e room_1 s m #[Value.ref sb] below meth c D A 7 cells slots Q 1487 (llv a b o sb t) [] (oW cy a o (mW cy b [] M) V f) := by
  obtain ⟨hcs1, hcs2⟩ := hcs
  refine x_aload_n (i := 1) C dL_law_1487 rfl rfl ?_
  refine x_arg (k := 1) C hX hbl hbA hL ht (by decide) (by decide) rfl rfl dL_law_1488 dL_law_1489 dL_law_1491 dL_law_1492 dL_law_1493 ?_
  refine x_aload_n (i := 3) C dL_law_1494 rfl rfl ?_
  refine x_callSWi (As := [.ref (a 0), .int (sc (6 * t + 1)), .ref o]) C hE (k_L_eligible l hfl D cy a o A (mW cy b [] M) V f (sc (6 * t + 1)) h.1.1 h.1.2.2.1 (toI10 (N := 6) h.1.2.2.2.1 h.1.2.2.2.2.2.1 (by decide)) (jJ_safeV h) (ex_in2 (ex2_cam h (sc (6 * t + 1))))) (vx_cwSW 3 C.2.2.2.2.1 gL_law_L_eligible rfl rfl rfl (by decide +kernel) ⟨Nat.le_of_ble_eq_true rfl, Nat.le_of_ble_eq_true rfl⟩) rfl rfl (Nat.le_of_ble_eq_true rfl) dL_law_1495 ⟨by show cells + 1 ≤ 655756; omega, by show slots + 6 ≤ 7128835; omega⟩ (fun r5 u1 h1 => ?_)
  have g1 := ag_2 (ex2_cam h (sc (6 * t + 1))) h1
  refine x_istore (i := 5) C dL_law_1498 (by decide) ?_
  refine x_toM ?_
  refine x_aload_n (i := 2) C dL_law_1500 rfl rfl ?_
  refine x_arg (k := 1) C hX hbl hbA hL ht (by decide) (by decide) rfl rfl dL_law_1501 dL_law_1502 dL_law_1504 dL_law_1505 dL_law_1506 ?_
  refine x_callVi (As := [.int (sc (6 * t + 1))]) C hE (k_X4_eligible l D cy b A (oW cy a o [] u1.1 u1.2) M (sc (6 * t + 1)) h.1.2.1 h.1.2.2.1 h.1.2.2.2.2.1 h.1.2.2.2.2.2.1 (jJ_safeM h)) (cwV 1 C.2.2.2.2.1 gL_law_X4_eligible rfl rfl rfl (by decide +kernel) ⟨Nat.le_of_ble_eq_true rfl, Nat.le_of_ble_eq_true rfl⟩) 0 (mW_M cy b _ _) rfl rfl rfl rfl (Nat.le_of_ble_eq_true rfl) dL_law_1507 ⟨by show cells + 1 + 0 ≤ 655756; omega, by show slots + 6 + 0 ≤ 7128835; omega⟩ (fun r6 w2 h2 => ?_)
  refine x_istore (i := 6) C dL_law_1510 (by decide) ?_
  obtain ⟨n', m', k', hj, hk', hw, hv⟩ := fin_gen h g1 h2 (fun hc => sem_eligible h hc)
  exact law_tail C hE ⟨by omega, by omega⟩ hw hv (by decide) dL_law_1512 dL_law_1513 dL_law_1516 dL_law_1518 dL_law_1523 dL_law_1525 dL_law_1528 dL_law_1529 dL_law_1530 dL_law_1531 dL_law_1533 dL_law_1534 dL_law_1535 dL_law_1540 (x_widen (k := cells + 6) (n := slots + 36) (by omega) (by omega) (kk _ _ _ n' m' k' hj hk'))
set_option maxHeartbeats 4000000 in
set_option maxRecDepth 100000 in
theorem law_c_pass (hfl : l.stackTraces = false) (C : xC p s m #[Value.ref sb] meth c cL_law 7 RL wsL_law D (tyC cy) A ret) (hE : xE A s) (hX : va_X sb L sc s s.heap) (hbl : sb < s.heap.size) (hbA : ¬ A sb) (hL : L ≤ 3072) (ht : 6 * t + 5 < L) (hcs : cells + 6 ≤ 655756 ∧ slots + 36 ≤ 7128835) (h : jJ V M n9 m9 k9) (hk : k9 + 100 ≤ 60000)
    (kk : ∀ (V' M' : XV) (f' : Nat → Int64) (n' m' k' : Nat), jJ V' M' n' m' k' → k' ≤ k9 + 100 → xA p l e room_1 s m #[Value.ref sb] below meth c D A 7 (cells + 6) (slots + 36) Q 1599 (llv a b o sb t) [] (oW cy a o (mW cy b [] M') V' f')) : xA p l e room_1 s m #[Value.ref sb] below meth c D A 7 cells slots Q 1543 (llv a b o sb t) [] (oW cy a o (mW cy b [] M) V f) := by
  obtain ⟨hcs1, hcs2⟩ := hcs
  refine x_aload_n (i := 1) C dL_law_1543 rfl rfl ?_
  refine x_arg (k := 1) C hX hbl hbA hL ht (by decide) (by decide) rfl rfl dL_law_1544 dL_law_1545 dL_law_1547 dL_law_1548 dL_law_1549 ?_
  refine x_aload_n (i := 3) C dL_law_1550 rfl rfl ?_
  refine x_callSWi (As := [.ref (a 0), .int (sc (6 * t + 1)), .ref o]) C hE (k_L_pass l hfl D cy a o A (mW cy b [] M) V f (sc (6 * t + 1)) h.1.1 h.1.2.2.1 h.1.2.2.2.1 h.1.2.2.2.2.2.1 (jJ_safeV h) (ex_in2 (ex_pass (sc (6 * t + 1))))) (vx_cwSW 3 C.2.2.2.2.1 gL_law_L_pass rfl rfl rfl (by decide +kernel) ⟨Nat.le_of_ble_eq_true rfl, Nat.le_of_ble_eq_true rfl⟩) rfl rfl (Nat.le_of_ble_eq_true rfl) dL_law_1551 ⟨by show cells + 1 ≤ 655756; omega, by show slots + 6 ≤ 7128835; omega⟩ (fun r5 u1 h1 => ?_)
  have g1 := ag_2 (ex_pass (sc (6 * t + 1))) h1
  refine x_istore (i := 5) C dL_law_1554 (by decide) ?_
  refine x_toM ?_
  refine x_aload_n (i := 2) C dL_law_1556 rfl rfl ?_
  refine x_arg (k := 1) C hX hbl hbA hL ht (by decide) (by decide) rfl rfl dL_law_1557 dL_law_1558 dL_law_1560 dL_law_1561 dL_law_1562 ?_
  refine x_callVi (As := [.int (sc (6 * t + 1))]) C hE (k_X4_pass l D cy b A (oW cy a o [] u1.1 u1.2) M (sc (6 * t + 1)) h.1.2.1 h.1.2.2.1 h.1.2.2.2.2.1 h.1.2.2.2.2.2.1 (jJ_safeM h)) (cwV 1 C.2.2.2.2.1 gL_law_X4_pass rfl rfl rfl (by decide +kernel) ⟨Nat.le_of_ble_eq_true rfl, Nat.le_of_ble_eq_true rfl⟩) 0 (mW_M cy b _ _) rfl rfl rfl rfl (Nat.le_of_ble_eq_true rfl) dL_law_1563 ⟨by show cells + 1 + 0 ≤ 655756; omega, by show slots + 6 + 0 ≤ 7128835; omega⟩ (fun r6 w2 h2 => ?_)
  refine x_istore (i := 6) C dL_law_1566 (by decide) ?_
  obtain ⟨n', m', k', hj, hk', hw, hv⟩ := fin_gen h g1 h2 (fun hc => sem_pass hk h hc)
  exact law_tail C hE ⟨by omega, by omega⟩ hw hv (by decide) dL_law_1568 dL_law_1569 dL_law_1572 dL_law_1574 dL_law_1579 dL_law_1581 dL_law_1584 dL_law_1585 dL_law_1586 dL_law_1587 dL_law_1589 dL_law_1590 dL_law_1591 dL_law_1596 (x_widen (k := cells + 6) (n := slots + 36) (by omega) (by omega) (kk _ _ _ n' m' k' hj hk'))
end LCS
/-! ===== END lawcases ===== -/
