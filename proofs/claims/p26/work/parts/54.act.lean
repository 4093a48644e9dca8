/-! ===== BEGIN act ===== -/
def rmL_act : Room := { frames := 13, cells := 100, slots := 600, locals := 397 }
set_option maxHeartbeats 40000000 in
set_option maxRecDepth 100000 in
theorem k_L_act (l : Launch) (hfl : l.stackTraces = false) (D : va_G) (cy : Nat → ClassId) (a : Nat → Nat) (o : Nat) (f : Nat → Int32) (A : Nat → Prop) (Y : va_W) (V : XV) {n m : Nat} (h : gJ V n m) (hf : f 0 = nI m) {x S : Nat} (hx : x < 2147483648) (hs01 : S = 0 ∨ S = 1) : Met l yL_act wsL_act rmL_act (va_Pc [.ref (a 0), .ref o, .int (nI x), .int (nI S)] (xPre D (tyC cy) A (cW cy a (nX cy o f :: Y) V))) (va_Qi (fun (r : Int32) (u : XV) => r = (actF V n m x).1 ∧ u = (actF V n m x).2) (fun u t => xPost D (tyC cy) A (cW cy a (nX cy o f :: Y) u) t) A) 100 600 A := by
  have hn10 := h.2.1
  have hm6 := h.2.2.2.1
  have hij := iJ_le n (x / 32)
  have hik := iJ_le m (x / 32)
  refine x_met (own := RL) (by decide) rfl rfl (Nat.le_of_ble_eq_true rfl) rfl ?_
  intro p e s m9 below meth c hnm C hE
  refine x_iload_n (i := 2) C dL_act_0 rfl rfl ?_
  refine x_bipush (v := nI 32) C dL_act_1 (by decide) ?_
  refine x_idiv C dL_act_3 (nI_ne0 (by omega) (by omega)) ?_
  refine x_topi (pk_div (by omega) (by omega) (by omega)) ?_
  refine x_istore (i := 4) C dL_act_4 (by decide) ?_
  refine x_join (J := 24) (st' := []) (fun z => z = nI (iJ n (x / 32))) (fun w_24 e_24 => ?_) (fun j_24 => ?_)
  · subst e_24
    refine x_istore (i := 5) C dL_act_24 (by decide) ?_
    refine x_join (J := 42) (st' := []) (fun z => z = nI (iJ m (x / 32))) (fun w_42 e_42 => ?_) (fun j_42 => ?_)
    · subst e_42
      refine x_istore (i := 6) C dL_act_42 (by decide) ?_
      refine x_iload_n (i := 2) C dL_act_44 rfl rfl ?_
      refine x_bipush (v := nI 32) C dL_act_45 (by decide) ?_
      refine x_irem C dL_act_47 (nI_ne0 (by omega) (by omega)) ?_
      refine x_topi (pk_rem (by omega) (by omega) (by omega)) ?_
      by_cases d0 : x % 32 = 0
      · have hF : actF V n m x = rAllow V (nI (x / 32 % 8)) (nI (x / 32 / 8 % 16) ||| nI (x / 32 / 128 % 16)) := if_pos d0
        have hv : x % 32 = 0 := by omega
        rw [hv]
        refine x_tabIn (tgt := 156) C dL_act_48 (by decide) (by decide) (show _ = some _ from rfl) (by decide) ?_
        refine x_aload_n (i := 0) C dL_act_156 rfl rfl ?_
        refine x_iload (i := 4) C dL_act_157 rfl ?_
        refine x_bipush (v := nI 8) C dL_act_159 (by decide) ?_
        refine x_irem C dL_act_161 (nI_ne0 (by omega) (by omega)) ?_
        refine x_topi (pk_rem (by omega) (by omega) (by omega)) ?_
        refine x_iload (i := 4) C dL_act_162 rfl ?_
        refine x_bipush (v := nI 8) C dL_act_164 (by decide) ?_
        refine x_idiv C dL_act_166 (nI_ne0 (by omega) (by omega)) ?_
        refine x_topi (pk_div (by omega) (by omega) (by omega)) ?_
        refine x_bipush (v := nI 16) C dL_act_167 (by decide) ?_
        refine x_irem C dL_act_169 (nI_ne0 (by omega) (by omega)) ?_
        refine x_topi (pk_rem (by omega) (by omega) (by omega)) ?_
        refine x_iload (i := 4) C dL_act_170 rfl ?_
        refine x_sipush (v := nI 128) C dL_act_172 (by decide) ?_
        refine x_idiv C dL_act_175 (nI_ne0 (by omega) (by omega)) ?_
        refine x_topi (pk_div (by omega) (by omega) (by omega)) ?_
        refine x_bipush (v := nI 16) C dL_act_176 (by decide) ?_
        refine x_irem C dL_act_178 (nI_ne0 (by omega) (by omega)) ?_
        refine x_topi (pk_rem (by omega) (by omega) (by omega)) ?_
        refine x_ior C dL_act_179 ?_
        refine x_callSWi (As := [.ref (a 0), .int (nI (((x / 32) % 8))), .int ((nI ((((x / 32) / 8) % 16)) ||| nI ((((x / 32) / 128) % 16))))]) C hE (k_L_allows l hfl D cy a A _ V h (nI (((x / 32) % 8))) ((nI ((((x / 32) / 8) % 16)) ||| nI ((((x / 32) / 128) % 16))))) (vx_cwSW 3 C.2.2.2.2.1 gL_act_L_allows rfl rfl rfl (by decide +kernel) ⟨Nat.le_of_ble_eq_true rfl, Nat.le_of_ble_eq_true rfl⟩) rfl rfl (Nat.le_of_ble_eq_true rfl) dL_act_180 ⟨by show _ ≤ 100; omega, by show _ ≤ 600; omega⟩ (fun r_180 u_180 h_180 => ?_)
        exact x_iret (σ := XV) (Wf := fun (u : XV) => cW cy a (nX cy o f :: Y) u) (post := fun (r : Int32) (u : XV) => r = (actF V n m x).1 ∧ u = (actF V n m x).2) (u := u_180) C dL_act_183 ⟨by show _ ≤ 100; omega, by show _ ≤ 600; omega⟩ ⟨h_180.1.trans (congrArg Prod.fst hF).symm, h_180.2.trans (congrArg Prod.snd hF).symm⟩
      by_cases d1 : x % 32 ≤ 2
      · have hF : actF V n m x = rImage V (nI (x / 32 % 8)) (if x / 32 / 8 % 4 = 0 then -1 else nI (1 + x / 32 / 32 % 900)) := (if_neg d0).trans (if_pos d1)
        refine x_cut (J := 184) (lv' := [(6, .int (nI (iJ m (x / 32)))), (5, .int (nI (iJ n (x / 32)))), (4, .int (nI ((x / 32)))), (3, .int (nI S)), (2, .int (nI x)), (1, .ref o), (0, .ref (a 0))]) (st' := []) (ws' := (cW cy a (nX cy o f :: Y) V)) (k := 0) (n := 0) ?_ (fun j_184 => ?_)
        · skip
          refine x_aload_n (i := 0) C dL_act_184 rfl rfl ?_
          refine x_iload (i := 4) C dL_act_185 rfl ?_
          refine x_bipush (v := nI 8) C dL_act_187 (by decide) ?_
          refine x_irem C dL_act_189 (nI_ne0 (by omega) (by omega)) ?_
          refine x_topi (pk_rem (by omega) (by omega) (by omega)) ?_
          refine x_join (J := 215) (st' := [.int (nI (((x / 32) % 8))), .ref (a 0)]) (fun z => z = (if x / 32 / 8 % 4 = 0 then -1 else nI (1 + x / 32 / 32 % 900))) (fun w_215 e_215 => ?_) (fun j_215 => ?_)
          · subst e_215
            refine x_callSWi (As := [.ref (a 0), .int (nI (((x / 32) % 8))), .int ((if x / 32 / 8 % 4 = 0 then -1 else nI (1 + x / 32 / 32 % 900)))]) C hE (k_L_images l hfl D cy a A _ V h (nI (((x / 32) % 8))) ((if x / 32 / 8 % 4 = 0 then -1 else nI (1 + x / 32 / 32 % 900)))) (vx_cwSW 3 C.2.2.2.2.1 gL_act_L_images rfl rfl rfl (by decide +kernel) ⟨Nat.le_of_ble_eq_true rfl, Nat.le_of_ble_eq_true rfl⟩) rfl rfl (Nat.le_of_ble_eq_true rfl) dL_act_215 ⟨by show _ ≤ 100; omega, by show _ ≤ 600; omega⟩ (fun r_215 u_215 h_215 => ?_)
            exact x_iret (σ := XV) (Wf := fun (u : XV) => cW cy a (nX cy o f :: Y) u) (post := fun (r : Int32) (u : XV) => r = (actF V n m x).1 ∧ u = (actF V n m x).2) (u := u_215) C dL_act_218 ⟨by show _ ≤ 100; omega, by show _ ≤ 600; omega⟩ ⟨h_215.1.trans (congrArg Prod.fst hF).symm, h_215.2.trans (congrArg Prod.snd hF).symm⟩
          · refine x_iload (i := 4) C dL_act_190 rfl ?_
            refine x_bipush (v := nI 8) C dL_act_192 (by decide) ?_
            refine x_idiv C dL_act_194 (nI_ne0 (by omega) (by omega)) ?_
            refine x_topi (pk_div (by omega) (by omega) (by omega)) ?_
            refine x_iconst (v := nI 4) C dL_act_195 (by decide) ?_
            refine x_irem C dL_act_196 (nI_ne0 (by omega) (by omega)) ?_
            refine x_topi (pk_rem (by omega) (by omega) (by omega)) ?_
            refine x_if_ne C 204 dL_act_197 (by decide) (fun c_197 => ?_) (fun c_197 => ?_)
            · refine x_iconst (v := nI 1) C dL_act_204 (by decide) ?_
              refine x_iload (i := 4) C dL_act_205 rfl ?_
              refine x_bipush (v := nI 32) C dL_act_207 (by decide) ?_
              refine x_idiv C dL_act_209 (nI_ne0 (by omega) (by omega)) ?_
              refine x_topi (pk_div (by omega) (by omega) (by omega)) ?_
              refine x_sipush (v := nI 900) C dL_act_210 (by decide) ?_
              refine x_irem C dL_act_213 (nI_ne0 (by omega) (by omega)) ?_
              refine x_topi (pk_rem (by omega) (by omega) (by omega)) ?_
              refine x_iadd C dL_act_214 ?_
              refine x_topi (nI_add _ _) ?_
              exact j_215 _ (if_neg (fun q => c_197 (by rw [q]; rfl))).symm
            · refine x_iconst (v := (-1)) C dL_act_200 (by decide) ?_
              refine x_goto C 215 dL_act_201 (by decide) ?_
              exact j_215 _ (if_pos ((nI_eq0 (by omega)).mp c_197)).symm
        · refine x_subm (lv' := [(6, .int (nI (iJ m (x / 32)))), (5, .int (nI (iJ n (x / 32)))), (4, .int (nI ((x / 32)))), (3, .int (nI S)), (2, .int (nI x)), (1, .ref o), (0, .ref (a 0))]) ?_ rfl
          rcases (show x % 32 = 1 ∨ x % 32 = 2 by omega) with hv | hv
          · rw [hv]
            exact x_tabIn (tgt := 184) C dL_act_48 (by decide) (by decide) (show _ = some _ from rfl) (by decide) j_184
          · rw [hv]
            exact x_tabIn (tgt := 184) C dL_act_48 (by decide) (by decide) (show _ = some _ from rfl) (by decide) j_184
      by_cases d2 : x % 32 ≤ 5
      · have hF : actF V n m x = rDelta V (nI (x / 32 % 8)) (nI (x / 32 / 8 % 8)) (if x / 32 / 64 % 5 = 0 then -1 else nI (1 + x / 32 / 320 % 400)) := (if_neg d0).trans ((if_neg d1).trans (if_pos d2))
        refine x_cut (J := 219) (lv' := [(6, .int (nI (iJ m (x / 32)))), (5, .int (nI (iJ n (x / 32)))), (4, .int (nI ((x / 32)))), (3, .int (nI S)), (2, .int (nI x)), (1, .ref o), (0, .ref (a 0))]) (st' := []) (ws' := (cW cy a (nX cy o f :: Y) V)) (k := 0) (n := 0) ?_ (fun j_219 => ?_)
        · skip
          refine x_aload_n (i := 0) C dL_act_219 rfl rfl ?_
          refine x_iload (i := 4) C dL_act_220 rfl ?_
          refine x_bipush (v := nI 8) C dL_act_222 (by decide) ?_
          refine x_irem C dL_act_224 (nI_ne0 (by omega) (by omega)) ?_
          refine x_topi (pk_rem (by omega) (by omega) (by omega)) ?_
          refine x_iload (i := 4) C dL_act_225 rfl ?_
          refine x_bipush (v := nI 8) C dL_act_227 (by decide) ?_
          refine x_idiv C dL_act_229 (nI_ne0 (by omega) (by omega)) ?_
          refine x_topi (pk_div (by omega) (by omega) (by omega)) ?_
          refine x_bipush (v := nI 8) C dL_act_230 (by decide) ?_
          refine x_irem C dL_act_232 (nI_ne0 (by omega) (by omega)) ?_
          refine x_topi (pk_rem (by omega) (by omega) (by omega)) ?_
          refine x_join (J := 259) (st' := [.int (nI ((((x / 32) / 8) % 8))), .int (nI (((x / 32) % 8))), .ref (a 0)]) (fun z => z = (if x / 32 / 64 % 5 = 0 then -1 else nI (1 + x / 32 / 320 % 400))) (fun w_259 e_259 => ?_) (fun j_259 => ?_)
          · subst e_259
            refine x_callSWi (As := [.ref (a 0), .int (nI (((x / 32) % 8))), .int (nI ((((x / 32) / 8) % 8))), .int ((if x / 32 / 64 % 5 = 0 then -1 else nI (1 + x / 32 / 320 % 400)))]) C hE (k_L_deltas l hfl D cy a A _ V h (nI (((x / 32) % 8))) (nI ((((x / 32) / 8) % 8))) ((if x / 32 / 64 % 5 = 0 then -1 else nI (1 + x / 32 / 320 % 400)))) (vx_cwSW 4 C.2.2.2.2.1 gL_act_L_deltas rfl rfl rfl (by decide +kernel) ⟨Nat.le_of_ble_eq_true rfl, Nat.le_of_ble_eq_true rfl⟩) rfl rfl (Nat.le_of_ble_eq_true rfl) dL_act_259 ⟨by show _ ≤ 100; omega, by show _ ≤ 600; omega⟩ (fun r_259 u_259 h_259 => ?_)
            exact x_iret (σ := XV) (Wf := fun (u : XV) => cW cy a (nX cy o f :: Y) u) (post := fun (r : Int32) (u : XV) => r = (actF V n m x).1 ∧ u = (actF V n m x).2) (u := u_259) C dL_act_262 ⟨by show _ ≤ 100; omega, by show _ ≤ 600; omega⟩ ⟨h_259.1.trans (congrArg Prod.fst hF).symm, h_259.2.trans (congrArg Prod.snd hF).symm⟩
          · refine x_iload (i := 4) C dL_act_233 rfl ?_
            refine x_bipush (v := nI 64) C dL_act_235 (by decide) ?_
            refine x_idiv C dL_act_237 (nI_ne0 (by omega) (by omega)) ?_
            refine x_topi (pk_div (by omega) (by omega) (by omega)) ?_
            refine x_iconst (v := nI 5) C dL_act_238 (by decide) ?_
            refine x_irem C dL_act_239 (nI_ne0 (by omega) (by omega)) ?_
            refine x_topi (pk_rem (by omega) (by omega) (by omega)) ?_
            refine x_if_ne C 247 dL_act_240 (by decide) (fun c_240 => ?_) (fun c_240 => ?_)
            · refine x_iconst (v := nI 1) C dL_act_247 (by decide) ?_
              refine x_iload (i := 4) C dL_act_248 rfl ?_
              refine x_sipush (v := nI 320) C dL_act_250 (by decide) ?_
              refine x_idiv C dL_act_253 (nI_ne0 (by omega) (by omega)) ?_
              refine x_topi (pk_div (by omega) (by omega) (by omega)) ?_
              refine x_sipush (v := nI 400) C dL_act_254 (by decide) ?_
              refine x_irem C dL_act_257 (nI_ne0 (by omega) (by omega)) ?_
              refine x_topi (pk_rem (by omega) (by omega) (by omega)) ?_
              refine x_iadd C dL_act_258 ?_
              refine x_topi (nI_add _ _) ?_
              exact j_259 _ (if_neg (fun q => c_240 (by rw [q]; rfl))).symm
            · refine x_iconst (v := (-1)) C dL_act_243 (by decide) ?_
              refine x_goto C 259 dL_act_244 (by decide) ?_
              exact j_259 _ (if_pos ((nI_eq0 (by omega)).mp c_240)).symm
        · refine x_subm (lv' := [(6, .int (nI (iJ m (x / 32)))), (5, .int (nI (iJ n (x / 32)))), (4, .int (nI ((x / 32)))), (3, .int (nI S)), (2, .int (nI x)), (1, .ref o), (0, .ref (a 0))]) ?_ rfl
          rcases (show x % 32 = 3 ∨ x % 32 = 4 ∨ x % 32 = 5 by omega) with hv | hv | hv
          · rw [hv]
            exact x_tabIn (tgt := 219) C dL_act_48 (by decide) (by decide) (show _ = some _ from rfl) (by decide) j_219
          · rw [hv]
            exact x_tabIn (tgt := 219) C dL_act_48 (by decide) (by decide) (show _ = some _ from rfl) (by decide) j_219
          · rw [hv]
            exact x_tabIn (tgt := 219) C dL_act_48 (by decide) (by decide) (show _ = some _ from rfl) (by decide) j_219
      by_cases d3 : x % 32 ≤ 8
      · have hF : actF V n m x = rAdd V n (nI (x / 32 % 4)) (nI (x / 32 / 4 % 8)) := (if_neg d0).trans ((if_neg d1).trans ((if_neg d2).trans (if_pos d3)))
        refine x_cut (J := 263) (lv' := [(6, .int (nI (iJ m (x / 32)))), (5, .int (nI (iJ n (x / 32)))), (4, .int (nI ((x / 32)))), (3, .int (nI S)), (2, .int (nI x)), (1, .ref o), (0, .ref (a 0))]) (st' := []) (ws' := (cW cy a (nX cy o f :: Y) V)) (k := 0) (n := 0) ?_ (fun j_263 => ?_)
        · skip
          refine x_aload_n (i := 0) C dL_act_263 rfl rfl ?_
          refine x_iload (i := 4) C dL_act_264 rfl ?_
          refine x_iconst (v := nI 4) C dL_act_266 (by decide) ?_
          refine x_irem C dL_act_267 (nI_ne0 (by omega) (by omega)) ?_
          refine x_topi (pk_rem (by omega) (by omega) (by omega)) ?_
          refine x_iload (i := 4) C dL_act_268 rfl ?_
          refine x_iconst (v := nI 4) C dL_act_270 (by decide) ?_
          refine x_idiv C dL_act_271 (nI_ne0 (by omega) (by omega)) ?_
          refine x_topi (pk_div (by omega) (by omega) (by omega)) ?_
          refine x_bipush (v := nI 8) C dL_act_272 (by decide) ?_
          refine x_irem C dL_act_274 (nI_ne0 (by omega) (by omega)) ?_
          refine x_topi (pk_rem (by omega) (by omega) (by omega)) ?_
          refine x_callSWi (As := [.ref (a 0), .int (nI (((x / 32) % 4))), .int (nI ((((x / 32) / 4) % 8)))]) C hE (k_L_adds l hfl D cy a A _ V h (nI (((x / 32) % 4))) (nI ((((x / 32) / 4) % 8)))) (vx_cwSW 3 C.2.2.2.2.1 gL_act_L_adds rfl rfl rfl (by decide +kernel) ⟨Nat.le_of_ble_eq_true rfl, Nat.le_of_ble_eq_true rfl⟩) rfl rfl (Nat.le_of_ble_eq_true rfl) dL_act_275 ⟨by show _ ≤ 100; omega, by show _ ≤ 600; omega⟩ (fun r_275 u_275 h_275 => ?_)
          exact x_iret (σ := XV) (Wf := fun (u : XV) => cW cy a (nX cy o f :: Y) u) (post := fun (r : Int32) (u : XV) => r = (actF V n m x).1 ∧ u = (actF V n m x).2) (u := u_275) C dL_act_278 ⟨by show _ ≤ 100; omega, by show _ ≤ 600; omega⟩ ⟨h_275.1.trans (congrArg Prod.fst hF).symm, h_275.2.trans (congrArg Prod.snd hF).symm⟩
        · refine x_subm (lv' := [(6, .int (nI (iJ m (x / 32)))), (5, .int (nI (iJ n (x / 32)))), (4, .int (nI ((x / 32)))), (3, .int (nI S)), (2, .int (nI x)), (1, .ref o), (0, .ref (a 0))]) ?_ rfl
          rcases (show x % 32 = 6 ∨ x % 32 = 7 ∨ x % 32 = 8 by omega) with hv | hv | hv
          · rw [hv]
            exact x_tabIn (tgt := 263) C dL_act_48 (by decide) (by decide) (show _ = some _ from rfl) (by decide) j_263
          · rw [hv]
            exact x_tabIn (tgt := 263) C dL_act_48 (by decide) (by decide) (show _ = some _ from rfl) (by decide) j_263
          · rw [hv]
            exact x_tabIn (tgt := 263) C dL_act_48 (by decide) (by decide) (show _ = some _ from rfl) (by decide) j_263
      by_cases d4 : x % 32 ≤ 9
      · have hF : actF V n m x = rCharge V (nI (iJ n (x / 32))) (nI (x / 32 / 10 % 101)) := (if_neg d0).trans ((if_neg d1).trans ((if_neg d2).trans ((if_neg d3).trans (if_pos d4))))
        have hv : x % 32 = 9 := by omega
        rw [hv]
        refine x_tabIn (tgt := 279) C dL_act_48 (by decide) (by decide) (show _ = some _ from rfl) (by decide) ?_
        refine x_aload_n (i := 0) C dL_act_279 rfl rfl ?_
        refine x_iload (i := 5) C dL_act_280 rfl ?_
        refine x_iload (i := 4) C dL_act_282 rfl ?_
        refine x_bipush (v := nI 10) C dL_act_284 (by decide) ?_
        refine x_idiv C dL_act_286 (nI_ne0 (by omega) (by omega)) ?_
        refine x_topi (pk_div (by omega) (by omega) (by omega)) ?_
        refine x_bipush (v := nI 101) C dL_act_287 (by decide) ?_
        refine x_irem C dL_act_289 (nI_ne0 (by omega) (by omega)) ?_
        refine x_topi (pk_rem (by omega) (by omega) (by omega)) ?_
        refine x_callSWi (As := [.ref (a 0), .int (nI (iJ n (x / 32))), .int (nI ((((x / 32) / 10) % 101)))]) C hE (k_L_charges l hfl D cy a A _ V h (nI (iJ n (x / 32))) (nI ((((x / 32) / 10) % 101)))) (vx_cwSW 3 C.2.2.2.2.1 gL_act_L_charges rfl rfl rfl (by decide +kernel) ⟨Nat.le_of_ble_eq_true rfl, Nat.le_of_ble_eq_true rfl⟩) rfl rfl (Nat.le_of_ble_eq_true rfl) dL_act_290 ⟨by show _ ≤ 100; omega, by show _ ≤ 600; omega⟩ (fun r_290 u_290 h_290 => ?_)
        exact x_iret (σ := XV) (Wf := fun (u : XV) => cW cy a (nX cy o f :: Y) u) (post := fun (r : Int32) (u : XV) => r = (actF V n m x).1 ∧ u = (actF V n m x).2) (u := u_290) C dL_act_293 ⟨by show _ ≤ 100; omega, by show _ ≤ 600; omega⟩ ⟨h_290.1.trans (congrArg Prod.fst hF).symm, h_290.2.trans (congrArg Prod.snd hF).symm⟩
      by_cases d5 : x % 32 ≤ 10
      · have hF : actF V n m x = rWindow V (nI (iJ n (x / 32))) (nI (x / 32 / 10 % 24)) (nI (x / 32 / 240 % 24)) := (if_neg d0).trans ((if_neg d1).trans ((if_neg d2).trans ((if_neg d3).trans ((if_neg d4).trans (if_pos d5)))))
        have hv : x % 32 = 10 := by omega
        rw [hv]
        refine x_tabIn (tgt := 294) C dL_act_48 (by decide) (by decide) (show _ = some _ from rfl) (by decide) ?_
        refine x_aload_n (i := 0) C dL_act_294 rfl rfl ?_
        refine x_iload (i := 5) C dL_act_295 rfl ?_
        refine x_iload (i := 4) C dL_act_297 rfl ?_
        refine x_bipush (v := nI 10) C dL_act_299 (by decide) ?_
        refine x_idiv C dL_act_301 (nI_ne0 (by omega) (by omega)) ?_
        refine x_topi (pk_div (by omega) (by omega) (by omega)) ?_
        refine x_bipush (v := nI 24) C dL_act_302 (by decide) ?_
        refine x_irem C dL_act_304 (nI_ne0 (by omega) (by omega)) ?_
        refine x_topi (pk_rem (by omega) (by omega) (by omega)) ?_
        refine x_iload (i := 4) C dL_act_305 rfl ?_
        refine x_sipush (v := nI 240) C dL_act_307 (by decide) ?_
        refine x_idiv C dL_act_310 (nI_ne0 (by omega) (by omega)) ?_
        refine x_topi (pk_div (by omega) (by omega) (by omega)) ?_
        refine x_bipush (v := nI 24) C dL_act_311 (by decide) ?_
        refine x_irem C dL_act_313 (nI_ne0 (by omega) (by omega)) ?_
        refine x_topi (pk_rem (by omega) (by omega) (by omega)) ?_
        refine x_callSWi (As := [.ref (a 0), .int (nI (iJ n (x / 32))), .int (nI ((((x / 32) / 10) % 24))), .int (nI ((((x / 32) / 240) % 24)))]) C hE (k_L_windows l hfl D cy a A _ V h (nI (iJ n (x / 32))) (nI ((((x / 32) / 10) % 24))) (nI ((((x / 32) / 240) % 24)))) (vx_cwSW 4 C.2.2.2.2.1 gL_act_L_windows rfl rfl rfl (by decide +kernel) ⟨Nat.le_of_ble_eq_true rfl, Nat.le_of_ble_eq_true rfl⟩) rfl rfl (Nat.le_of_ble_eq_true rfl) dL_act_314 ⟨by show _ ≤ 100; omega, by show _ ≤ 600; omega⟩ (fun r_314 u_314 h_314 => ?_)
        exact x_iret (σ := XV) (Wf := fun (u : XV) => cW cy a (nX cy o f :: Y) u) (post := fun (r : Int32) (u : XV) => r = (actF V n m x).1 ∧ u = (actF V n m x).2) (u := u_314) C dL_act_317 ⟨by show _ ≤ 100; omega, by show _ ≤ 600; omega⟩ ⟨h_314.1.trans (congrArg Prod.fst hF).symm, h_314.2.trans (congrArg Prod.snd hF).symm⟩
      by_cases d6 : x % 32 ≤ 13
      · have hF : actF V n m x = rBegin V m (nI (x / 32 % 8)) (nI (x / 32 / 8 % 16) ||| nI (x / 32 / 16 % 16)) (if x / 32 / 384 % 2 = 0 then nI 255 else nI (x / 32 / 8 % 256)) (if 0 < x / 32 / 128 % 3 ∨ m = 0 then -1 else nI (iJ m (x / 32))) := (if_neg d0).trans ((if_neg d1).trans ((if_neg d2).trans ((if_neg d3).trans ((if_neg d4).trans ((if_neg d5).trans (if_pos d6))))))
        refine x_cut (J := 318) (lv' := [(6, .int (nI (iJ m (x / 32)))), (5, .int (nI (iJ n (x / 32)))), (4, .int (nI ((x / 32)))), (3, .int (nI S)), (2, .int (nI x)), (1, .ref o), (0, .ref (a 0))]) (st' := []) (ws' := (cW cy a (nX cy o f :: Y) V)) (k := 0) (n := 0) ?_ (fun j_318 => ?_)
        · skip
          refine x_aload_n (i := 0) C dL_act_318 rfl rfl ?_
          refine x_iload (i := 4) C dL_act_319 rfl ?_
          refine x_bipush (v := nI 8) C dL_act_321 (by decide) ?_
          refine x_irem C dL_act_323 (nI_ne0 (by omega) (by omega)) ?_
          refine x_topi (pk_rem (by omega) (by omega) (by omega)) ?_
          refine x_iload (i := 4) C dL_act_324 rfl ?_
          refine x_bipush (v := nI 8) C dL_act_326 (by decide) ?_
          refine x_idiv C dL_act_328 (nI_ne0 (by omega) (by omega)) ?_
          refine x_topi (pk_div (by omega) (by omega) (by omega)) ?_
          refine x_bipush (v := nI 16) C dL_act_329 (by decide) ?_
          refine x_irem C dL_act_331 (nI_ne0 (by omega) (by omega)) ?_
          refine x_topi (pk_rem (by omega) (by omega) (by omega)) ?_
          refine x_iload (i := 4) C dL_act_332 rfl ?_
          refine x_bipush (v := nI 16) C dL_act_334 (by decide) ?_
          refine x_idiv C dL_act_336 (nI_ne0 (by omega) (by omega)) ?_
          refine x_topi (pk_div (by omega) (by omega) (by omega)) ?_
          refine x_bipush (v := nI 16) C dL_act_337 (by decide) ?_
          refine x_irem C dL_act_339 (nI_ne0 (by omega) (by omega)) ?_
          refine x_topi (pk_rem (by omega) (by omega) (by omega)) ?_
          refine x_ior C dL_act_340 ?_
          refine x_join (J := 367) (st' := [.int ((nI ((((x / 32) / 8) % 16)) ||| nI ((((x / 32) / 16) % 16)))), .int (nI (((x / 32) % 8))), .ref (a 0)]) (fun z => z = (if x / 32 / 384 % 2 = 0 then nI 255 else nI (x / 32 / 8 % 256))) (fun w_367 e_367 => ?_) (fun j_367 => ?_)
          · subst e_367
            refine x_join (J := 390) (st' := [.int ((if x / 32 / 384 % 2 = 0 then nI 255 else nI (x / 32 / 8 % 256))), .int ((nI ((((x / 32) / 8) % 16)) ||| nI ((((x / 32) / 16) % 16)))), .int (nI (((x / 32) % 8))), .ref (a 0)]) (fun z => z = (if 0 < x / 32 / 128 % 3 ∨ m = 0 then -1 else nI (iJ m (x / 32)))) (fun w_390 e_390 => ?_) (fun j_390 => ?_)
            · subst e_390
              refine x_callSWi (As := [.ref (a 0), .int (nI (((x / 32) % 8))), .int ((nI ((((x / 32) / 8) % 16)) ||| nI ((((x / 32) / 16) % 16)))), .int ((if x / 32 / 384 % 2 = 0 then nI 255 else nI (x / 32 / 8 % 256))), .int ((if 0 < x / 32 / 128 % 3 ∨ m = 0 then -1 else nI (iJ m (x / 32))))]) C hE (k_L_begins l hfl D cy a A _ V h (nI (((x / 32) % 8))) ((nI ((((x / 32) / 8) % 16)) ||| nI ((((x / 32) / 16) % 16)))) ((if x / 32 / 384 % 2 = 0 then nI 255 else nI (x / 32 / 8 % 256))) ((if 0 < x / 32 / 128 % 3 ∨ m = 0 then -1 else nI (iJ m (x / 32))))) (vx_cwSW 5 C.2.2.2.2.1 gL_act_L_begins rfl rfl rfl (by decide +kernel) ⟨Nat.le_of_ble_eq_true rfl, Nat.le_of_ble_eq_true rfl⟩) rfl rfl (Nat.le_of_ble_eq_true rfl) dL_act_390 ⟨by show _ ≤ 100; omega, by show _ ≤ 600; omega⟩ (fun r_390 u_390 h_390 => ?_)
              exact x_iret (σ := XV) (Wf := fun (u : XV) => cW cy a (nX cy o f :: Y) u) (post := fun (r : Int32) (u : XV) => r = (actF V n m x).1 ∧ u = (actF V n m x).2) (u := u_390) C dL_act_393 ⟨by show _ ≤ 100; omega, by show _ ≤ 600; omega⟩ ⟨h_390.1.trans (congrArg Prod.fst hF).symm, h_390.2.trans (congrArg Prod.snd hF).symm⟩
            · refine x_iload (i := 4) C dL_act_367 rfl ?_
              refine x_sipush (v := nI 128) C dL_act_369 (by decide) ?_
              refine x_idiv C dL_act_372 (nI_ne0 (by omega) (by omega)) ?_
              refine x_topi (pk_div (by omega) (by omega) (by omega)) ?_
              refine x_iconst (v := nI 3) C dL_act_373 (by decide) ?_
              refine x_irem C dL_act_374 (nI_ne0 (by omega) (by omega)) ?_
              refine x_topi (pk_rem (by omega) (by omega) (by omega)) ?_
              refine x_if_gt C 384 dL_act_375 (by decide) (fun c_375 => ?_) (fun c_375 => ?_)
              · refine x_iconst (v := (-1)) C dL_act_384 (by decide) ?_
                refine x_goto C 390 dL_act_385 (by decide) ?_
                exact j_390 _ (if_pos (Or.inl ((nI_gt0 (by omega)).mp c_375))).symm
              · refine x_aload_n (i := 1) C dL_act_378 rfl rfl ?_
                refine x_iconst (v := nI 0) C dL_act_379 (by decide) ?_
                refine x_nrd C hf dL_act_380 ?_
                refine x_if_ne C 388 dL_act_381 (by decide) (fun c_381 => ?_) (fun c_381 => ?_)
                · refine x_iload (i := 6) C dL_act_388 rfl ?_
                  exact j_390 _ (if_neg (fun q => q.elim (fun w => c_375 ((nI_gt0 (by omega)).mpr w)) (fun w => c_381 (by rw [w]; rfl)))).symm
                · refine x_iconst (v := (-1)) C dL_act_384 (by decide) ?_
                  refine x_goto C 390 dL_act_385 (by decide) ?_
                  exact j_390 _ (if_pos (Or.inr ((nI_eq0 (by omega)).mp c_381))).symm
          · refine x_iload (i := 4) C dL_act_341 rfl ?_
            refine x_sipush (v := nI 384) C dL_act_343 (by decide) ?_
            refine x_idiv C dL_act_346 (nI_ne0 (by omega) (by omega)) ?_
            refine x_topi (pk_div (by omega) (by omega) (by omega)) ?_
            refine x_iconst (v := nI 2) C dL_act_347 (by decide) ?_
            refine x_irem C dL_act_348 (nI_ne0 (by omega) (by omega)) ?_
            refine x_topi (pk_rem (by omega) (by omega) (by omega)) ?_
            refine x_if_ne C 358 dL_act_349 (by decide) (fun c_349 => ?_) (fun c_349 => ?_)
            · refine x_iload (i := 4) C dL_act_358 rfl ?_
              refine x_bipush (v := nI 8) C dL_act_360 (by decide) ?_
              refine x_idiv C dL_act_362 (nI_ne0 (by omega) (by omega)) ?_
              refine x_topi (pk_div (by omega) (by omega) (by omega)) ?_
              refine x_sipush (v := nI 256) C dL_act_363 (by decide) ?_
              refine x_irem C dL_act_366 (nI_ne0 (by omega) (by omega)) ?_
              refine x_topi (pk_rem (by omega) (by omega) (by omega)) ?_
              exact j_367 _ (if_neg (fun q => c_349 (by rw [q]; rfl))).symm
            · refine x_sipush (v := nI 255) C dL_act_352 (by decide) ?_
              refine x_goto C 367 dL_act_355 (by decide) ?_
              exact j_367 _ (if_pos ((nI_eq0 (by omega)).mp c_349)).symm
        · refine x_subm (lv' := [(6, .int (nI (iJ m (x / 32)))), (5, .int (nI (iJ n (x / 32)))), (4, .int (nI ((x / 32)))), (3, .int (nI S)), (2, .int (nI x)), (1, .ref o), (0, .ref (a 0))]) ?_ rfl
          rcases (show x % 32 = 11 ∨ x % 32 = 12 ∨ x % 32 = 13 by omega) with hv | hv | hv
          · rw [hv]
            exact x_tabIn (tgt := 318) C dL_act_48 (by decide) (by decide) (show _ = some _ from rfl) (by decide) j_318
          · rw [hv]
            exact x_tabIn (tgt := 318) C dL_act_48 (by decide) (by decide) (show _ = some _ from rfl) (by decide) j_318
          · rw [hv]
            exact x_tabIn (tgt := 318) C dL_act_48 (by decide) (by decide) (show _ = some _ from rfl) (by decide) j_318
      by_cases d7 : x % 32 ≤ 16
      · have hF : actF V n m x = rRules V (nI (iJ m (x / 32))) (nI (x / 32 / 6 % 60)) (nI (60 + x / 32 / 360 % 41)) (nI (1 + x / 32 / 17 % 4)) (nI (x / 32 / 68 % 1001)) := (if_neg d0).trans ((if_neg d1).trans ((if_neg d2).trans ((if_neg d3).trans ((if_neg d4).trans ((if_neg d5).trans ((if_neg d6).trans (if_pos d7)))))))
        refine x_cut (J := 394) (lv' := [(6, .int (nI (iJ m (x / 32)))), (5, .int (nI (iJ n (x / 32)))), (4, .int (nI ((x / 32)))), (3, .int (nI S)), (2, .int (nI x)), (1, .ref o), (0, .ref (a 0))]) (st' := []) (ws' := (cW cy a (nX cy o f :: Y) V)) (k := 0) (n := 0) ?_ (fun j_394 => ?_)
        · skip
          refine x_aload_n (i := 0) C dL_act_394 rfl rfl ?_
          refine x_iload (i := 6) C dL_act_395 rfl ?_
          refine x_iload (i := 4) C dL_act_397 rfl ?_
          refine x_bipush (v := nI 6) C dL_act_399 (by decide) ?_
          refine x_idiv C dL_act_401 (nI_ne0 (by omega) (by omega)) ?_
          refine x_topi (pk_div (by omega) (by omega) (by omega)) ?_
          refine x_bipush (v := nI 60) C dL_act_402 (by decide) ?_
          refine x_irem C dL_act_404 (nI_ne0 (by omega) (by omega)) ?_
          refine x_topi (pk_rem (by omega) (by omega) (by omega)) ?_
          refine x_bipush (v := nI 60) C dL_act_405 (by decide) ?_
          refine x_iload (i := 4) C dL_act_407 rfl ?_
          refine x_sipush (v := nI 360) C dL_act_409 (by decide) ?_
          refine x_idiv C dL_act_412 (nI_ne0 (by omega) (by omega)) ?_
          refine x_topi (pk_div (by omega) (by omega) (by omega)) ?_
          refine x_bipush (v := nI 41) C dL_act_413 (by decide) ?_
          refine x_irem C dL_act_415 (nI_ne0 (by omega) (by omega)) ?_
          refine x_topi (pk_rem (by omega) (by omega) (by omega)) ?_
          refine x_iadd C dL_act_416 ?_
          refine x_topi (nI_add _ _) ?_
          refine x_iconst (v := nI 1) C dL_act_417 (by decide) ?_
          refine x_iload (i := 4) C dL_act_418 rfl ?_
          refine x_bipush (v := nI 17) C dL_act_420 (by decide) ?_
          refine x_idiv C dL_act_422 (nI_ne0 (by omega) (by omega)) ?_
          refine x_topi (pk_div (by omega) (by omega) (by omega)) ?_
          refine x_iconst (v := nI 4) C dL_act_423 (by decide) ?_
          refine x_irem C dL_act_424 (nI_ne0 (by omega) (by omega)) ?_
          refine x_topi (pk_rem (by omega) (by omega) (by omega)) ?_
          refine x_iadd C dL_act_425 ?_
          refine x_topi (nI_add _ _) ?_
          refine x_iload (i := 4) C dL_act_426 rfl ?_
          refine x_bipush (v := nI 68) C dL_act_428 (by decide) ?_
          refine x_idiv C dL_act_430 (nI_ne0 (by omega) (by omega)) ?_
          refine x_topi (pk_div (by omega) (by omega) (by omega)) ?_
          refine x_sipush (v := nI 1001) C dL_act_431 (by decide) ?_
          refine x_irem C dL_act_434 (nI_ne0 (by omega) (by omega)) ?_
          refine x_topi (pk_rem (by omega) (by omega) (by omega)) ?_
          refine x_callSWi (As := [.ref (a 0), .int (nI (iJ m (x / 32))), .int (nI ((((x / 32) / 6) % 60))), .int (nI ((60 + (((x / 32) / 360) % 41)))), .int (nI ((1 + (((x / 32) / 17) % 4)))), .int (nI ((((x / 32) / 68) % 1001)))]) C hE (k_L_rules l hfl D cy a A _ V h (nI (iJ m (x / 32))) (nI ((((x / 32) / 6) % 60))) (nI ((60 + (((x / 32) / 360) % 41)))) (nI ((1 + (((x / 32) / 17) % 4)))) (nI ((((x / 32) / 68) % 1001)))) (vx_cwSW 6 C.2.2.2.2.1 gL_act_L_rules rfl rfl rfl (by decide +kernel) ⟨Nat.le_of_ble_eq_true rfl, Nat.le_of_ble_eq_true rfl⟩) rfl rfl (Nat.le_of_ble_eq_true rfl) dL_act_435 ⟨by show _ ≤ 100; omega, by show _ ≤ 600; omega⟩ (fun r_435 u_435 h_435 => ?_)
          exact x_iret (σ := XV) (Wf := fun (u : XV) => cW cy a (nX cy o f :: Y) u) (post := fun (r : Int32) (u : XV) => r = (actF V n m x).1 ∧ u = (actF V n m x).2) (u := u_435) C dL_act_438 ⟨by show _ ≤ 100; omega, by show _ ≤ 600; omega⟩ ⟨h_435.1.trans (congrArg Prod.fst hF).symm, h_435.2.trans (congrArg Prod.snd hF).symm⟩
        · refine x_subm (lv' := [(6, .int (nI (iJ m (x / 32)))), (5, .int (nI (iJ n (x / 32)))), (4, .int (nI ((x / 32)))), (3, .int (nI S)), (2, .int (nI x)), (1, .ref o), (0, .ref (a 0))]) ?_ rfl
          rcases (show x % 32 = 14 ∨ x % 32 = 15 ∨ x % 32 = 16 by omega) with hv | hv | hv
          · rw [hv]
            exact x_tabIn (tgt := 394) C dL_act_48 (by decide) (by decide) (show _ = some _ from rfl) (by decide) j_394
          · rw [hv]
            exact x_tabIn (tgt := 394) C dL_act_48 (by decide) (by decide) (show _ = some _ from rfl) (by decide) j_394
          · rw [hv]
            exact x_tabIn (tgt := 394) C dL_act_48 (by decide) (by decide) (show _ = some _ from rfl) (by decide) j_394
      by_cases d8 : x % 32 ≤ 17
      · have hF : actF V n m x = rToggle V (nI (iJ m (x / 32))) := (if_neg d0).trans ((if_neg d1).trans ((if_neg d2).trans ((if_neg d3).trans ((if_neg d4).trans ((if_neg d5).trans ((if_neg d6).trans ((if_neg d7).trans (if_pos d8))))))))
        have hv : x % 32 = 17 := by omega
        rw [hv]
        refine x_tabIn (tgt := 439) C dL_act_48 (by decide) (by decide) (show _ = some _ from rfl) (by decide) ?_
        refine x_aload_n (i := 0) C dL_act_439 rfl rfl ?_
        refine x_iload (i := 6) C dL_act_440 rfl ?_
        refine x_callSWi (As := [.ref (a 0), .int (nI (iJ m (x / 32)))]) C hE (k_L_toggles l hfl D cy a A _ V h (nI (iJ m (x / 32)))) (vx_cwSW 2 C.2.2.2.2.1 gL_act_L_toggles rfl rfl rfl (by decide +kernel) ⟨Nat.le_of_ble_eq_true rfl, Nat.le_of_ble_eq_true rfl⟩) rfl rfl (Nat.le_of_ble_eq_true rfl) dL_act_442 ⟨by show _ ≤ 100; omega, by show _ ≤ 600; omega⟩ (fun r_442 u_442 h_442 => ?_)
        exact x_iret (σ := XV) (Wf := fun (u : XV) => cW cy a (nX cy o f :: Y) u) (post := fun (r : Int32) (u : XV) => r = (actF V n m x).1 ∧ u = (actF V n m x).2) (u := u_442) C dL_act_445 ⟨by show _ ≤ 100; omega, by show _ ≤ 600; omega⟩ ⟨h_442.1.trans (congrArg Prod.fst hF).symm, h_442.2.trans (congrArg Prod.snd hF).symm⟩
      by_cases d9 : x % 32 ≤ 22
      · have hF : actF V n m x = repF V n (iJ n (x / 32)) (x / 32) n 0 := (if_neg d0).trans ((if_neg d1).trans ((if_neg d2).trans ((if_neg d3).trans ((if_neg d4).trans ((if_neg d5).trans ((if_neg d6).trans ((if_neg d7).trans ((if_neg d8).trans (if_pos d9)))))))))
        refine x_cut (J := 446) (lv' := [(6, .int (nI (iJ m (x / 32)))), (5, .int (nI (iJ n (x / 32)))), (4, .int (nI ((x / 32)))), (3, .int (nI S)), (2, .int (nI x)), (1, .ref o), (0, .ref (a 0))]) (st' := []) (ws' := (cW cy a (nX cy o f :: Y) V)) (k := 0) (n := 0) ?_ (fun j_446 => ?_)
        · skip
          refine x_iconst (v := nI 0) C dL_act_446 (by decide) ?_
          refine x_istore (i := 7) C dL_act_447 (by decide) ?_
          refine x_subm (lv' := [(7, .int (nI 0)), (6, .int (nI (iJ m (x / 32)))), (5, .int (nI (iJ n (x / 32)))), (4, .int (nI ((x / 32)))), (3, .int (nI S)), (2, .int (nI x)), (1, .ref o), (0, .ref (a 0))]) ?_ rfl
          refine x_widen (k := ((0 + 0) + 1 * 0)) (n := ((0 + 0) + 6 * 0)) (by omega) (by omega) ?_
          refine x_count (N := n) (fun j => repF V n (iJ n (x / 32)) (x / 32) n 0 = repF V n (iJ n (x / 32)) (x / 32) (n - j) j → xA p l e rmL_act s m9 _ below meth c D A 10 ((0 + 0) + 1 * j) ((0 + 0) + 6 * j) _ 449 [(7, .int (nI j)), (6, .int (nI (iJ m (x / 32)))), (5, .int (nI (iJ n (x / 32)))), (4, .int (nI ((x / 32)))), (3, .int (nI S)), (2, .int (nI x)), (1, .ref o), (0, .ref (a 0))] [] (cW cy a (nX cy o f :: Y) V)) ?_ ?_ rfl
          · intro hR
            refine x_iload (i := 7) C dL_act_449 rfl ?_
            refine x_aload_n (i := 0) C dL_act_451 rfl rfl ?_
            refine x_callVi C hE (k_X3_devices l D cy a A _ V) (cwV 0 C.2.2.2.2.1 gL_act_X3_devices rfl rfl rfl (by decide +kernel) ⟨Nat.le_of_ble_eq_true rfl, Nat.le_of_ble_eq_true rfl⟩) 0 (cW_R cy a _ _) rfl rfl rfl rfl (Nat.le_of_ble_eq_true rfl) dL_act_452 ⟨by show _ ≤ 100; omega, by show _ ≤ 600; omega⟩ (fun r_452 u_452 h_452 => ?_)
            obtain ⟨rfl, rfl⟩ := rz_w (gJ_n h).1 h_452
            refine x_icmp_ge C 512 dL_act_455 (by decide) (fun c_455 => ?_) (fun c_455 => absurd (nI_le (Nat.le_refl _) (by omega)) c_455)
            refine x_aload_n (i := 0) C dL_act_512 rfl rfl ?_
            refine x_iload (i := 5) C dL_act_513 rfl ?_
            refine x_iconst (v := nI 1) C dL_act_515 (by decide) ?_
            refine x_callSWi (As := [.ref (a 0), .int (nI (iJ n (x / 32))), .int (nI 1)]) C hE (k_L_reports l hfl D cy a A _ V h (nI (iJ n (x / 32))) (nI 1)) (vx_cwSW 3 C.2.2.2.2.1 gL_act_L_reports rfl rfl rfl (by decide +kernel) ⟨Nat.le_of_ble_eq_true rfl, Nat.le_of_ble_eq_true rfl⟩) rfl rfl (Nat.le_of_ble_eq_true rfl) dL_act_516 ⟨by show _ ≤ 100; omega, by show _ ≤ 600; omega⟩ (fun r_516 u_516 h_516 => ?_)
            exact x_iret (σ := XV) (Wf := fun (u : XV) => cW cy a (nX cy o f :: Y) u) (post := fun (r : Int32) (u : XV) => r = (actF V n m x).1 ∧ u = (actF V n m x).2) (u := u_516) C dL_act_519 ⟨by show _ ≤ 100; omega, by show _ ≤ 600; omega⟩ ⟨h_516.1.trans (congrArg Prod.fst (hF.trans (hR.trans (show repF V n (iJ n (x / 32)) (x / 32) (n - n) n = rReport V (nI (iJ n (x / 32))) (nI 1) by rw [Nat.sub_self]; rfl)))).symm, h_516.2.trans (congrArg Prod.snd (hF.trans (hR.trans (show repF V n (iJ n (x / 32)) (x / 32) (n - n) n = rReport V (nI (iJ n (x / 32))) (nI 1) by rw [Nat.sub_self]; rfl)))).symm⟩
          · intro j hj ihj hR
            have hn0 : 0 < n := by omega
            have hml : (iJ n (x / 32) + j) % n < n := Nat.mod_lt _ hn0
            have hS : repF V n (iJ n (x / 32)) (x / 32) (n - j) j = (if V (9 + (iJ n (x / 32) + j) % n) 6 = 2 then rReport V (nI ((iJ n (x / 32) + j) % n)) (if 0 < x / 32 / 10 % 4 then nI 1 else nI 0) else repF V n (iJ n (x / 32)) (x / 32) (n - (j + 1)) (j + 1)) := by
              rw [show n - j = (n - (j + 1)) + 1 by omega]; rfl
            refine x_iload (i := 7) C dL_act_449 rfl ?_
            refine x_aload_n (i := 0) C dL_act_451 rfl rfl ?_
            refine x_callVi C hE (k_X3_devices l D cy a A _ V) (cwV 0 C.2.2.2.2.1 gL_act_X3_devices rfl rfl rfl (by decide +kernel) ⟨Nat.le_of_ble_eq_true rfl, Nat.le_of_ble_eq_true rfl⟩) 0 (cW_R cy a _ _) rfl rfl rfl rfl (Nat.le_of_ble_eq_true rfl) dL_act_452 ⟨by show _ ≤ 100; omega, by show _ ≤ 600; omega⟩ (fun r_452 u_452 h_452 => ?_)
            obtain ⟨rfl, rfl⟩ := rz_w (gJ_n h).1 h_452
            refine x_icmp_ge C 512 dL_act_455 (by decide) (fun c_455 => absurd c_455 (nI_ge hj (by omega))) (fun c_455 => ?_)
            refine x_aload_n (i := 0) C dL_act_458 rfl rfl ?_
            refine x_iload (i := 5) C dL_act_459 rfl ?_
            refine x_iload (i := 7) C dL_act_461 rfl ?_
            refine x_iadd C dL_act_463 ?_
            refine x_topi (nI_add _ _) ?_
            refine x_aload_n (i := 0) C dL_act_464 rfl rfl ?_
            refine x_callVi C hE (k_X3_devices l D cy a A _ V) (cwV 0 C.2.2.2.2.1 gL_act_X3_devices rfl rfl rfl (by decide +kernel) ⟨Nat.le_of_ble_eq_true rfl, Nat.le_of_ble_eq_true rfl⟩) 0 (cW_R cy a _ _) rfl rfl rfl rfl (Nat.le_of_ble_eq_true rfl) dL_act_465 ⟨by show _ ≤ 100; omega, by show _ ≤ 600; omega⟩ (fun r_465 u_465 h_465 => ?_)
            obtain ⟨rfl, rfl⟩ := rz_w (gJ_n h).1 h_465
            refine x_irem C dL_act_468 (nI_ne0 (by omega) (by omega)) ?_
            refine x_topi (pk_rem (by omega) (by omega) (by omega)) ?_
            refine x_callSWi (As := [.ref (a 0), .int (nI (((iJ n (x / 32) + j) % n)))]) C hE (k_L_state l hfl D cy a A _ V h (nI (((iJ n (x / 32) + j) % n)))) (vx_cwSW 2 C.2.2.2.2.1 gL_act_L_state rfl rfl rfl (by decide +kernel) ⟨Nat.le_of_ble_eq_true rfl, Nat.le_of_ble_eq_true rfl⟩) rfl rfl (Nat.le_of_ble_eq_true rfl) dL_act_469 ⟨by show _ ≤ 100; omega, by show _ ≤ 600; omega⟩ (fun r_469 u_469 h_469 => ?_)
            obtain ⟨rfl, rfl⟩ := rn_w (nDx_at h hml) (show V (9 + (nI ((iJ n (x / 32) + j) % n)).toNatClampNeg) 6 = V (9 + (iJ n (x / 32) + j) % n) 6 by rw [nI_clamp (by omega)]) h_469
            refine x_iconst (v := nI 2) C dL_act_472 (by decide) ?_
            refine x_icmp_ne C 506 dL_act_473 (by decide) (fun c_473 => ?_) (fun c_473 => ?_)
            · refine x_iinc (v := nI (j + 1)) C dL_act_506 rfl (nI_1 _) ?_
              refine x_goto C 449 dL_act_509 (by decide) ?_
              refine x_subm (lv' := [(7, .int (nI ((j + 1)))), (6, .int (nI (iJ m (x / 32)))), (5, .int (nI (iJ n (x / 32)))), (4, .int (nI ((x / 32)))), (3, .int (nI S)), (2, .int (nI x)), (1, .ref o), (0, .ref (a 0))]) ?_ rfl
              exact x_widen (by omega) (by omega) (ihj (hR.trans (hS.trans (if_neg c_473))))
            · have hc2 : V (9 + (iJ n (x / 32) + j) % n) 6 = 2 := c_473
              refine x_aload_n (i := 0) C dL_act_476 rfl rfl ?_
              refine x_iload (i := 5) C dL_act_477 rfl ?_
              refine x_iload (i := 7) C dL_act_479 rfl ?_
              refine x_iadd C dL_act_481 ?_
              refine x_topi (nI_add _ _) ?_
              refine x_aload_n (i := 0) C dL_act_482 rfl rfl ?_
              refine x_callVi C hE (k_X3_devices l D cy a A _ V) (cwV 0 C.2.2.2.2.1 gL_act_X3_devices rfl rfl rfl (by decide +kernel) ⟨Nat.le_of_ble_eq_true rfl, Nat.le_of_ble_eq_true rfl⟩) 0 (cW_R cy a _ _) rfl rfl rfl rfl (Nat.le_of_ble_eq_true rfl) dL_act_483 ⟨by show _ ≤ 100; omega, by show _ ≤ 600; omega⟩ (fun r_483 u_483 h_483 => ?_)
              obtain ⟨rfl, rfl⟩ := rz_w (gJ_n h).1 h_483
              refine x_irem C dL_act_486 (nI_ne0 (by omega) (by omega)) ?_
              refine x_topi (pk_rem (by omega) (by omega) (by omega)) ?_
              refine x_join (J := 502) (st' := [.int (nI (((iJ n (x / 32) + j) % n))), .ref (a 0)]) (fun z => z = (if 0 < x / 32 / 10 % 4 then nI 1 else nI 0)) (fun w_502 e_502 => ?_) (fun j_502 => ?_)
              · subst e_502
                refine x_callSWi (As := [.ref (a 0), .int (nI (((iJ n (x / 32) + j) % n))), .int ((if 0 < x / 32 / 10 % 4 then nI 1 else nI 0))]) C hE (k_L_reports l hfl D cy a A _ V h (nI (((iJ n (x / 32) + j) % n))) ((if 0 < x / 32 / 10 % 4 then nI 1 else nI 0))) (vx_cwSW 3 C.2.2.2.2.1 gL_act_L_reports rfl rfl rfl (by decide +kernel) ⟨Nat.le_of_ble_eq_true rfl, Nat.le_of_ble_eq_true rfl⟩) rfl rfl (Nat.le_of_ble_eq_true rfl) dL_act_502 ⟨by show _ ≤ 100; omega, by show _ ≤ 600; omega⟩ (fun r_502 u_502 h_502 => ?_)
                exact x_iret (σ := XV) (Wf := fun (u : XV) => cW cy a (nX cy o f :: Y) u) (post := fun (r : Int32) (u : XV) => r = (actF V n m x).1 ∧ u = (actF V n m x).2) (u := u_502) C dL_act_505 ⟨by show _ ≤ 100; omega, by show _ ≤ 600; omega⟩ ⟨h_502.1.trans (congrArg Prod.fst (hF.trans (hR.trans (hS.trans (if_pos hc2))))).symm, h_502.2.trans (congrArg Prod.snd (hF.trans (hR.trans (hS.trans (if_pos hc2))))).symm⟩
              · refine x_iload (i := 4) C dL_act_487 rfl ?_
                refine x_bipush (v := nI 10) C dL_act_489 (by decide) ?_
                refine x_idiv C dL_act_491 (nI_ne0 (by omega) (by omega)) ?_
                refine x_topi (pk_div (by omega) (by omega) (by omega)) ?_
                refine x_iconst (v := nI 4) C dL_act_492 (by decide) ?_
                refine x_irem C dL_act_493 (nI_ne0 (by omega) (by omega)) ?_
                refine x_topi (pk_rem (by omega) (by omega) (by omega)) ?_
                refine x_if_le C 501 dL_act_494 (by decide) (fun c_494 => ?_) (fun c_494 => ?_)
                · refine x_iconst (v := nI 0) C dL_act_501 (by decide) ?_
                  exact j_502 _ (if_neg (fun q => absurd c_494 (nI_nle q (by omega)))).symm
                · refine x_iconst (v := nI 1) C dL_act_497 (by decide) ?_
                  refine x_goto C 502 dL_act_498 (by decide) ?_
                  exact j_502 _ (if_pos (Nat.pos_of_ne_zero (fun q => c_494 (by rw [q]; decide)))).symm
        · refine x_subm (lv' := [(6, .int (nI (iJ m (x / 32)))), (5, .int (nI (iJ n (x / 32)))), (4, .int (nI ((x / 32)))), (3, .int (nI S)), (2, .int (nI x)), (1, .ref o), (0, .ref (a 0))]) ?_ rfl
          rcases (show x % 32 = 18 ∨ x % 32 = 19 ∨ x % 32 = 20 ∨ x % 32 = 21 ∨ x % 32 = 22 by omega) with hv | hv | hv | hv | hv
          · rw [hv]
            exact x_tabIn (tgt := 446) C dL_act_48 (by decide) (by decide) (show _ = some _ from rfl) (by decide) j_446
          · rw [hv]
            exact x_tabIn (tgt := 446) C dL_act_48 (by decide) (by decide) (show _ = some _ from rfl) (by decide) j_446
          · rw [hv]
            exact x_tabIn (tgt := 446) C dL_act_48 (by decide) (by decide) (show _ = some _ from rfl) (by decide) j_446
          · rw [hv]
            exact x_tabIn (tgt := 446) C dL_act_48 (by decide) (by decide) (show _ = some _ from rfl) (by decide) j_446
          · rw [hv]
            exact x_tabIn (tgt := 446) C dL_act_48 (by decide) (by decide) (show _ = some _ from rfl) (by decide) j_446
      have hF : actF V n m x = rPass V n m (nI (1 + x / 32 % 12)) := (if_neg d0).trans ((if_neg d1).trans ((if_neg d2).trans ((if_neg d3).trans ((if_neg d4).trans ((if_neg d5).trans ((if_neg d6).trans ((if_neg d7).trans ((if_neg d8).trans (if_neg d9)))))))))
      refine x_tabOut (tgt := 520) C dL_act_48 (Or.inr (by rw [nI_ti (by omega)]; omega)) (by decide) ?_
      refine x_iconst (v := nI 1) C dL_act_520 (by decide) ?_
      refine x_iload (i := 4) C dL_act_521 rfl ?_
      refine x_bipush (v := nI 12) C dL_act_523 (by decide) ?_
      refine x_irem C dL_act_525 (nI_ne0 (by omega) (by omega)) ?_
      refine x_topi (pk_rem (by omega) (by omega) (by omega)) ?_
      refine x_iadd C dL_act_526 ?_
      refine x_topi (nI_add _ _) ?_
      refine x_istore (i := 7) C dL_act_527 (by decide) ?_
      refine x_iconst (v := nI 0) C dL_act_529 (by decide) ?_
      refine x_istore (i := 8) C dL_act_530 (by decide) ?_
      rcases hs01 with rfl | rfl
      · refine x_iconst (v := nI 0) C dL_act_532 (by decide) ?_
        refine x_istore (i := 9) C dL_act_533 (by decide) ?_
        refine x_iload (i := 9) C dL_act_535 rfl ?_
        refine x_iload (i := 7) C dL_act_537 rfl ?_
        refine x_icmp_ge C 562 dL_act_539 (by decide) (fun c_539 => absurd c_539 (nI_ge (by omega) (by omega))) (fun c_539 => ?_)
        refine x_iload_n (i := 3) C dL_act_542 rfl rfl ?_
        refine x_if_eq C 562 dL_act_543 (by decide) (fun c_543 => ?_) (fun c_543 => absurd rfl c_543)
        refine x_iload_n (i := 3) C dL_act_562 rfl rfl ?_
        refine x_if_eq C 571 dL_act_563 (by decide) (fun c_563 => ?_) (fun c_563 => absurd rfl c_563)
        refine x_aload_n (i := 0) C dL_act_571 rfl rfl ?_
        refine x_iload (i := 7) C dL_act_572 rfl ?_
        refine x_callSWi (As := [.ref (a 0), .int (nI ((1 + ((x / 32) % 12))))]) C hE (k_L_passes l hfl D cy a A _ V h (nI ((1 + ((x / 32) % 12))))) (vx_cwSW 2 C.2.2.2.2.1 gL_act_L_passes rfl rfl rfl (by decide +kernel) ⟨Nat.le_of_ble_eq_true rfl, Nat.le_of_ble_eq_true rfl⟩) rfl rfl (Nat.le_of_ble_eq_true rfl) dL_act_574 ⟨by show _ ≤ 100; omega, by show _ ≤ 600; omega⟩ (fun r_574 u_574 h_574 => ?_)
        exact x_iret (σ := XV) (Wf := fun (u : XV) => cW cy a (nX cy o f :: Y) u) (post := fun (r : Int32) (u : XV) => r = (actF V n m x).1 ∧ u = (actF V n m x).2) (u := u_574) C dL_act_577 ⟨by show _ ≤ 100; omega, by show _ ≤ 600; omega⟩ ⟨h_574.1.trans (congrArg Prod.fst hF).symm, h_574.2.trans (congrArg Prod.snd hF).symm⟩
      · refine x_iconst (v := nI 0) C dL_act_532 (by decide) ?_
        refine x_istore (i := 9) C dL_act_533 (by decide) ?_
        refine x_ws (show cW cy a (nX cy o f :: Y) V = cW cy a (nX cy o f :: Y) (paV V n m 0) from rfl) ?_
        refine x_subm (lv' := [(9, .int (nI 0)), (8, .int (paT V n m 0)), (7, .int (nI ((1 + ((x / 32) % 12))))), (6, .int (nI (iJ m (x / 32)))), (5, .int (nI (iJ n (x / 32)))), (4, .int (nI ((x / 32)))), (3, .int (nI 1)), (2, .int (nI x)), (1, .ref o), (0, .ref (a 0))]) ?_ rfl
        refine x_widen (k := ((0 + 0) + 1 * 0)) (n := ((0 + 0) + 6 * 0)) (by omega) (by omega) ?_
        refine x_count (N := (1 + x / 32 % 12)) (fun j => xA p l e rmL_act s m9 _ below meth c D A 10 ((0 + 0) + 1 * j) ((0 + 0) + 6 * j) _ 535 [(9, .int (nI j)), (8, .int (paT V n m j)), (7, .int (nI ((1 + ((x / 32) % 12))))), (6, .int (nI (iJ m (x / 32)))), (5, .int (nI (iJ n (x / 32)))), (4, .int (nI ((x / 32)))), (3, .int (nI 1)), (2, .int (nI x)), (1, .ref o), (0, .ref (a 0))] [] (cW cy a (nX cy o f :: Y) (paV V n m j))) ?_ ?_ 
        · refine x_iload (i := 9) C dL_act_535 rfl ?_
          refine x_iload (i := 7) C dL_act_537 rfl ?_
          refine x_icmp_ge C 562 dL_act_539 (by decide) (fun c_539 => ?_) (fun c_539 => absurd (nI_le (Nat.le_refl _) (by omega)) c_539)
          refine x_iload_n (i := 3) C dL_act_562 rfl rfl ?_
          refine x_if_eq C 571 dL_act_563 (by decide) (fun c_563 => absurd c_563 (by decide)) (fun c_563 => ?_)
          refine x_iload (i := 8) C dL_act_566 rfl ?_
          refine x_goto C 577 dL_act_568 (by decide) ?_
          exact x_iret (σ := XV) (Wf := fun (u : XV) => cW cy a (nX cy o f :: Y) u) (post := fun (r : Int32) (u : XV) => r = (actF V n m x).1 ∧ u = (actF V n m x).2) (u := paV V n m (1 + x / 32 % 12)) C dL_act_577 ⟨by show _ ≤ 100; omega, by show _ ≤ 600; omega⟩ (by rw [hF, rPass_eq V n m (by omega) (by omega)]; exact ⟨rfl, rfl⟩)
        · intro j hj ihj 
          refine x_iload (i := 9) C dL_act_535 rfl ?_
          refine x_iload (i := 7) C dL_act_537 rfl ?_
          refine x_icmp_ge C 562 dL_act_539 (by decide) (fun c_539 => absurd c_539 (nI_ge hj (by omega))) (fun c_539 => ?_)
          refine x_iload_n (i := 3) C dL_act_542 rfl rfl ?_
          refine x_if_eq C 562 dL_act_543 (by decide) (fun c_543 => absurd c_543 (by decide)) (fun c_543 => ?_)
          refine x_iload (i := 8) C dL_act_546 rfl ?_
          refine x_aload_n (i := 0) C dL_act_548 rfl rfl ?_
          refine x_iconst (v := nI 1) C dL_act_549 (by decide) ?_
          refine x_callSWi (As := [.ref (a 0), .int (nI 1)]) C hE (k_L_passes l hfl D cy a A _ (paV V n m j) (gJ_pa h j) (nI 1)) (vx_cwSW 2 C.2.2.2.2.1 gL_act_L_passes rfl rfl rfl (by decide +kernel) ⟨Nat.le_of_ble_eq_true rfl, Nat.le_of_ble_eq_true rfl⟩) rfl rfl (Nat.le_of_ble_eq_true rfl) dL_act_550 ⟨by show _ ≤ 100; omega, by show _ ≤ 600; omega⟩ (fun r_550 u_550 h_550 => ?_)
          obtain ⟨rfl, rfl⟩ := ru_w (U' := paV V n m (j + 1)) (show nRx 1 1 100 = none by decide) (show paT (paV V n m j) n m (nI 1).toNatClampNeg = poT (paV V n m j) m n by rw [show (nI 1).toNatClampNeg = 1 by decide]; exact paT_s _ n m) (by rw [show (nI 1).toNatClampNeg = 1 by decide]; rfl) h_550
          refine x_iadd C dL_act_553 ?_
          refine x_topi (y := paT V n m (j + 1)) rfl ?_
          refine x_istore (i := 8) C dL_act_554 (by decide) ?_
          refine x_iinc (v := nI (j + 1)) C dL_act_556 rfl (nI_1 _) ?_
          refine x_goto C 535 dL_act_559 (by decide) ?_
          refine x_subm (lv' := [(9, .int (nI ((j + 1)))), (8, .int (paT V n m (j + 1))), (7, .int (nI ((1 + ((x / 32) % 12))))), (6, .int (nI (iJ m (x / 32)))), (5, .int (nI (iJ n (x / 32)))), (4, .int (nI ((x / 32)))), (3, .int (nI 1)), (2, .int (nI x)), (1, .ref o), (0, .ref (a 0))]) ?_ rfl
          exact x_widen (by omega) (by omega) ihj
    · refine x_aload_n (i := 1) C dL_act_26 rfl rfl ?_
      refine x_iconst (v := nI 0) C dL_act_27 (by decide) ?_
      refine x_nrd C hf dL_act_28 ?_
      refine x_if_ne C 36 dL_act_29 (by decide) (fun c_29 => ?_) (fun c_29 => ?_)
      · have hm0 : 0 < m := Nat.pos_of_ne_zero (fun q => c_29 (by rw [q]; rfl))
        refine x_iload (i := 4) C dL_act_36 rfl ?_
        refine x_aload_n (i := 1) C dL_act_38 rfl rfl ?_
        refine x_iconst (v := nI 0) C dL_act_39 (by decide) ?_
        refine x_nrd C hf dL_act_40 ?_
        refine x_irem C dL_act_41 (nI_ne0 (by omega) (by omega)) ?_
        refine x_topi (pk_rem (by omega) (by omega) (by omega)) ?_
        exact j_42 _ (by rw [iJ_1 (fun q => c_29 (by rw [q]; rfl))])
      · refine x_iconst (v := nI 0) C dL_act_32 (by decide) ?_
        refine x_goto C 42 dL_act_33 (by decide) ?_
        exact j_42 _ (by rw [iJ_0 ((nI_eq0 (by omega)).mp c_29)])
  · refine x_aload_n (i := 0) C dL_act_6 rfl rfl ?_
    refine x_callVi C hE (k_X3_devices l D cy a A _ V) (cwV 0 C.2.2.2.2.1 gL_act_X3_devices rfl rfl rfl (by decide +kernel) ⟨Nat.le_of_ble_eq_true rfl, Nat.le_of_ble_eq_true rfl⟩) 0 (cW_R cy a _ _) rfl rfl rfl rfl (Nat.le_of_ble_eq_true rfl) dL_act_7 ⟨by show _ ≤ 100; omega, by show _ ≤ 600; omega⟩ (fun r_7 u_7 h_7 => ?_)
    obtain ⟨rfl, rfl⟩ := rz_w (gJ_n h).1 h_7
    refine x_if_ne C 17 dL_act_10 (by decide) (fun c_10 => ?_) (fun c_10 => ?_)
    · have hn0 : 0 < n := Nat.pos_of_ne_zero (fun q => c_10 (by rw [q]; rfl))
      refine x_iload (i := 4) C dL_act_17 rfl ?_
      refine x_aload_n (i := 0) C dL_act_19 rfl rfl ?_
      refine x_callVi C hE (k_X3_devices l D cy a A _ V) (cwV 0 C.2.2.2.2.1 gL_act_X3_devices rfl rfl rfl (by decide +kernel) ⟨Nat.le_of_ble_eq_true rfl, Nat.le_of_ble_eq_true rfl⟩) 0 (cW_R cy a _ _) rfl rfl rfl rfl (Nat.le_of_ble_eq_true rfl) dL_act_20 ⟨by show _ ≤ 100; omega, by show _ ≤ 600; omega⟩ (fun r_20 u_20 h_20 => ?_)
      obtain ⟨rfl, rfl⟩ := rz_w (gJ_n h).1 h_20
      refine x_irem C dL_act_23 (nI_ne0 (by omega) (by omega)) ?_
      refine x_topi (pk_rem (by omega) (by omega) (by omega)) ?_
      exact j_24 _ (by rw [iJ_1 (fun q => c_10 (by rw [q]; rfl))])
    · refine x_iconst (v := nI 0) C dL_act_13 (by decide) ?_
      refine x_goto C 24 dL_act_14 (by decide) ?_
      exact j_24 _ (by rw [iJ_0 ((nI_eq0 (by omega)).mp c_10)])
/-! ===== END act ===== -/
