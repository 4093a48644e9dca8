/-! ===== BEGIN refuses ===== -/
def rmL_refuses : Room := { frames := 13, cells := 149, slots := 894, locals := 397 }
set_option maxHeartbeats 40000000 in
set_option maxRecDepth 100000 in
theorem k_L_refuses (l : Launch) (hfl : l.stackTraces = false) (D : va_G) (cy : Nat → ClassId) (a : Nat → Nat) (o : Nat) (f : Nat → Int32) (A : Nat → Prop) (Y : va_W) (V : XV) {n m : Nat} (h : gJ V n m) (hf : f 0 = nI m) {X : Nat} (hX : X < 10000) : Met l yL_refuses wsL_refuses rmL_refuses (va_Pc [.ref (a 0), .ref o, .int (nI X)] (xPre D (tyC cy) A (cW cy a (nX cy o f :: Y) V))) (va_Qi (fun (r : Int32) (u : XV) => r = 1 ∧ u = V) (fun u t => xPost D (tyC cy) A (cW cy a (nX cy o f :: Y) u) t) A) 149 894 A := by
  have hn10 := h.2.1
  have hm6 := h.2.2.2.1
  refine x_met (own := RL) (by decide) rfl rfl (Nat.le_of_ble_eq_true rfl) rfl ?_
  intro p e s m9 below meth c hnm C hE
  refine x_join (J := 24) (st' := []) (fun z => nDx V z = some xIO) (fun w_24 e_24 => ?_) (fun j_24 => ?_)
  · refine x_istore_n (i := 3) C dL_refuses_24 rfl (by decide) ?_
    refine x_join (J := 47) (st' := []) (fun z => nVx z = some xIO) (fun w_47 e_47 => ?_) (fun j_47 => ?_)
    · refine x_istore (i := 4) C dL_refuses_47 (by decide) ?_
      refine x_join (J := 72) (st' := []) (fun z => nCx V z = some xIO) (fun w_72 e_72 => ?_) (fun j_72 => ?_)
      · refine x_istore (i := 5) C dL_refuses_72 (by decide) ?_
        refine x_iload_n (i := 2) C dL_refuses_74 rfl rfl ?_
        refine x_bipush (v := nI 8) C dL_refuses_75 (by decide) ?_
        refine x_irem C dL_refuses_77 (nI_ne0 (by omega) (by omega)) ?_
        refine x_topi (pk_rem (by omega) (by omega) (by omega)) ?_
        refine x_istore (i := 6) C dL_refuses_78 (by decide) ?_
        refine x_aload_n (i := 0) C dL_refuses_80 rfl rfl ?_
        refine x_iload (i := 4) C dL_refuses_81 rfl ?_
        refine x_iconst (v := (-1)) C dL_refuses_83 (by decide) ?_
        refine x_callSWi (As := [.ref (a 0), .int w_47, .int ((-1))]) C hE (k_L_allows l hfl D cy a A _ V h w_47 ((-1))) (vx_cwSW 3 C.2.2.2.2.1 gL_refuses_L_allows rfl rfl rfl (by decide +kernel) ⟨Nat.le_of_ble_eq_true rfl, Nat.le_of_ble_eq_true rfl⟩) rfl rfl (Nat.le_of_ble_eq_true rfl) dL_refuses_84 ⟨Nat.le_of_ble_eq_true rfl, Nat.le_of_ble_eq_true rfl⟩ (fun r_84 u_84 h_84 => ?_)
        obtain ⟨rfl, rfl⟩ := rf_w (E := xIO) (seqx_1 e_47) h_84
        refine x_ldc (v := (-2000000001)) C (by decide +kernel) dL_refuses_87 ?_
        refine x_icmp_ne C 632 dL_refuses_89 (by decide) (fun c_89 => absurd cdE_IO c_89) (fun c_89 => ?_)
        refine x_aload_n (i := 0) C dL_refuses_92 rfl rfl ?_
        refine x_iload (i := 6) C dL_refuses_93 rfl ?_
        refine x_bipush (v := nI 16) C dL_refuses_95 (by decide) ?_
        refine x_iload_n (i := 2) C dL_refuses_97 rfl rfl ?_
        refine x_iadd C dL_refuses_98 ?_
        refine x_topi (nI_add _ _) ?_
        refine x_callSWi (As := [.ref (a 0), .int (nI ((X % 8))), .int (nI ((16 + X)))]) C hE (k_L_allows l hfl D cy a A _ V h (nI ((X % 8))) (nI ((16 + X)))) (vx_cwSW 3 C.2.2.2.2.1 gL_refuses_L_allows rfl rfl rfl (by decide +kernel) ⟨Nat.le_of_ble_eq_true rfl, Nat.le_of_ble_eq_true rfl⟩) rfl rfl (Nat.le_of_ble_eq_true rfl) dL_refuses_99 ⟨Nat.le_of_ble_eq_true rfl, Nat.le_of_ble_eq_true rfl⟩ (fun r_99 u_99 h_99 => ?_)
        obtain ⟨rfl, rfl⟩ := rf_w (E := xIA) (seqx_2 (nVx_at (j := X % 8) (by omega)) (nR_hi (H := 15) (by omega) (by omega))) h_99
        refine x_ldc (v := (-2000000002)) C (by decide +kernel) dL_refuses_102 ?_
        refine x_icmp_ne C 632 dL_refuses_104 (by decide) (fun c_104 => absurd cdE_IA c_104) (fun c_104 => ?_)
        refine x_aload_n (i := 0) C dL_refuses_107 rfl rfl ?_
        refine x_iload (i := 6) C dL_refuses_108 rfl ?_
        refine x_iconst (v := (-1)) C dL_refuses_110 (by decide) ?_
        refine x_iload_n (i := 2) C dL_refuses_111 rfl rfl ?_
        refine x_isub C dL_refuses_112 ?_
        refine x_callSWi (As := [.ref (a 0), .int (nI ((X % 8))), .int (((-1) - nI X))]) C hE (k_L_allows l hfl D cy a A _ V h (nI ((X % 8))) (((-1) - nI X))) (vx_cwSW 3 C.2.2.2.2.1 gL_refuses_L_allows rfl rfl rfl (by decide +kernel) ⟨Nat.le_of_ble_eq_true rfl, Nat.le_of_ble_eq_true rfl⟩) rfl rfl (Nat.le_of_ble_eq_true rfl) dL_refuses_113 ⟨Nat.le_of_ble_eq_true rfl, Nat.le_of_ble_eq_true rfl⟩ (fun r_113 u_113 h_113 => ?_)
        obtain ⟨rfl, rfl⟩ := rf_w (E := xIA) (seqx_2 (nVx_at (j := X % 8) (by omega)) (nR_m1 (L := 0) (by omega) (by omega))) h_113
        refine x_ldc (v := (-2000000002)) C (by decide +kernel) dL_refuses_116 ?_
        refine x_icmp_ne C 632 dL_refuses_118 (by decide) (fun c_118 => absurd cdE_IA c_118) (fun c_118 => ?_)
        refine x_aload_n (i := 0) C dL_refuses_121 rfl rfl ?_
        refine x_iload (i := 4) C dL_refuses_122 rfl ?_
        refine x_iconst (v := nI 0) C dL_refuses_124 (by decide) ?_
        refine x_callSWi (As := [.ref (a 0), .int w_47, .int (nI 0)]) C hE (k_L_images l hfl D cy a A _ V h w_47 (nI 0)) (vx_cwSW 3 C.2.2.2.2.1 gL_refuses_L_images rfl rfl rfl (by decide +kernel) ⟨Nat.le_of_ble_eq_true rfl, Nat.le_of_ble_eq_true rfl⟩) rfl rfl (Nat.le_of_ble_eq_true rfl) dL_refuses_125 ⟨Nat.le_of_ble_eq_true rfl, Nat.le_of_ble_eq_true rfl⟩ (fun r_125 u_125 h_125 => ?_)
        obtain ⟨rfl, rfl⟩ := rf_w (E := xIO) (seqx_1 e_47) h_125
        refine x_ldc (v := (-2000000001)) C (by decide +kernel) dL_refuses_128 ?_
        refine x_icmp_ne C 632 dL_refuses_130 (by decide) (fun c_130 => absurd cdE_IO c_130) (fun c_130 => ?_)
        refine x_aload_n (i := 0) C dL_refuses_133 rfl rfl ?_
        refine x_iload (i := 6) C dL_refuses_134 rfl ?_
        refine x_iconst (v := nI 0) C dL_refuses_136 (by decide) ?_
        refine x_callSWi (As := [.ref (a 0), .int (nI ((X % 8))), .int (nI 0)]) C hE (k_L_images l hfl D cy a A _ V h (nI ((X % 8))) (nI 0)) (vx_cwSW 3 C.2.2.2.2.1 gL_refuses_L_images rfl rfl rfl (by decide +kernel) ⟨Nat.le_of_ble_eq_true rfl, Nat.le_of_ble_eq_true rfl⟩) rfl rfl (Nat.le_of_ble_eq_true rfl) dL_refuses_137 ⟨Nat.le_of_ble_eq_true rfl, Nat.le_of_ble_eq_true rfl⟩ (fun r_137 u_137 h_137 => ?_)
        obtain ⟨rfl, rfl⟩ := rf_w (E := xIA) (seqx_2 (nVx_at (j := X % 8) (by omega)) (show nBx 0 = some xIA by decide)) h_137
        refine x_ldc (v := (-2000000002)) C (by decide +kernel) dL_refuses_140 ?_
        refine x_icmp_ne C 632 dL_refuses_142 (by decide) (fun c_142 => absurd cdE_IA c_142) (fun c_142 => ?_)
        refine x_aload_n (i := 0) C dL_refuses_145 rfl rfl ?_
        refine x_iload (i := 6) C dL_refuses_146 rfl ?_
        refine x_ldc (v := nI 100001) C (by decide +kernel) dL_refuses_148 ?_
        refine x_iload_n (i := 2) C dL_refuses_150 rfl rfl ?_
        refine x_iadd C dL_refuses_151 ?_
        refine x_topi (nI_add _ _) ?_
        refine x_callSWi (As := [.ref (a 0), .int (nI ((X % 8))), .int (nI ((100001 + X)))]) C hE (k_L_images l hfl D cy a A _ V h (nI ((X % 8))) (nI ((100001 + X)))) (vx_cwSW 3 C.2.2.2.2.1 gL_refuses_L_images rfl rfl rfl (by decide +kernel) ⟨Nat.le_of_ble_eq_true rfl, Nat.le_of_ble_eq_true rfl⟩) rfl rfl (Nat.le_of_ble_eq_true rfl) dL_refuses_152 ⟨Nat.le_of_ble_eq_true rfl, Nat.le_of_ble_eq_true rfl⟩ (fun r_152 u_152 h_152 => ?_)
        obtain ⟨rfl, rfl⟩ := rf_w (E := xIA) (seqx_2 (nVx_at (j := X % 8) (by omega)) (nB_hi (by omega) (by omega))) h_152
        refine x_ldc (v := (-2000000002)) C (by decide +kernel) dL_refuses_155 ?_
        refine x_icmp_ne C 632 dL_refuses_157 (by decide) (fun c_157 => absurd cdE_IA c_157) (fun c_157 => ?_)
        refine x_aload_n (i := 0) C dL_refuses_160 rfl rfl ?_
        refine x_iload (i := 6) C dL_refuses_161 rfl ?_
        refine x_bipush (v := (-2)) C dL_refuses_163 (by decide) ?_
        refine x_iload_n (i := 2) C dL_refuses_165 rfl rfl ?_
        refine x_isub C dL_refuses_166 ?_
        refine x_callSWi (As := [.ref (a 0), .int (nI ((X % 8))), .int (((-2) - nI X))]) C hE (k_L_images l hfl D cy a A _ V h (nI ((X % 8))) (((-2) - nI X))) (vx_cwSW 3 C.2.2.2.2.1 gL_refuses_L_images rfl rfl rfl (by decide +kernel) ⟨Nat.le_of_ble_eq_true rfl, Nat.le_of_ble_eq_true rfl⟩) rfl rfl (Nat.le_of_ble_eq_true rfl) dL_refuses_167 ⟨Nat.le_of_ble_eq_true rfl, Nat.le_of_ble_eq_true rfl⟩ (fun r_167 u_167 h_167 => ?_)
        obtain ⟨rfl, rfl⟩ := rf_w (E := xIA) (seqx_2 (nVx_at (j := X % 8) (by omega)) (nB_m2 (by omega))) h_167
        refine x_ldc (v := (-2000000002)) C (by decide +kernel) dL_refuses_170 ?_
        refine x_icmp_ne C 632 dL_refuses_172 (by decide) (fun c_172 => absurd cdE_IA c_172) (fun c_172 => ?_)
        refine x_aload_n (i := 0) C dL_refuses_175 rfl rfl ?_
        refine x_iload (i := 4) C dL_refuses_176 rfl ?_
        refine x_iload (i := 4) C dL_refuses_178 rfl ?_
        refine x_iconst (v := nI 0) C dL_refuses_180 (by decide) ?_
        refine x_callSWi (As := [.ref (a 0), .int w_47, .int w_47, .int (nI 0)]) C hE (k_L_deltas l hfl D cy a A _ V h w_47 w_47 (nI 0)) (vx_cwSW 4 C.2.2.2.2.1 gL_refuses_L_deltas rfl rfl rfl (by decide +kernel) ⟨Nat.le_of_ble_eq_true rfl, Nat.le_of_ble_eq_true rfl⟩) rfl rfl (Nat.le_of_ble_eq_true rfl) dL_refuses_181 ⟨Nat.le_of_ble_eq_true rfl, Nat.le_of_ble_eq_true rfl⟩ (fun r_181 u_181 h_181 => ?_)
        obtain ⟨rfl, rfl⟩ := rf_w (E := xIO) (seqx_1 e_47) h_181
        refine x_ldc (v := (-2000000001)) C (by decide +kernel) dL_refuses_184 ?_
        refine x_icmp_ne C 632 dL_refuses_186 (by decide) (fun c_186 => absurd cdE_IO c_186) (fun c_186 => ?_)
        refine x_aload_n (i := 0) C dL_refuses_189 rfl rfl ?_
        refine x_iload (i := 6) C dL_refuses_190 rfl ?_
        refine x_iload (i := 4) C dL_refuses_192 rfl ?_
        refine x_iconst (v := nI 0) C dL_refuses_194 (by decide) ?_
        refine x_callSWi (As := [.ref (a 0), .int (nI ((X % 8))), .int w_47, .int (nI 0)]) C hE (k_L_deltas l hfl D cy a A _ V h (nI ((X % 8))) w_47 (nI 0)) (vx_cwSW 4 C.2.2.2.2.1 gL_refuses_L_deltas rfl rfl rfl (by decide +kernel) ⟨Nat.le_of_ble_eq_true rfl, Nat.le_of_ble_eq_true rfl⟩) rfl rfl (Nat.le_of_ble_eq_true rfl) dL_refuses_195 ⟨Nat.le_of_ble_eq_true rfl, Nat.le_of_ble_eq_true rfl⟩ (fun r_195 u_195 h_195 => ?_)
        obtain ⟨rfl, rfl⟩ := rf_w (E := xIO) (seqx_2 (nVx_at (j := X % 8) (by omega)) (seqx_1 e_47)) h_195
        refine x_ldc (v := (-2000000001)) C (by decide +kernel) dL_refuses_198 ?_
        refine x_icmp_ne C 632 dL_refuses_200 (by decide) (fun c_200 => absurd cdE_IO c_200) (fun c_200 => ?_)
        refine x_aload_n (i := 0) C dL_refuses_203 rfl rfl ?_
        refine x_iload (i := 6) C dL_refuses_204 rfl ?_
        refine x_iload (i := 6) C dL_refuses_206 rfl ?_
        refine x_iconst (v := nI 5) C dL_refuses_208 (by decide) ?_
        refine x_callSWi (As := [.ref (a 0), .int (nI ((X % 8))), .int (nI ((X % 8))), .int (nI 5)]) C hE (k_L_deltas l hfl D cy a A _ V h (nI ((X % 8))) (nI ((X % 8))) (nI 5)) (vx_cwSW 4 C.2.2.2.2.1 gL_refuses_L_deltas rfl rfl rfl (by decide +kernel) ⟨Nat.le_of_ble_eq_true rfl, Nat.le_of_ble_eq_true rfl⟩) rfl rfl (Nat.le_of_ble_eq_true rfl) dL_refuses_209 ⟨Nat.le_of_ble_eq_true rfl, Nat.le_of_ble_eq_true rfl⟩ (fun r_209 u_209 h_209 => ?_)
        obtain ⟨rfl, rfl⟩ := rf_w (E := xIA) (seqx_2 (nVx_at (j := X % 8) (by omega)) (seqx_2 (nVx_at (j := X % 8) (by omega)) (if_pos rfl))) h_209
        refine x_ldc (v := (-2000000002)) C (by decide +kernel) dL_refuses_212 ?_
        refine x_icmp_ne C 632 dL_refuses_214 (by decide) (fun c_214 => absurd cdE_IA c_214) (fun c_214 => ?_)
        refine x_aload_n (i := 0) C dL_refuses_217 rfl rfl ?_
        refine x_iload (i := 6) C dL_refuses_218 rfl ?_
        refine x_iload (i := 6) C dL_refuses_220 rfl ?_
        refine x_iconst (v := nI 1) C dL_refuses_222 (by decide) ?_
        refine x_iadd C dL_refuses_223 ?_
        refine x_topi (nI_add _ _) ?_
        refine x_bipush (v := nI 8) C dL_refuses_224 (by decide) ?_
        refine x_irem C dL_refuses_226 (nI_ne0 (by omega) (by omega)) ?_
        refine x_topi (pk_rem (by omega) (by omega) (by omega)) ?_
        refine x_iconst (v := nI 0) C dL_refuses_227 (by decide) ?_
        refine x_callSWi (As := [.ref (a 0), .int (nI ((X % 8))), .int (nI ((((X % 8) + 1) % 8))), .int (nI 0)]) C hE (k_L_deltas l hfl D cy a A _ V h (nI ((X % 8))) (nI ((((X % 8) + 1) % 8))) (nI 0)) (vx_cwSW 4 C.2.2.2.2.1 gL_refuses_L_deltas rfl rfl rfl (by decide +kernel) ⟨Nat.le_of_ble_eq_true rfl, Nat.le_of_ble_eq_true rfl⟩) rfl rfl (Nat.le_of_ble_eq_true rfl) dL_refuses_228 ⟨Nat.le_of_ble_eq_true rfl, Nat.le_of_ble_eq_true rfl⟩ (fun r_228 u_228 h_228 => ?_)
        obtain ⟨rfl, rfl⟩ := rf_w (E := xIA) (seqx_2 (nVx_at (j := X % 8) (by omega)) (seqx_2 (nVx_at (by omega)) ((if_neg (fun q => by have := nI_inj (by omega) (by omega) q; omega)).trans (show nBx 0 = some xIA by decide)))) h_228
        refine x_ldc (v := (-2000000002)) C (by decide +kernel) dL_refuses_231 ?_
        refine x_icmp_ne C 632 dL_refuses_233 (by decide) (fun c_233 => absurd cdE_IA c_233) (fun c_233 => ?_)
        refine x_aload_n (i := 0) C dL_refuses_236 rfl rfl ?_
        refine x_iload (i := 6) C dL_refuses_237 rfl ?_
        refine x_iload (i := 6) C dL_refuses_239 rfl ?_
        refine x_iconst (v := nI 1) C dL_refuses_241 (by decide) ?_
        refine x_iadd C dL_refuses_242 ?_
        refine x_topi (nI_add _ _) ?_
        refine x_bipush (v := nI 8) C dL_refuses_243 (by decide) ?_
        refine x_irem C dL_refuses_245 (nI_ne0 (by omega) (by omega)) ?_
        refine x_topi (pk_rem (by omega) (by omega) (by omega)) ?_
        refine x_ldc (v := nI 100001) C (by decide +kernel) dL_refuses_246 ?_
        refine x_iload_n (i := 2) C dL_refuses_248 rfl rfl ?_
        refine x_iadd C dL_refuses_249 ?_
        refine x_topi (nI_add _ _) ?_
        refine x_callSWi (As := [.ref (a 0), .int (nI ((X % 8))), .int (nI ((((X % 8) + 1) % 8))), .int (nI ((100001 + X)))]) C hE (k_L_deltas l hfl D cy a A _ V h (nI ((X % 8))) (nI ((((X % 8) + 1) % 8))) (nI ((100001 + X)))) (vx_cwSW 4 C.2.2.2.2.1 gL_refuses_L_deltas rfl rfl rfl (by decide +kernel) ⟨Nat.le_of_ble_eq_true rfl, Nat.le_of_ble_eq_true rfl⟩) rfl rfl (Nat.le_of_ble_eq_true rfl) dL_refuses_250 ⟨Nat.le_of_ble_eq_true rfl, Nat.le_of_ble_eq_true rfl⟩ (fun r_250 u_250 h_250 => ?_)
        obtain ⟨rfl, rfl⟩ := rf_w (E := xIA) (seqx_2 (nVx_at (j := X % 8) (by omega)) (seqx_2 (nVx_at (by omega)) ((if_neg (fun q => by have := nI_inj (by omega) (by omega) q; omega)).trans (nB_hi (by omega) (by omega))))) h_250
        refine x_ldc (v := (-2000000002)) C (by decide +kernel) dL_refuses_253 ?_
        refine x_icmp_ne C 632 dL_refuses_255 (by decide) (fun c_255 => absurd cdE_IA c_255) (fun c_255 => ?_)
        refine x_aload_n (i := 0) C dL_refuses_258 rfl rfl ?_
        refine x_iload (i := 4) C dL_refuses_259 rfl ?_
        refine x_iload (i := 6) C dL_refuses_261 rfl ?_
        refine x_callSWi (As := [.ref (a 0), .int w_47, .int (nI ((X % 8)))]) C hE (k_L_size l hfl D cy a A _ V h w_47 (nI ((X % 8)))) (vx_cwSW 3 C.2.2.2.2.1 gL_refuses_L_size rfl rfl rfl (by decide +kernel) ⟨Nat.le_of_ble_eq_true rfl, Nat.le_of_ble_eq_true rfl⟩) rfl rfl (Nat.le_of_ble_eq_true rfl) dL_refuses_263 ⟨Nat.le_of_ble_eq_true rfl, Nat.le_of_ble_eq_true rfl⟩ (fun r_263 u_263 h_263 => ?_)
        obtain ⟨rfl, rfl⟩ := rf_w (E := xIO) (seqx_1 e_47) h_263
        refine x_ldc (v := (-2000000001)) C (by decide +kernel) dL_refuses_266 ?_
        refine x_icmp_ne C 632 dL_refuses_268 (by decide) (fun c_268 => absurd cdE_IO c_268) (fun c_268 => ?_)
        refine x_aload_n (i := 0) C dL_refuses_271 rfl rfl ?_
        refine x_iload (i := 6) C dL_refuses_272 rfl ?_
        refine x_iload (i := 4) C dL_refuses_274 rfl ?_
        refine x_callSWi (As := [.ref (a 0), .int (nI ((X % 8))), .int w_47]) C hE (k_L_byWays l hfl D cy a A _ V h (nI ((X % 8))) w_47) (vx_cwSW 3 C.2.2.2.2.1 gL_refuses_L_byWays rfl rfl rfl (by decide +kernel) ⟨Nat.le_of_ble_eq_true rfl, Nat.le_of_ble_eq_true rfl⟩) rfl rfl (Nat.le_of_ble_eq_true rfl) dL_refuses_276 ⟨Nat.le_of_ble_eq_true rfl, Nat.le_of_ble_eq_true rfl⟩ (fun r_276 u_276 h_276 => ?_)
        obtain ⟨rfl, rfl⟩ := rf_w (E := xIO) (seqx_2 (nVx_at (j := X % 8) (by omega)) e_47) h_276
        refine x_ldc (v := (-2000000001)) C (by decide +kernel) dL_refuses_279 ?_
        refine x_icmp_ne C 632 dL_refuses_281 (by decide) (fun c_281 => absurd cdE_IO c_281) (fun c_281 => ?_)
        refine x_aload_n (i := 0) C dL_refuses_284 rfl rfl ?_
        refine x_iconst (v := nI 4) C dL_refuses_285 (by decide) ?_
        refine x_iload_n (i := 2) C dL_refuses_286 rfl rfl ?_
        refine x_iadd C dL_refuses_287 ?_
        refine x_topi (nI_add _ _) ?_
        refine x_iconst (v := nI 0) C dL_refuses_288 (by decide) ?_
        refine x_callSWi (As := [.ref (a 0), .int (nI ((4 + X))), .int (nI 0)]) C hE (k_L_adds l hfl D cy a A _ V h (nI ((4 + X))) (nI 0)) (vx_cwSW 3 C.2.2.2.2.1 gL_refuses_L_adds rfl rfl rfl (by decide +kernel) ⟨Nat.le_of_ble_eq_true rfl, Nat.le_of_ble_eq_true rfl⟩) rfl rfl (Nat.le_of_ble_eq_true rfl) dL_refuses_289 ⟨Nat.le_of_ble_eq_true rfl, Nat.le_of_ble_eq_true rfl⟩ (fun r_289 u_289 h_289 => ?_)
        obtain ⟨rfl, rfl⟩ := rf_w (E := xIO) (seqx_1 (nKx_no (Or.inr (by rw [nB_ti (by omega)]; omega)))) h_289
        refine x_ldc (v := (-2000000001)) C (by decide +kernel) dL_refuses_292 ?_
        refine x_icmp_ne C 632 dL_refuses_294 (by decide) (fun c_294 => absurd cdE_IO c_294) (fun c_294 => ?_)
        refine x_aload_n (i := 0) C dL_refuses_297 rfl rfl ?_
        refine x_iconst (v := nI 0) C dL_refuses_298 (by decide) ?_
        refine x_iload (i := 4) C dL_refuses_299 rfl ?_
        refine x_callSWi (As := [.ref (a 0), .int (nI 0), .int w_47]) C hE (k_L_adds l hfl D cy a A _ V h (nI 0) w_47) (vx_cwSW 3 C.2.2.2.2.1 gL_refuses_L_adds rfl rfl rfl (by decide +kernel) ⟨Nat.le_of_ble_eq_true rfl, Nat.le_of_ble_eq_true rfl⟩) rfl rfl (Nat.le_of_ble_eq_true rfl) dL_refuses_301 ⟨Nat.le_of_ble_eq_true rfl, Nat.le_of_ble_eq_true rfl⟩ (fun r_301 u_301 h_301 => ?_)
        obtain ⟨rfl, rfl⟩ := rf_w (E := xIO) (seqx_2 (show nKx 0 = none by decide) (seqx_1 e_47)) h_301
        refine x_ldc (v := (-2000000001)) C (by decide +kernel) dL_refuses_304 ?_
        refine x_icmp_ne C 632 dL_refuses_306 (by decide) (fun c_306 => absurd cdE_IO c_306) (fun c_306 => ?_)
        refine x_aload_n (i := 0) C dL_refuses_309 rfl rfl ?_
        refine x_iload_n (i := 3) C dL_refuses_310 rfl rfl ?_
        refine x_bipush (v := nI 101) C dL_refuses_311 (by decide) ?_
        refine x_callSWi (As := [.ref (a 0), .int w_24, .int (nI 101)]) C hE (k_L_charges l hfl D cy a A _ V h w_24 (nI 101)) (vx_cwSW 3 C.2.2.2.2.1 gL_refuses_L_charges rfl rfl rfl (by decide +kernel) ⟨Nat.le_of_ble_eq_true rfl, Nat.le_of_ble_eq_true rfl⟩) rfl rfl (Nat.le_of_ble_eq_true rfl) dL_refuses_313 ⟨Nat.le_of_ble_eq_true rfl, Nat.le_of_ble_eq_true rfl⟩ (fun r_313 u_313 h_313 => ?_)
        obtain ⟨rfl, rfl⟩ := rf_w (E := xIO) (seqx_1 e_24) h_313
        refine x_ldc (v := (-2000000001)) C (by decide +kernel) dL_refuses_316 ?_
        refine x_icmp_ne C 632 dL_refuses_318 (by decide) (fun c_318 => absurd cdE_IO c_318) (fun c_318 => ?_)
        refine x_aload_n (i := 0) C dL_refuses_321 rfl rfl ?_
        refine x_iload_n (i := 3) C dL_refuses_322 rfl rfl ?_
        refine x_bipush (v := nI 24) C dL_refuses_323 (by decide) ?_
        refine x_bipush (v := nI 24) C dL_refuses_325 (by decide) ?_
        refine x_callSWi (As := [.ref (a 0), .int w_24, .int (nI 24), .int (nI 24)]) C hE (k_L_windows l hfl D cy a A _ V h w_24 (nI 24) (nI 24)) (vx_cwSW 4 C.2.2.2.2.1 gL_refuses_L_windows rfl rfl rfl (by decide +kernel) ⟨Nat.le_of_ble_eq_true rfl, Nat.le_of_ble_eq_true rfl⟩) rfl rfl (Nat.le_of_ble_eq_true rfl) dL_refuses_327 ⟨Nat.le_of_ble_eq_true rfl, Nat.le_of_ble_eq_true rfl⟩ (fun r_327 u_327 h_327 => ?_)
        obtain ⟨rfl, rfl⟩ := rf_w (E := xIO) (seqx_1 e_24) h_327
        refine x_ldc (v := (-2000000001)) C (by decide +kernel) dL_refuses_330 ?_
        refine x_icmp_ne C 632 dL_refuses_332 (by decide) (fun c_332 => absurd cdE_IO c_332) (fun c_332 => ?_)
        refine x_aload_n (i := 0) C dL_refuses_335 rfl rfl ?_
        refine x_iload_n (i := 3) C dL_refuses_336 rfl rfl ?_
        refine x_iconst (v := nI 1) C dL_refuses_337 (by decide) ?_
        refine x_callSWi (As := [.ref (a 0), .int w_24, .int (nI 1)]) C hE (k_L_reports l hfl D cy a A _ V h w_24 (nI 1)) (vx_cwSW 3 C.2.2.2.2.1 gL_refuses_L_reports rfl rfl rfl (by decide +kernel) ⟨Nat.le_of_ble_eq_true rfl, Nat.le_of_ble_eq_true rfl⟩) rfl rfl (Nat.le_of_ble_eq_true rfl) dL_refuses_338 ⟨Nat.le_of_ble_eq_true rfl, Nat.le_of_ble_eq_true rfl⟩ (fun r_338 u_338 h_338 => ?_)
        obtain ⟨rfl, rfl⟩ := rf_w (E := xIO) (seqx_1 e_24) h_338
        refine x_ldc (v := (-2000000001)) C (by decide +kernel) dL_refuses_341 ?_
        refine x_icmp_ne C 632 dL_refuses_343 (by decide) (fun c_343 => absurd cdE_IO c_343) (fun c_343 => ?_)
        refine x_aload_n (i := 0) C dL_refuses_346 rfl rfl ?_
        refine x_iload_n (i := 3) C dL_refuses_347 rfl rfl ?_
        refine x_callSWi (As := [.ref (a 0), .int w_24]) C hE (k_L_state l hfl D cy a A _ V h w_24) (vx_cwSW 2 C.2.2.2.2.1 gL_refuses_L_state rfl rfl rfl (by decide +kernel) ⟨Nat.le_of_ble_eq_true rfl, Nat.le_of_ble_eq_true rfl⟩) rfl rfl (Nat.le_of_ble_eq_true rfl) dL_refuses_348 ⟨Nat.le_of_ble_eq_true rfl, Nat.le_of_ble_eq_true rfl⟩ (fun r_348 u_348 h_348 => ?_)
        obtain ⟨rfl, rfl⟩ := rf_w (E := xIO) (e_24) h_348
        refine x_ldc (v := (-2000000001)) C (by decide +kernel) dL_refuses_351 ?_
        refine x_icmp_ne C 632 dL_refuses_353 (by decide) (fun c_353 => absurd cdE_IO c_353) (fun c_353 => ?_)
        refine x_aload_n (i := 0) C dL_refuses_356 rfl rfl ?_
        refine x_iload_n (i := 3) C dL_refuses_357 rfl rfl ?_
        refine x_callSWi (As := [.ref (a 0), .int w_24]) C hE (k_L_version l hfl D cy a A _ V h w_24) (vx_cwSW 2 C.2.2.2.2.1 gL_refuses_L_version rfl rfl rfl (by decide +kernel) ⟨Nat.le_of_ble_eq_true rfl, Nat.le_of_ble_eq_true rfl⟩) rfl rfl (Nat.le_of_ble_eq_true rfl) dL_refuses_358 ⟨Nat.le_of_ble_eq_true rfl, Nat.le_of_ble_eq_true rfl⟩ (fun r_358 u_358 h_358 => ?_)
        obtain ⟨rfl, rfl⟩ := rf_w (E := xIO) (e_24) h_358
        refine x_ldc (v := (-2000000001)) C (by decide +kernel) dL_refuses_361 ?_
        refine x_icmp_ne C 632 dL_refuses_363 (by decide) (fun c_363 => absurd cdE_IO c_363) (fun c_363 => ?_)
        refine x_aload_n (i := 0) C dL_refuses_366 rfl rfl ?_
        refine x_iload_n (i := 3) C dL_refuses_367 rfl rfl ?_
        refine x_callSWi (As := [.ref (a 0), .int w_24]) C hE (k_L_campaign l hfl D cy a A _ V h w_24) (vx_cwSW 2 C.2.2.2.2.1 gL_refuses_L_campaign rfl rfl rfl (by decide +kernel) ⟨Nat.le_of_ble_eq_true rfl, Nat.le_of_ble_eq_true rfl⟩) rfl rfl (Nat.le_of_ble_eq_true rfl) dL_refuses_368 ⟨Nat.le_of_ble_eq_true rfl, Nat.le_of_ble_eq_true rfl⟩ (fun r_368 u_368 h_368 => ?_)
        obtain ⟨rfl, rfl⟩ := rf_w (E := xIO) (e_24) h_368
        refine x_ldc (v := (-2000000001)) C (by decide +kernel) dL_refuses_371 ?_
        refine x_icmp_ne C 632 dL_refuses_373 (by decide) (fun c_373 => absurd cdE_IO c_373) (fun c_373 => ?_)
        refine x_aload_n (i := 0) C dL_refuses_376 rfl rfl ?_
        refine x_iload_n (i := 3) C dL_refuses_377 rfl rfl ?_
        refine x_callSWi (As := [.ref (a 0), .int w_24]) C hE (k_L_toGo l hfl D cy a A _ V h w_24) (vx_cwSW 2 C.2.2.2.2.1 gL_refuses_L_toGo rfl rfl rfl (by decide +kernel) ⟨Nat.le_of_ble_eq_true rfl, Nat.le_of_ble_eq_true rfl⟩) rfl rfl (Nat.le_of_ble_eq_true rfl) dL_refuses_378 ⟨Nat.le_of_ble_eq_true rfl, Nat.le_of_ble_eq_true rfl⟩ (fun r_378 u_378 h_378 => ?_)
        obtain ⟨rfl, rfl⟩ := rf_w (E := xIO) (e_24) h_378
        refine x_ldc (v := (-2000000001)) C (by decide +kernel) dL_refuses_381 ?_
        refine x_icmp_ne C 632 dL_refuses_383 (by decide) (fun c_383 => absurd cdE_IO c_383) (fun c_383 => ?_)
        refine x_aload_n (i := 0) C dL_refuses_386 rfl rfl ?_
        refine x_iload_n (i := 3) C dL_refuses_387 rfl rfl ?_
        refine x_callSWi (As := [.ref (a 0), .int w_24]) C hE (k_L_battery l hfl D cy a A _ V h w_24) (vx_cwSW 2 C.2.2.2.2.1 gL_refuses_L_battery rfl rfl rfl (by decide +kernel) ⟨Nat.le_of_ble_eq_true rfl, Nat.le_of_ble_eq_true rfl⟩) rfl rfl (Nat.le_of_ble_eq_true rfl) dL_refuses_388 ⟨Nat.le_of_ble_eq_true rfl, Nat.le_of_ble_eq_true rfl⟩ (fun r_388 u_388 h_388 => ?_)
        obtain ⟨rfl, rfl⟩ := rf_w (E := xIO) (e_24) h_388
        refine x_ldc (v := (-2000000001)) C (by decide +kernel) dL_refuses_391 ?_
        refine x_icmp_ne C 632 dL_refuses_393 (by decide) (fun c_393 => absurd cdE_IO c_393) (fun c_393 => ?_)
        refine x_aload_n (i := 0) C dL_refuses_396 rfl rfl ?_
        refine x_iload (i := 4) C dL_refuses_397 rfl ?_
        refine x_bipush (v := nI 16) C dL_refuses_399 (by decide) ?_
        refine x_sipush (v := nI 256) C dL_refuses_401 (by decide) ?_
        refine x_iconst (v := (-1)) C dL_refuses_404 (by decide) ?_
        refine x_callSWi (As := [.ref (a 0), .int w_47, .int (nI 16), .int (nI 256), .int ((-1))]) C hE (k_L_begins l hfl D cy a A _ V h w_47 (nI 16) (nI 256) ((-1))) (vx_cwSW 5 C.2.2.2.2.1 gL_refuses_L_begins rfl rfl rfl (by decide +kernel) ⟨Nat.le_of_ble_eq_true rfl, Nat.le_of_ble_eq_true rfl⟩) rfl rfl (Nat.le_of_ble_eq_true rfl) dL_refuses_405 ⟨Nat.le_of_ble_eq_true rfl, Nat.le_of_ble_eq_true rfl⟩ (fun r_405 u_405 h_405 => ?_)
        obtain ⟨rfl, rfl⟩ := rf_w (E := xIO) (seqx_1 e_47) h_405
        refine x_ldc (v := (-2000000001)) C (by decide +kernel) dL_refuses_408 ?_
        refine x_icmp_ne C 632 dL_refuses_410 (by decide) (fun c_410 => absurd cdE_IO c_410) (fun c_410 => ?_)
        refine x_aload_n (i := 0) C dL_refuses_413 rfl rfl ?_
        refine x_iload (i := 6) C dL_refuses_414 rfl ?_
        refine x_bipush (v := nI 16) C dL_refuses_416 (by decide) ?_
        refine x_iconst (v := nI 0) C dL_refuses_418 (by decide) ?_
        refine x_join (J := 432) (st' := [.int (nI 0), .int (nI 16), .int (nI ((X % 8))), .ref (a 0)]) (fun z => z ≠ -1 ∧ nCx V z = some xIO) (fun w_432 e_432 => ?_) (fun j_432 => ?_)
        · refine x_callSWi (As := [.ref (a 0), .int (nI ((X % 8))), .int (nI 16), .int (nI 0), .int w_432]) C hE (k_L_begins l hfl D cy a A _ V h (nI ((X % 8))) (nI 16) (nI 0) w_432) (vx_cwSW 5 C.2.2.2.2.1 gL_refuses_L_begins rfl rfl rfl (by decide +kernel) ⟨Nat.le_of_ble_eq_true rfl, Nat.le_of_ble_eq_true rfl⟩) rfl rfl (Nat.le_of_ble_eq_true rfl) dL_refuses_432 ⟨Nat.le_of_ble_eq_true rfl, Nat.le_of_ble_eq_true rfl⟩ (fun r_432 u_432 h_432 => ?_)
          obtain ⟨rfl, rfl⟩ := rf_w (E := xIO) (seqx_2 (nVx_at (j := X % 8) (by omega)) (seqx_1 ((if_neg e_432.1).trans e_432.2))) h_432
          refine x_ldc (v := (-2000000001)) C (by decide +kernel) dL_refuses_435 ?_
          refine x_icmp_ne C 632 dL_refuses_437 (by decide) (fun c_437 => absurd cdE_IO c_437) (fun c_437 => ?_)
          refine x_aload_n (i := 0) C dL_refuses_440 rfl rfl ?_
          refine x_iload (i := 6) C dL_refuses_441 rfl ?_
          refine x_bipush (v := nI 16) C dL_refuses_443 (by decide) ?_
          refine x_iload_n (i := 2) C dL_refuses_445 rfl rfl ?_
          refine x_iadd C dL_refuses_446 ?_
          refine x_topi (nI_add _ _) ?_
          refine x_iconst (v := nI 0) C dL_refuses_447 (by decide) ?_
          refine x_iconst (v := (-1)) C dL_refuses_448 (by decide) ?_
          refine x_callSWi (As := [.ref (a 0), .int (nI ((X % 8))), .int (nI ((16 + X))), .int (nI 0), .int ((-1))]) C hE (k_L_begins l hfl D cy a A _ V h (nI ((X % 8))) (nI ((16 + X))) (nI 0) ((-1))) (vx_cwSW 5 C.2.2.2.2.1 gL_refuses_L_begins rfl rfl rfl (by decide +kernel) ⟨Nat.le_of_ble_eq_true rfl, Nat.le_of_ble_eq_true rfl⟩) rfl rfl (Nat.le_of_ble_eq_true rfl) dL_refuses_449 ⟨Nat.le_of_ble_eq_true rfl, Nat.le_of_ble_eq_true rfl⟩ (fun r_449 u_449 h_449 => ?_)
          obtain ⟨rfl, rfl⟩ := rf_w (E := xIA) (seqx_2 (nVx_at (j := X % 8) (by omega)) (seqx_2 (if_pos rfl) (seqx_1 (nR_hi (H := 15) (by omega) (by omega))))) h_449
          refine x_ldc (v := (-2000000002)) C (by decide +kernel) dL_refuses_452 ?_
          refine x_icmp_ne C 632 dL_refuses_454 (by decide) (fun c_454 => absurd cdE_IA c_454) (fun c_454 => ?_)
          refine x_aload_n (i := 0) C dL_refuses_457 rfl rfl ?_
          refine x_iload (i := 6) C dL_refuses_458 rfl ?_
          refine x_iconst (v := nI 0) C dL_refuses_460 (by decide) ?_
          refine x_sipush (v := nI 256) C dL_refuses_461 (by decide) ?_
          refine x_iload_n (i := 2) C dL_refuses_464 rfl rfl ?_
          refine x_iadd C dL_refuses_465 ?_
          refine x_topi (nI_add _ _) ?_
          refine x_iconst (v := (-1)) C dL_refuses_466 (by decide) ?_
          refine x_callSWi (As := [.ref (a 0), .int (nI ((X % 8))), .int (nI 0), .int (nI ((256 + X))), .int ((-1))]) C hE (k_L_begins l hfl D cy a A _ V h (nI ((X % 8))) (nI 0) (nI ((256 + X))) ((-1))) (vx_cwSW 5 C.2.2.2.2.1 gL_refuses_L_begins rfl rfl rfl (by decide +kernel) ⟨Nat.le_of_ble_eq_true rfl, Nat.le_of_ble_eq_true rfl⟩) rfl rfl (Nat.le_of_ble_eq_true rfl) dL_refuses_467 ⟨Nat.le_of_ble_eq_true rfl, Nat.le_of_ble_eq_true rfl⟩ (fun r_467 u_467 h_467 => ?_)
          obtain ⟨rfl, rfl⟩ := rf_w (E := xIA) (seqx_2 (nVx_at (j := X % 8) (by omega)) (seqx_2 (if_pos rfl) (seqx_2 (show nRx 0 0 15 = none by decide) (seqx_1 (nR_hi (H := 255) (by omega) (by omega)))))) h_467
          refine x_ldc (v := (-2000000002)) C (by decide +kernel) dL_refuses_470 ?_
          refine x_icmp_ne C 632 dL_refuses_472 (by decide) (fun c_472 => absurd cdE_IA c_472) (fun c_472 => ?_)
          refine x_aload_n (i := 0) C dL_refuses_475 rfl rfl ?_
          refine x_iload (i := 6) C dL_refuses_476 rfl ?_
          refine x_iconst (v := nI 0) C dL_refuses_478 (by decide) ?_
          refine x_iconst (v := (-1)) C dL_refuses_479 (by decide) ?_
          refine x_iload_n (i := 2) C dL_refuses_480 rfl rfl ?_
          refine x_isub C dL_refuses_481 ?_
          refine x_iconst (v := (-1)) C dL_refuses_482 (by decide) ?_
          refine x_callSWi (As := [.ref (a 0), .int (nI ((X % 8))), .int (nI 0), .int (((-1) - nI X)), .int ((-1))]) C hE (k_L_begins l hfl D cy a A _ V h (nI ((X % 8))) (nI 0) (((-1) - nI X)) ((-1))) (vx_cwSW 5 C.2.2.2.2.1 gL_refuses_L_begins rfl rfl rfl (by decide +kernel) ⟨Nat.le_of_ble_eq_true rfl, Nat.le_of_ble_eq_true rfl⟩) rfl rfl (Nat.le_of_ble_eq_true rfl) dL_refuses_483 ⟨Nat.le_of_ble_eq_true rfl, Nat.le_of_ble_eq_true rfl⟩ (fun r_483 u_483 h_483 => ?_)
          obtain ⟨rfl, rfl⟩ := rf_w (E := xIA) (seqx_2 (nVx_at (j := X % 8) (by omega)) (seqx_2 (if_pos rfl) (seqx_2 (show nRx 0 0 15 = none by decide) (seqx_1 (nR_m1 (L := 0) (by omega) (by omega)))))) h_483
          refine x_ldc (v := (-2000000002)) C (by decide +kernel) dL_refuses_486 ?_
          refine x_icmp_ne C 632 dL_refuses_488 (by decide) (fun c_488 => absurd cdE_IA c_488) (fun c_488 => ?_)
          refine x_aload_n (i := 0) C dL_refuses_491 rfl rfl ?_
          refine x_iload (i := 5) C dL_refuses_492 rfl ?_
          refine x_iconst (v := nI 0) C dL_refuses_494 (by decide) ?_
          refine x_iconst (v := nI 0) C dL_refuses_495 (by decide) ?_
          refine x_iconst (v := nI 0) C dL_refuses_496 (by decide) ?_
          refine x_iconst (v := nI 0) C dL_refuses_497 (by decide) ?_
          refine x_callSWi (As := [.ref (a 0), .int w_72, .int (nI 0), .int (nI 0), .int (nI 0), .int (nI 0)]) C hE (k_L_rules l hfl D cy a A _ V h w_72 (nI 0) (nI 0) (nI 0) (nI 0)) (vx_cwSW 6 C.2.2.2.2.1 gL_refuses_L_rules rfl rfl rfl (by decide +kernel) ⟨Nat.le_of_ble_eq_true rfl, Nat.le_of_ble_eq_true rfl⟩) rfl rfl (Nat.le_of_ble_eq_true rfl) dL_refuses_498 ⟨Nat.le_of_ble_eq_true rfl, Nat.le_of_ble_eq_true rfl⟩ (fun r_498 u_498 h_498 => ?_)
          obtain ⟨rfl, rfl⟩ := rf_w (E := xIO) (seqx_1 e_72) h_498
          refine x_ldc (v := (-2000000001)) C (by decide +kernel) dL_refuses_501 ?_
          refine x_icmp_ne C 632 dL_refuses_503 (by decide) (fun c_503 => absurd cdE_IO c_503) (fun c_503 => ?_)
          refine x_aload_n (i := 0) C dL_refuses_506 rfl rfl ?_
          refine x_iload (i := 5) C dL_refuses_507 rfl ?_
          refine x_callSWi (As := [.ref (a 0), .int w_72]) C hE (k_L_toggles l hfl D cy a A _ V h w_72) (vx_cwSW 2 C.2.2.2.2.1 gL_refuses_L_toggles rfl rfl rfl (by decide +kernel) ⟨Nat.le_of_ble_eq_true rfl, Nat.le_of_ble_eq_true rfl⟩) rfl rfl (Nat.le_of_ble_eq_true rfl) dL_refuses_509 ⟨Nat.le_of_ble_eq_true rfl, Nat.le_of_ble_eq_true rfl⟩ (fun r_509 u_509 h_509 => ?_)
          obtain ⟨rfl, rfl⟩ := rf_w (E := xIO) (e_72) h_509
          refine x_ldc (v := (-2000000001)) C (by decide +kernel) dL_refuses_512 ?_
          refine x_icmp_ne C 632 dL_refuses_514 (by decide) (fun c_514 => absurd cdE_IO c_514) (fun c_514 => ?_)
          refine x_aload_n (i := 0) C dL_refuses_517 rfl rfl ?_
          refine x_iload (i := 5) C dL_refuses_518 rfl ?_
          refine x_callSWi (As := [.ref (a 0), .int w_72]) C hE (k_L_active l hfl D cy a A _ V h w_72) (vx_cwSW 2 C.2.2.2.2.1 gL_refuses_L_active rfl rfl rfl (by decide +kernel) ⟨Nat.le_of_ble_eq_true rfl, Nat.le_of_ble_eq_true rfl⟩) rfl rfl (Nat.le_of_ble_eq_true rfl) dL_refuses_520 ⟨Nat.le_of_ble_eq_true rfl, Nat.le_of_ble_eq_true rfl⟩ (fun r_520 u_520 h_520 => ?_)
          obtain ⟨rfl, rfl⟩ := rf_w (E := xIO) (e_72) h_520
          refine x_ldc (v := (-2000000001)) C (by decide +kernel) dL_refuses_523 ?_
          refine x_icmp_ne C 632 dL_refuses_525 (by decide) (fun c_525 => absurd cdE_IO c_525) (fun c_525 => ?_)
          refine x_aload_n (i := 0) C dL_refuses_528 rfl rfl ?_
          refine x_iload (i := 5) C dL_refuses_529 rfl ?_
          refine x_callSWi (As := [.ref (a 0), .int w_72]) C hE (k_L_ring l hfl D cy a A _ V h w_72) (vx_cwSW 2 C.2.2.2.2.1 gL_refuses_L_ring rfl rfl rfl (by decide +kernel) ⟨Nat.le_of_ble_eq_true rfl, Nat.le_of_ble_eq_true rfl⟩) rfl rfl (Nat.le_of_ble_eq_true rfl) dL_refuses_531 ⟨Nat.le_of_ble_eq_true rfl, Nat.le_of_ble_eq_true rfl⟩ (fun r_531 u_531 h_531 => ?_)
          obtain ⟨rfl, rfl⟩ := rf_w (E := xIO) (e_72) h_531
          refine x_ldc (v := (-2000000001)) C (by decide +kernel) dL_refuses_534 ?_
          refine x_icmp_ne C 632 dL_refuses_536 (by decide) (fun c_536 => absurd cdE_IO c_536) (fun c_536 => ?_)
          refine x_aload_n (i := 0) C dL_refuses_539 rfl rfl ?_
          refine x_iload (i := 5) C dL_refuses_540 rfl ?_
          refine x_callSWi (As := [.ref (a 0), .int w_72]) C hE (k_L_counted l hfl D cy a A _ V h w_72) (vx_cwSW 2 C.2.2.2.2.1 gL_refuses_L_counted rfl rfl rfl (by decide +kernel) ⟨Nat.le_of_ble_eq_true rfl, Nat.le_of_ble_eq_true rfl⟩) rfl rfl (Nat.le_of_ble_eq_true rfl) dL_refuses_542 ⟨Nat.le_of_ble_eq_true rfl, Nat.le_of_ble_eq_true rfl⟩ (fun r_542 u_542 h_542 => ?_)
          obtain ⟨rfl, rfl⟩ := rf_w (E := xIO) (e_72) h_542
          refine x_ldc (v := (-2000000001)) C (by decide +kernel) dL_refuses_545 ?_
          refine x_icmp_ne C 632 dL_refuses_547 (by decide) (fun c_547 => absurd cdE_IO c_547) (fun c_547 => ?_)
          refine x_aload_n (i := 0) C dL_refuses_550 rfl rfl ?_
          refine x_iload (i := 5) C dL_refuses_551 rfl ?_
          refine x_callSWi (As := [.ref (a 0), .int w_72]) C hE (k_L_eligible l hfl D cy a A _ V h w_72) (vx_cwSW 2 C.2.2.2.2.1 gL_refuses_L_eligible rfl rfl rfl (by decide +kernel) ⟨Nat.le_of_ble_eq_true rfl, Nat.le_of_ble_eq_true rfl⟩) rfl rfl (Nat.le_of_ble_eq_true rfl) dL_refuses_553 ⟨Nat.le_of_ble_eq_true rfl, Nat.le_of_ble_eq_true rfl⟩ (fun r_553 u_553 h_553 => ?_)
          obtain ⟨rfl, rfl⟩ := rf_w (E := xIO) (e_72) h_553
          refine x_ldc (v := (-2000000001)) C (by decide +kernel) dL_refuses_556 ?_
          refine x_icmp_ne C 632 dL_refuses_558 (by decide) (fun c_558 => absurd cdE_IO c_558) (fun c_558 => ?_)
          refine x_aload_n (i := 0) C dL_refuses_561 rfl rfl ?_
          refine x_iload_n (i := 2) C dL_refuses_562 rfl rfl ?_
          refine x_ineg C dL_refuses_563 ?_
          refine x_callSWi (As := [.ref (a 0), .int ((-(nI X)))]) C hE (k_L_passes l hfl D cy a A _ V h ((-(nI X)))) (vx_cwSW 2 C.2.2.2.2.1 gL_refuses_L_passes rfl rfl rfl (by decide +kernel) ⟨Nat.le_of_ble_eq_true rfl, Nat.le_of_ble_eq_true rfl⟩) rfl rfl (Nat.le_of_ble_eq_true rfl) dL_refuses_564 ⟨Nat.le_of_ble_eq_true rfl, Nat.le_of_ble_eq_true rfl⟩ (fun r_564 u_564 h_564 => ?_)
          obtain ⟨rfl, rfl⟩ := rf_w (E := xIA) (nR_ng (by omega)) h_564
          refine x_ldc (v := (-2000000002)) C (by decide +kernel) dL_refuses_567 ?_
          refine x_icmp_ne C 632 dL_refuses_569 (by decide) (fun c_569 => absurd cdE_IA c_569) (fun c_569 => ?_)
          refine x_aload_n (i := 0) C dL_refuses_572 rfl rfl ?_
          refine x_bipush (v := nI 101) C dL_refuses_573 (by decide) ?_
          refine x_iload_n (i := 2) C dL_refuses_575 rfl rfl ?_
          refine x_iadd C dL_refuses_576 ?_
          refine x_topi (nI_add _ _) ?_
          refine x_callSWi (As := [.ref (a 0), .int (nI ((101 + X)))]) C hE (k_L_passes l hfl D cy a A _ V h (nI ((101 + X)))) (vx_cwSW 2 C.2.2.2.2.1 gL_refuses_L_passes rfl rfl rfl (by decide +kernel) ⟨Nat.le_of_ble_eq_true rfl, Nat.le_of_ble_eq_true rfl⟩) rfl rfl (Nat.le_of_ble_eq_true rfl) dL_refuses_577 ⟨Nat.le_of_ble_eq_true rfl, Nat.le_of_ble_eq_true rfl⟩ (fun r_577 u_577 h_577 => ?_)
          obtain ⟨rfl, rfl⟩ := rf_w (E := xIA) (nR_hi (H := 100) (by omega) (by omega)) h_577
          refine x_ldc (v := (-2000000002)) C (by decide +kernel) dL_refuses_580 ?_
          refine x_icmp_ne C 632 dL_refuses_582 (by decide) (fun c_582 => absurd cdE_IA c_582) (fun c_582 => ?_)
          refine x_cut (J := 607) (lv' := [(6, .int (nI ((X % 8)))), (5, .int w_72), (4, .int w_47), (3, .int w_24), (2, .int (nI X)), (1, .ref o), (0, .ref (a 0))]) (st' := []) (ws' := (cW cy a (nX cy o f :: Y) V)) (k := 98) (n := 588) ?_ (fun j_607 => ?_)
          · refine x_cut (J := 628) (lv' := [(6, .int (nI ((X % 8)))), (5, .int w_72), (4, .int w_47), (3, .int w_24), (2, .int (nI X)), (1, .ref o), (0, .ref (a 0))]) (st' := []) (ws' := (cW cy a (nX cy o f :: Y) V)) (k := 100) (n := 600) ?_ (fun j_628 => ?_)
            · refine x_iconst (v := nI 1) C dL_refuses_628 (by decide) ?_
              refine x_goto C 633 dL_refuses_629 (by decide) ?_
              refine x_istore (i := 7) C dL_refuses_633 (by decide) ?_
              refine x_iload (i := 7) C dL_refuses_635 rfl ?_
              refine x_if_eq C 793 dL_refuses_637 (by decide) (fun c_637 => absurd c_637 (by decide)) (fun c_637 => ?_)
              refine x_cut (J := 793) (lv' := [(7, .int (nI 1)), (6, .int (nI ((X % 8)))), (5, .int w_72), (4, .int w_47), (3, .int w_24), (2, .int (nI X)), (1, .ref o), (0, .ref (a 0))]) (st' := []) (ws' := (cW cy a (nX cy o f :: Y) V)) (k := 135) (n := 810) ?_ (fun j_793 => ?_)
              · refine x_iload (i := 7) C dL_refuses_793 rfl ?_
                refine x_if_eq C 905 dL_refuses_795 (by decide) (fun c_795 => absurd c_795 (by decide)) (fun c_795 => ?_)
                refine x_cut (J := 905) (lv' := [(7, .int (nI 1)), (6, .int (nI ((X % 8)))), (5, .int w_72), (4, .int w_47), (3, .int w_24), (2, .int (nI X)), (1, .ref o), (0, .ref (a 0))]) (st' := []) (ws' := (cW cy a (nX cy o f :: Y) V)) (k := 149) (n := 894) ?_ (fun j_905 => ?_)
                · refine x_iload (i := 7) C dL_refuses_905 rfl ?_
                  exact x_zret (σ := XV) (Wf := fun (u : XV) => cW cy a (nX cy o f :: Y) u) (post := fun (r : Int32) (u : XV) => r = 1 ∧ u = V) (u := V) C dL_refuses_907 ⟨Nat.le_of_ble_eq_true rfl, Nat.le_of_ble_eq_true rfl⟩ rfl ⟨by decide, rfl⟩
                · refine x_aload_n (i := 0) C dL_refuses_798 rfl rfl ?_
                  refine x_callVi C hE (k_X3_devices l D cy a A _ V) (cwV 0 C.2.2.2.2.1 gL_refuses_X3_devices rfl rfl rfl (by decide +kernel) ⟨Nat.le_of_ble_eq_true rfl, Nat.le_of_ble_eq_true rfl⟩) 0 (cW_R cy a _ _) rfl rfl rfl rfl (Nat.le_of_ble_eq_true rfl) dL_refuses_799 ⟨Nat.le_of_ble_eq_true rfl, Nat.le_of_ble_eq_true rfl⟩ (fun r_799 u_799 h_799 => ?_)
                  obtain ⟨rfl, rfl⟩ := rz_w (gJ_n h).1 h_799
                  refine x_if_le C 905 dL_refuses_802 (by decide) (fun c_802 => ?_) (fun c_802 => ?_)
                  · refine x_subm (lv' := [(7, .int (nI 1)), (6, .int (nI ((X % 8)))), (5, .int w_72), (4, .int w_47), (3, .int w_24), (2, .int (nI X)), (1, .ref o), (0, .ref (a 0))]) ?_ rfl
                    exact x_widen (Nat.le_of_ble_eq_true rfl) (Nat.le_of_ble_eq_true rfl) j_905
                  · have hn0 : 0 < n := Nat.pos_of_ne_zero (fun q => c_802 (by rw [q]; decide))
                    have hsn : X / 8 % n < n := Nat.mod_lt _ hn0
                    refine x_iload_n (i := 2) C dL_refuses_805 rfl rfl ?_
                    refine x_bipush (v := nI 8) C dL_refuses_806 (by decide) ?_
                    refine x_idiv C dL_refuses_808 (nI_ne0 (by omega) (by omega)) ?_
                    refine x_topi (pk_div (by omega) (by omega) (by omega)) ?_
                    refine x_aload_n (i := 0) C dL_refuses_809 rfl rfl ?_
                    refine x_callVi C hE (k_X3_devices l D cy a A _ V) (cwV 0 C.2.2.2.2.1 gL_refuses_X3_devices rfl rfl rfl (by decide +kernel) ⟨Nat.le_of_ble_eq_true rfl, Nat.le_of_ble_eq_true rfl⟩) 0 (cW_R cy a _ _) rfl rfl rfl rfl (Nat.le_of_ble_eq_true rfl) dL_refuses_810 ⟨Nat.le_of_ble_eq_true rfl, Nat.le_of_ble_eq_true rfl⟩ (fun r_810 u_810 h_810 => ?_)
                    obtain ⟨rfl, rfl⟩ := rz_w (gJ_n h).1 h_810
                    refine x_irem C dL_refuses_813 (nI_ne0 (by omega) (by omega)) ?_
                    refine x_topi (pk_rem (by omega) (by omega) (by omega)) ?_
                    refine x_istore (i := 8) C dL_refuses_814 (by decide) ?_
                    refine x_aload_n (i := 0) C dL_refuses_816 rfl rfl ?_
                    refine x_iload (i := 8) C dL_refuses_817 rfl ?_
                    refine x_bipush (v := nI 101) C dL_refuses_819 (by decide) ?_
                    refine x_iload_n (i := 2) C dL_refuses_821 rfl rfl ?_
                    refine x_iadd C dL_refuses_822 ?_
                    refine x_topi (nI_add _ _) ?_
                    refine x_callSWi (As := [.ref (a 0), .int (nI (((X / 8) % n))), .int (nI ((101 + X)))]) C hE (k_L_charges l hfl D cy a A _ V h (nI (((X / 8) % n))) (nI ((101 + X)))) (vx_cwSW 3 C.2.2.2.2.1 gL_refuses_L_charges rfl rfl rfl (by decide +kernel) ⟨Nat.le_of_ble_eq_true rfl, Nat.le_of_ble_eq_true rfl⟩) rfl rfl (Nat.le_of_ble_eq_true rfl) dL_refuses_823 ⟨Nat.le_of_ble_eq_true rfl, Nat.le_of_ble_eq_true rfl⟩ (fun r_823 u_823 h_823 => ?_)
                    obtain ⟨rfl, rfl⟩ := rf_w (E := xIA) (seqx_2 (nDx_at h hsn) (nR_hi (H := 100) (by omega) (by omega))) h_823
                    refine x_ldc (v := (-2000000002)) C (by decide +kernel) dL_refuses_826 ?_
                    refine x_icmp_ne C 902 dL_refuses_828 (by decide) (fun c_828 => absurd cdE_IA c_828) (fun c_828 => ?_)
                    refine x_aload_n (i := 0) C dL_refuses_831 rfl rfl ?_
                    refine x_iload (i := 8) C dL_refuses_832 rfl ?_
                    refine x_iconst (v := (-1)) C dL_refuses_834 (by decide) ?_
                    refine x_iload_n (i := 2) C dL_refuses_835 rfl rfl ?_
                    refine x_isub C dL_refuses_836 ?_
                    refine x_callSWi (As := [.ref (a 0), .int (nI (((X / 8) % n))), .int (((-1) - nI X))]) C hE (k_L_charges l hfl D cy a A _ V h (nI (((X / 8) % n))) (((-1) - nI X))) (vx_cwSW 3 C.2.2.2.2.1 gL_refuses_L_charges rfl rfl rfl (by decide +kernel) ⟨Nat.le_of_ble_eq_true rfl, Nat.le_of_ble_eq_true rfl⟩) rfl rfl (Nat.le_of_ble_eq_true rfl) dL_refuses_837 ⟨Nat.le_of_ble_eq_true rfl, Nat.le_of_ble_eq_true rfl⟩ (fun r_837 u_837 h_837 => ?_)
                    obtain ⟨rfl, rfl⟩ := rf_w (E := xIA) (seqx_2 (nDx_at h hsn) (nR_m1 (L := 0) (by omega) (by omega))) h_837
                    refine x_ldc (v := (-2000000002)) C (by decide +kernel) dL_refuses_840 ?_
                    refine x_icmp_ne C 902 dL_refuses_842 (by decide) (fun c_842 => absurd cdE_IA c_842) (fun c_842 => ?_)
                    refine x_aload_n (i := 0) C dL_refuses_845 rfl rfl ?_
                    refine x_iload (i := 8) C dL_refuses_846 rfl ?_
                    refine x_bipush (v := nI 24) C dL_refuses_848 (by decide) ?_
                    refine x_iload_n (i := 2) C dL_refuses_850 rfl rfl ?_
                    refine x_iadd C dL_refuses_851 ?_
                    refine x_topi (nI_add _ _) ?_
                    refine x_iconst (v := nI 0) C dL_refuses_852 (by decide) ?_
                    refine x_callSWi (As := [.ref (a 0), .int (nI (((X / 8) % n))), .int (nI ((24 + X))), .int (nI 0)]) C hE (k_L_windows l hfl D cy a A _ V h (nI (((X / 8) % n))) (nI ((24 + X))) (nI 0)) (vx_cwSW 4 C.2.2.2.2.1 gL_refuses_L_windows rfl rfl rfl (by decide +kernel) ⟨Nat.le_of_ble_eq_true rfl, Nat.le_of_ble_eq_true rfl⟩) rfl rfl (Nat.le_of_ble_eq_true rfl) dL_refuses_853 ⟨Nat.le_of_ble_eq_true rfl, Nat.le_of_ble_eq_true rfl⟩ (fun r_853 u_853 h_853 => ?_)
                    obtain ⟨rfl, rfl⟩ := rf_w (E := xIA) (seqx_2 (nDx_at h hsn) (seqx_1 (nR_hi (H := 23) (by omega) (by omega)))) h_853
                    refine x_ldc (v := (-2000000002)) C (by decide +kernel) dL_refuses_856 ?_
                    refine x_icmp_ne C 902 dL_refuses_858 (by decide) (fun c_858 => absurd cdE_IA c_858) (fun c_858 => ?_)
                    refine x_aload_n (i := 0) C dL_refuses_861 rfl rfl ?_
                    refine x_iload (i := 8) C dL_refuses_862 rfl ?_
                    refine x_iconst (v := nI 0) C dL_refuses_864 (by decide) ?_
                    refine x_iconst (v := (-1)) C dL_refuses_865 (by decide) ?_
                    refine x_iload_n (i := 2) C dL_refuses_866 rfl rfl ?_
                    refine x_isub C dL_refuses_867 ?_
                    refine x_callSWi (As := [.ref (a 0), .int (nI (((X / 8) % n))), .int (nI 0), .int (((-1) - nI X))]) C hE (k_L_windows l hfl D cy a A _ V h (nI (((X / 8) % n))) (nI 0) (((-1) - nI X))) (vx_cwSW 4 C.2.2.2.2.1 gL_refuses_L_windows rfl rfl rfl (by decide +kernel) ⟨Nat.le_of_ble_eq_true rfl, Nat.le_of_ble_eq_true rfl⟩) rfl rfl (Nat.le_of_ble_eq_true rfl) dL_refuses_868 ⟨Nat.le_of_ble_eq_true rfl, Nat.le_of_ble_eq_true rfl⟩ (fun r_868 u_868 h_868 => ?_)
                    obtain ⟨rfl, rfl⟩ := rf_w (E := xIA) (seqx_2 (nDx_at h hsn) (seqx_2 (show nRx 0 0 23 = none by decide) (nR_m1 (L := 0) (by omega) (by omega)))) h_868
                    refine x_ldc (v := (-2000000002)) C (by decide +kernel) dL_refuses_871 ?_
                    refine x_icmp_ne C 902 dL_refuses_873 (by decide) (fun c_873 => absurd cdE_IA c_873) (fun c_873 => ?_)
                    refine x_cut (J := 898) (lv' := [(8, .int (nI (((X / 8) % n)))), (7, .int (nI 1)), (6, .int (nI ((X % 8)))), (5, .int w_72), (4, .int w_47), (3, .int w_24), (2, .int (nI X)), (1, .ref o), (0, .ref (a 0))]) (st' := []) (ws' := (cW cy a (nX cy o f :: Y) V)) (k := 149) (n := 894) ?_ (fun j_898 => ?_)
                    · refine x_iconst (v := nI 1) C dL_refuses_898 (by decide) ?_
                      refine x_goto C 903 dL_refuses_899 (by decide) ?_
                      refine x_istore (i := 7) C dL_refuses_903 (by decide) ?_
                      refine x_subm (lv' := [(7, .int (nI 1)), (6, .int (nI ((X % 8)))), (5, .int w_72), (4, .int w_47), (3, .int w_24), (2, .int (nI X)), (1, .ref o), (0, .ref (a 0))]) ?_ rfl
                      exact x_widen (Nat.le_of_ble_eq_true rfl) (Nat.le_of_ble_eq_true rfl) j_905
                    · refine x_aload_n (i := 0) C dL_refuses_876 rfl rfl ?_
                      refine x_iload (i := 8) C dL_refuses_877 rfl ?_
                      refine x_callSWi (As := [.ref (a 0), .int (nI (((X / 8) % n)))]) C hE (k_L_state l hfl D cy a A _ V h (nI (((X / 8) % n)))) (vx_cwSW 2 C.2.2.2.2.1 gL_refuses_L_state rfl rfl rfl (by decide +kernel) ⟨Nat.le_of_ble_eq_true rfl, Nat.le_of_ble_eq_true rfl⟩) rfl rfl (Nat.le_of_ble_eq_true rfl) dL_refuses_879 ⟨Nat.le_of_ble_eq_true rfl, Nat.le_of_ble_eq_true rfl⟩ (fun r_879 u_879 h_879 => ?_)
                      obtain ⟨rfl, rfl⟩ := rn_w (nDx_at h hsn) (show V (9 + (nI (X / 8 % n)).toNatClampNeg) 6 = V (9 + X / 8 % n) 6 by rw [nI_clamp (by omega)]) h_879
                      refine x_iconst (v := nI 2) C dL_refuses_882 (by decide) ?_
                      refine x_icmp_eq C 898 dL_refuses_883 (by decide) (fun c_883 => ?_) (fun c_883 => ?_)
                      · refine x_subm (lv' := [(8, .int (nI (((X / 8) % n)))), (7, .int (nI 1)), (6, .int (nI ((X % 8)))), (5, .int w_72), (4, .int w_47), (3, .int w_24), (2, .int (nI X)), (1, .ref o), (0, .ref (a 0))]) ?_ rfl
                        exact x_widen (Nat.le_of_ble_eq_true rfl) (Nat.le_of_ble_eq_true rfl) j_898
                      · have hst : ¬ V (9 + (nI (X / 8 % n)).toNatClampNeg) 6 = 2 := by rw [nI_clamp (by omega)]; exact c_883
                        refine x_aload_n (i := 0) C dL_refuses_886 rfl rfl ?_
                        refine x_iload (i := 8) C dL_refuses_887 rfl ?_
                        refine x_iconst (v := nI 1) C dL_refuses_889 (by decide) ?_
                        refine x_callSWi (As := [.ref (a 0), .int (nI (((X / 8) % n))), .int (nI 1)]) C hE (k_L_reports l hfl D cy a A _ V h (nI (((X / 8) % n))) (nI 1)) (vx_cwSW 3 C.2.2.2.2.1 gL_refuses_L_reports rfl rfl rfl (by decide +kernel) ⟨Nat.le_of_ble_eq_true rfl, Nat.le_of_ble_eq_true rfl⟩) rfl rfl (Nat.le_of_ble_eq_true rfl) dL_refuses_890 ⟨Nat.le_of_ble_eq_true rfl, Nat.le_of_ble_eq_true rfl⟩ (fun r_890 u_890 h_890 => ?_)
                        obtain ⟨rfl, rfl⟩ := rf_w (E := xIS) (seqx_2 (nDx_at h hsn) (if_neg hst)) h_890
                        refine x_ldc (v := (-2000000003)) C (by decide +kernel) dL_refuses_893 ?_
                        refine x_icmp_ne C 902 dL_refuses_895 (by decide) (fun c_895 => absurd cdE_IS c_895) (fun c_895 => ?_)
                        refine x_subm (lv' := [(8, .int (nI (((X / 8) % n)))), (7, .int (nI 1)), (6, .int (nI ((X % 8)))), (5, .int w_72), (4, .int w_47), (3, .int w_24), (2, .int (nI X)), (1, .ref o), (0, .ref (a 0))]) ?_ rfl
                        exact x_widen (Nat.le_of_ble_eq_true rfl) (Nat.le_of_ble_eq_true rfl) j_898
              · refine x_aload_n (i := 1) C dL_refuses_640 rfl rfl ?_
                refine x_iconst (v := nI 0) C dL_refuses_641 (by decide) ?_
                refine x_nrd C hf dL_refuses_642 ?_
                refine x_if_le C 793 dL_refuses_643 (by decide) (fun c_643 => ?_) (fun c_643 => ?_)
                · refine x_subm (lv' := [(7, .int (nI 1)), (6, .int (nI ((X % 8)))), (5, .int w_72), (4, .int w_47), (3, .int w_24), (2, .int (nI X)), (1, .ref o), (0, .ref (a 0))]) ?_ rfl
                  exact x_widen (Nat.le_of_ble_eq_true rfl) (Nat.le_of_ble_eq_true rfl) j_793
                · have hm0 : 0 < m := Nat.pos_of_ne_zero (fun q => c_643 (by rw [q]; decide))
                  have hsm : X % m < m := Nat.mod_lt _ hm0
                  refine x_iload_n (i := 2) C dL_refuses_646 rfl rfl ?_
                  refine x_aload_n (i := 1) C dL_refuses_647 rfl rfl ?_
                  refine x_iconst (v := nI 0) C dL_refuses_648 (by decide) ?_
                  refine x_nrd C hf dL_refuses_649 ?_
                  refine x_irem C dL_refuses_650 (nI_ne0 (by omega) (by omega)) ?_
                  refine x_topi (pk_rem (by omega) (by omega) (by omega)) ?_
                  refine x_istore (i := 8) C dL_refuses_651 (by decide) ?_
                  refine x_aload_n (i := 0) C dL_refuses_653 rfl rfl ?_
                  refine x_iload (i := 8) C dL_refuses_654 rfl ?_
                  refine x_bipush (v := nI 101) C dL_refuses_656 (by decide) ?_
                  refine x_iload_n (i := 2) C dL_refuses_658 rfl rfl ?_
                  refine x_iadd C dL_refuses_659 ?_
                  refine x_topi (nI_add _ _) ?_
                  refine x_bipush (v := nI 101) C dL_refuses_660 (by decide) ?_
                  refine x_iload_n (i := 2) C dL_refuses_662 rfl rfl ?_
                  refine x_iadd C dL_refuses_663 ?_
                  refine x_topi (nI_add _ _) ?_
                  refine x_iconst (v := nI 1) C dL_refuses_664 (by decide) ?_
                  refine x_iconst (v := nI 1) C dL_refuses_665 (by decide) ?_
                  refine x_callSWi (As := [.ref (a 0), .int (nI ((X % m))), .int (nI ((101 + X))), .int (nI ((101 + X))), .int (nI 1), .int (nI 1)]) C hE (k_L_rules l hfl D cy a A _ V h (nI ((X % m))) (nI ((101 + X))) (nI ((101 + X))) (nI 1) (nI 1)) (vx_cwSW 6 C.2.2.2.2.1 gL_refuses_L_rules rfl rfl rfl (by decide +kernel) ⟨Nat.le_of_ble_eq_true rfl, Nat.le_of_ble_eq_true rfl⟩) rfl rfl (Nat.le_of_ble_eq_true rfl) dL_refuses_666 ⟨Nat.le_of_ble_eq_true rfl, Nat.le_of_ble_eq_true rfl⟩ (fun r_666 u_666 h_666 => ?_)
                  obtain ⟨rfl, rfl⟩ := rf_w (E := xIA) (seqx_2 (nCx_at h hsm) (seqx_1 (nR_hi (H := 100) (by omega) (by omega)))) h_666
                  refine x_ldc (v := (-2000000002)) C (by decide +kernel) dL_refuses_669 ?_
                  refine x_icmp_ne C 790 dL_refuses_671 (by decide) (fun c_671 => absurd cdE_IA c_671) (fun c_671 => ?_)
                  refine x_aload_n (i := 0) C dL_refuses_674 rfl rfl ?_
                  refine x_iload (i := 8) C dL_refuses_675 rfl ?_
                  refine x_bipush (v := nI 50) C dL_refuses_677 (by decide) ?_
                  refine x_bipush (v := nI 49) C dL_refuses_679 (by decide) ?_
                  refine x_iconst (v := nI 1) C dL_refuses_681 (by decide) ?_
                  refine x_iconst (v := nI 1) C dL_refuses_682 (by decide) ?_
                  refine x_callSWi (As := [.ref (a 0), .int (nI ((X % m))), .int (nI 50), .int (nI 49), .int (nI 1), .int (nI 1)]) C hE (k_L_rules l hfl D cy a A _ V h (nI ((X % m))) (nI 50) (nI 49) (nI 1) (nI 1)) (vx_cwSW 6 C.2.2.2.2.1 gL_refuses_L_rules rfl rfl rfl (by decide +kernel) ⟨Nat.le_of_ble_eq_true rfl, Nat.le_of_ble_eq_true rfl⟩) rfl rfl (Nat.le_of_ble_eq_true rfl) dL_refuses_683 ⟨Nat.le_of_ble_eq_true rfl, Nat.le_of_ble_eq_true rfl⟩ (fun r_683 u_683 h_683 => ?_)
                  obtain ⟨rfl, rfl⟩ := rf_w (E := xIA) (seqx_2 (nCx_at h hsm) (seqx_2 (show nRx 50 0 100 = none by decide) (seqx_1 (show nRx 49 50 100 = some xIA by decide)))) h_683
                  refine x_ldc (v := (-2000000002)) C (by decide +kernel) dL_refuses_686 ?_
                  refine x_icmp_ne C 790 dL_refuses_688 (by decide) (fun c_688 => absurd cdE_IA c_688) (fun c_688 => ?_)
                  refine x_aload_n (i := 0) C dL_refuses_691 rfl rfl ?_
                  refine x_iload (i := 8) C dL_refuses_692 rfl ?_
                  refine x_bipush (v := nI 50) C dL_refuses_694 (by decide) ?_
                  refine x_bipush (v := nI 101) C dL_refuses_696 (by decide) ?_
                  refine x_iload_n (i := 2) C dL_refuses_698 rfl rfl ?_
                  refine x_iadd C dL_refuses_699 ?_
                  refine x_topi (nI_add _ _) ?_
                  refine x_iconst (v := nI 1) C dL_refuses_700 (by decide) ?_
                  refine x_iconst (v := nI 1) C dL_refuses_701 (by decide) ?_
                  refine x_callSWi (As := [.ref (a 0), .int (nI ((X % m))), .int (nI 50), .int (nI ((101 + X))), .int (nI 1), .int (nI 1)]) C hE (k_L_rules l hfl D cy a A _ V h (nI ((X % m))) (nI 50) (nI ((101 + X))) (nI 1) (nI 1)) (vx_cwSW 6 C.2.2.2.2.1 gL_refuses_L_rules rfl rfl rfl (by decide +kernel) ⟨Nat.le_of_ble_eq_true rfl, Nat.le_of_ble_eq_true rfl⟩) rfl rfl (Nat.le_of_ble_eq_true rfl) dL_refuses_702 ⟨Nat.le_of_ble_eq_true rfl, Nat.le_of_ble_eq_true rfl⟩ (fun r_702 u_702 h_702 => ?_)
                  obtain ⟨rfl, rfl⟩ := rf_w (E := xIA) (seqx_2 (nCx_at h hsm) (seqx_2 (show nRx 50 0 100 = none by decide) (seqx_1 (nR_hi (H := 100) (by omega) (by omega))))) h_702
                  refine x_ldc (v := (-2000000002)) C (by decide +kernel) dL_refuses_705 ?_
                  refine x_icmp_ne C 790 dL_refuses_707 (by decide) (fun c_707 => absurd cdE_IA c_707) (fun c_707 => ?_)
                  refine x_aload_n (i := 0) C dL_refuses_710 rfl rfl ?_
                  refine x_iload (i := 8) C dL_refuses_711 rfl ?_
                  refine x_bipush (v := nI 50) C dL_refuses_713 (by decide) ?_
                  refine x_bipush (v := nI 60) C dL_refuses_715 (by decide) ?_
                  refine x_iconst (v := nI 0) C dL_refuses_717 (by decide) ?_
                  refine x_iconst (v := nI 1) C dL_refuses_718 (by decide) ?_
                  refine x_callSWi (As := [.ref (a 0), .int (nI ((X % m))), .int (nI 50), .int (nI 60), .int (nI 0), .int (nI 1)]) C hE (k_L_rules l hfl D cy a A _ V h (nI ((X % m))) (nI 50) (nI 60) (nI 0) (nI 1)) (vx_cwSW 6 C.2.2.2.2.1 gL_refuses_L_rules rfl rfl rfl (by decide +kernel) ⟨Nat.le_of_ble_eq_true rfl, Nat.le_of_ble_eq_true rfl⟩) rfl rfl (Nat.le_of_ble_eq_true rfl) dL_refuses_719 ⟨Nat.le_of_ble_eq_true rfl, Nat.le_of_ble_eq_true rfl⟩ (fun r_719 u_719 h_719 => ?_)
                  obtain ⟨rfl, rfl⟩ := rf_w (E := xIA) (seqx_2 (nCx_at h hsm) (seqx_2 (show nRx 50 0 100 = none by decide) (seqx_2 (show nRx 60 50 100 = none by decide) (seqx_1 (show nRx 0 1 10 = some xIA by decide))))) h_719
                  refine x_ldc (v := (-2000000002)) C (by decide +kernel) dL_refuses_722 ?_
                  refine x_icmp_ne C 790 dL_refuses_724 (by decide) (fun c_724 => absurd cdE_IA c_724) (fun c_724 => ?_)
                  refine x_aload_n (i := 0) C dL_refuses_727 rfl rfl ?_
                  refine x_iload (i := 8) C dL_refuses_728 rfl ?_
                  refine x_bipush (v := nI 50) C dL_refuses_730 (by decide) ?_
                  refine x_bipush (v := nI 60) C dL_refuses_732 (by decide) ?_
                  refine x_bipush (v := nI 11) C dL_refuses_734 (by decide) ?_
                  refine x_iload_n (i := 2) C dL_refuses_736 rfl rfl ?_
                  refine x_iadd C dL_refuses_737 ?_
                  refine x_topi (nI_add _ _) ?_
                  refine x_iconst (v := nI 1) C dL_refuses_738 (by decide) ?_
                  refine x_callSWi (As := [.ref (a 0), .int (nI ((X % m))), .int (nI 50), .int (nI 60), .int (nI ((11 + X))), .int (nI 1)]) C hE (k_L_rules l hfl D cy a A _ V h (nI ((X % m))) (nI 50) (nI 60) (nI ((11 + X))) (nI 1)) (vx_cwSW 6 C.2.2.2.2.1 gL_refuses_L_rules rfl rfl rfl (by decide +kernel) ⟨Nat.le_of_ble_eq_true rfl, Nat.le_of_ble_eq_true rfl⟩) rfl rfl (Nat.le_of_ble_eq_true rfl) dL_refuses_739 ⟨Nat.le_of_ble_eq_true rfl, Nat.le_of_ble_eq_true rfl⟩ (fun r_739 u_739 h_739 => ?_)
                  obtain ⟨rfl, rfl⟩ := rf_w (E := xIA) (seqx_2 (nCx_at h hsm) (seqx_2 (show nRx 50 0 100 = none by decide) (seqx_2 (show nRx 60 50 100 = none by decide) (seqx_1 (nR_hi (H := 10) (by omega) (by omega)))))) h_739
                  refine x_ldc (v := (-2000000002)) C (by decide +kernel) dL_refuses_742 ?_
                  refine x_icmp_ne C 790 dL_refuses_744 (by decide) (fun c_744 => absurd cdE_IA c_744) (fun c_744 => ?_)
                  refine x_aload_n (i := 0) C dL_refuses_747 rfl rfl ?_
                  refine x_iload (i := 8) C dL_refuses_748 rfl ?_
                  refine x_bipush (v := nI 50) C dL_refuses_750 (by decide) ?_
                  refine x_bipush (v := nI 60) C dL_refuses_752 (by decide) ?_
                  refine x_iconst (v := nI 1) C dL_refuses_754 (by decide) ?_
                  refine x_sipush (v := nI 1001) C dL_refuses_755 (by decide) ?_
                  refine x_iload_n (i := 2) C dL_refuses_758 rfl rfl ?_
                  refine x_iadd C dL_refuses_759 ?_
                  refine x_topi (nI_add _ _) ?_
                  refine x_callSWi (As := [.ref (a 0), .int (nI ((X % m))), .int (nI 50), .int (nI 60), .int (nI 1), .int (nI ((1001 + X)))]) C hE (k_L_rules l hfl D cy a A _ V h (nI ((X % m))) (nI 50) (nI 60) (nI 1) (nI ((1001 + X)))) (vx_cwSW 6 C.2.2.2.2.1 gL_refuses_L_rules rfl rfl rfl (by decide +kernel) ⟨Nat.le_of_ble_eq_true rfl, Nat.le_of_ble_eq_true rfl⟩) rfl rfl (Nat.le_of_ble_eq_true rfl) dL_refuses_760 ⟨Nat.le_of_ble_eq_true rfl, Nat.le_of_ble_eq_true rfl⟩ (fun r_760 u_760 h_760 => ?_)
                  obtain ⟨rfl, rfl⟩ := rf_w (E := xIA) (seqx_2 (nCx_at h hsm) (seqx_2 (show nRx 50 0 100 = none by decide) (seqx_2 (show nRx 60 50 100 = none by decide) (seqx_2 (show nRx 1 1 10 = none by decide) (nR_hi (H := 1000) (by omega) (by omega)))))) h_760
                  refine x_ldc (v := (-2000000002)) C (by decide +kernel) dL_refuses_763 ?_
                  refine x_icmp_ne C 790 dL_refuses_765 (by decide) (fun c_765 => absurd cdE_IA c_765) (fun c_765 => ?_)
                  refine x_aload_n (i := 0) C dL_refuses_768 rfl rfl ?_
                  refine x_iload (i := 8) C dL_refuses_769 rfl ?_
                  refine x_iconst (v := (-1)) C dL_refuses_771 (by decide) ?_
                  refine x_iload_n (i := 2) C dL_refuses_772 rfl rfl ?_
                  refine x_isub C dL_refuses_773 ?_
                  refine x_bipush (v := nI 60) C dL_refuses_774 (by decide) ?_
                  refine x_iconst (v := nI 1) C dL_refuses_776 (by decide) ?_
                  refine x_iconst (v := nI 1) C dL_refuses_777 (by decide) ?_
                  refine x_callSWi (As := [.ref (a 0), .int (nI ((X % m))), .int (((-1) - nI X)), .int (nI 60), .int (nI 1), .int (nI 1)]) C hE (k_L_rules l hfl D cy a A _ V h (nI ((X % m))) (((-1) - nI X)) (nI 60) (nI 1) (nI 1)) (vx_cwSW 6 C.2.2.2.2.1 gL_refuses_L_rules rfl rfl rfl (by decide +kernel) ⟨Nat.le_of_ble_eq_true rfl, Nat.le_of_ble_eq_true rfl⟩) rfl rfl (Nat.le_of_ble_eq_true rfl) dL_refuses_778 ⟨Nat.le_of_ble_eq_true rfl, Nat.le_of_ble_eq_true rfl⟩ (fun r_778 u_778 h_778 => ?_)
                  obtain ⟨rfl, rfl⟩ := rf_w (E := xIA) (seqx_2 (nCx_at h hsm) (seqx_1 (nR_m1 (L := 0) (by omega) (by omega)))) h_778
                  refine x_ldc (v := (-2000000002)) C (by decide +kernel) dL_refuses_781 ?_
                  refine x_icmp_ne C 790 dL_refuses_783 (by decide) (fun c_783 => absurd cdE_IA c_783) (fun c_783 => ?_)
                  refine x_iconst (v := nI 1) C dL_refuses_786 (by decide) ?_
                  refine x_goto C 791 dL_refuses_787 (by decide) ?_
                  refine x_istore (i := 7) C dL_refuses_791 (by decide) ?_
                  refine x_subm (lv' := [(7, .int (nI 1)), (6, .int (nI ((X % 8)))), (5, .int w_72), (4, .int w_47), (3, .int w_24), (2, .int (nI X)), (1, .ref o), (0, .ref (a 0))]) ?_ rfl
                  exact x_widen (Nat.le_of_ble_eq_true rfl) (Nat.le_of_ble_eq_true rfl) j_793
            · refine x_aload_n (i := 0) C dL_refuses_607 rfl rfl ?_
              refine x_callVi C hE (k_X3_devices l D cy a A _ V) (cwV 0 C.2.2.2.2.1 gL_refuses_X3_devices rfl rfl rfl (by decide +kernel) ⟨Nat.le_of_ble_eq_true rfl, Nat.le_of_ble_eq_true rfl⟩) 0 (cW_R cy a _ _) rfl rfl rfl rfl (Nat.le_of_ble_eq_true rfl) dL_refuses_608 ⟨Nat.le_of_ble_eq_true rfl, Nat.le_of_ble_eq_true rfl⟩ (fun r_608 u_608 h_608 => ?_)
              obtain ⟨rfl, rfl⟩ := rz_w (gJ_n h).1 h_608
              refine x_bipush (v := nI 10) C dL_refuses_611 (by decide) ?_
              refine x_icmp_lt C 628 dL_refuses_613 (by decide) (fun c_613 => ?_) (fun c_613 => ?_)
              · refine x_subm (lv' := [(6, .int (nI ((X % 8)))), (5, .int w_72), (4, .int w_47), (3, .int w_24), (2, .int (nI X)), (1, .ref o), (0, .ref (a 0))]) ?_ rfl
                exact x_widen (Nat.le_of_ble_eq_true rfl) (Nat.le_of_ble_eq_true rfl) j_628
              · have hn9 : ¬ V 0 4 < 10 := by rw [h.1]; exact c_613
                refine x_aload_n (i := 0) C dL_refuses_616 rfl rfl ?_
                refine x_iconst (v := nI 0) C dL_refuses_617 (by decide) ?_
                refine x_iload (i := 6) C dL_refuses_618 rfl ?_
                refine x_callSWi (As := [.ref (a 0), .int (nI 0), .int (nI ((X % 8)))]) C hE (k_L_adds l hfl D cy a A _ V h (nI 0) (nI ((X % 8)))) (vx_cwSW 3 C.2.2.2.2.1 gL_refuses_L_adds rfl rfl rfl (by decide +kernel) ⟨Nat.le_of_ble_eq_true rfl, Nat.le_of_ble_eq_true rfl⟩) rfl rfl (Nat.le_of_ble_eq_true rfl) dL_refuses_620 ⟨Nat.le_of_ble_eq_true rfl, Nat.le_of_ble_eq_true rfl⟩ (fun r_620 u_620 h_620 => ?_)
                obtain ⟨rfl, rfl⟩ := rf_w (E := xIS) (seqx_2 (show nKx 0 = none by decide) (seqx_2 (nVx_at (j := X % 8) (by omega)) (if_neg hn9))) h_620
                refine x_ldc (v := (-2000000003)) C (by decide +kernel) dL_refuses_623 ?_
                refine x_icmp_ne C 632 dL_refuses_625 (by decide) (fun c_625 => absurd cdE_IS c_625) (fun c_625 => ?_)
                refine x_subm (lv' := [(6, .int (nI ((X % 8)))), (5, .int w_72), (4, .int w_47), (3, .int w_24), (2, .int (nI X)), (1, .ref o), (0, .ref (a 0))]) ?_ rfl
                exact x_widen (Nat.le_of_ble_eq_true rfl) (Nat.le_of_ble_eq_true rfl) j_628
          · refine x_aload_n (i := 1) C dL_refuses_585 rfl rfl ?_
            refine x_iconst (v := nI 0) C dL_refuses_586 (by decide) ?_
            refine x_nrd C hf dL_refuses_587 ?_
            refine x_bipush (v := nI 6) C dL_refuses_588 (by decide) ?_
            refine x_icmp_lt C 607 dL_refuses_590 (by decide) (fun c_590 => ?_) (fun c_590 => ?_)
            · refine x_subm (lv' := [(6, .int (nI ((X % 8)))), (5, .int w_72), (4, .int w_47), (3, .int w_24), (2, .int (nI X)), (1, .ref o), (0, .ref (a 0))]) ?_ rfl
              exact x_widen (Nat.le_of_ble_eq_true rfl) (Nat.le_of_ble_eq_true rfl) j_607
            · have hm9 : ¬ V 0 5 < 6 := by rw [h.2.2.1]; exact c_590
              refine x_aload_n (i := 0) C dL_refuses_593 rfl rfl ?_
              refine x_iload (i := 6) C dL_refuses_594 rfl ?_
              refine x_iconst (v := nI 0) C dL_refuses_596 (by decide) ?_
              refine x_iconst (v := nI 0) C dL_refuses_597 (by decide) ?_
              refine x_iconst (v := (-1)) C dL_refuses_598 (by decide) ?_
              refine x_callSWi (As := [.ref (a 0), .int (nI ((X % 8))), .int (nI 0), .int (nI 0), .int ((-1))]) C hE (k_L_begins l hfl D cy a A _ V h (nI ((X % 8))) (nI 0) (nI 0) ((-1))) (vx_cwSW 5 C.2.2.2.2.1 gL_refuses_L_begins rfl rfl rfl (by decide +kernel) ⟨Nat.le_of_ble_eq_true rfl, Nat.le_of_ble_eq_true rfl⟩) rfl rfl (Nat.le_of_ble_eq_true rfl) dL_refuses_599 ⟨Nat.le_of_ble_eq_true rfl, Nat.le_of_ble_eq_true rfl⟩ (fun r_599 u_599 h_599 => ?_)
              obtain ⟨rfl, rfl⟩ := rf_w (E := xIS) (seqx_2 (nVx_at (j := X % 8) (by omega)) (seqx_2 (if_pos rfl) (seqx_2 (show nRx 0 0 15 = none by decide) (seqx_2 (show nRx 0 0 255 = none by decide) (if_neg hm9))))) h_599
              refine x_ldc (v := (-2000000003)) C (by decide +kernel) dL_refuses_602 ?_
              refine x_icmp_ne C 632 dL_refuses_604 (by decide) (fun c_604 => absurd cdE_IS c_604) (fun c_604 => ?_)
              refine x_subm (lv' := [(6, .int (nI ((X % 8)))), (5, .int w_72), (4, .int w_47), (3, .int w_24), (2, .int (nI X)), (1, .ref o), (0, .ref (a 0))]) ?_ rfl
              exact x_widen (Nat.le_of_ble_eq_true rfl) (Nat.le_of_ble_eq_true rfl) j_607
        · refine x_iload (i := 5) C dL_refuses_419 rfl ?_
          refine x_iconst (v := (-1)) C dL_refuses_421 (by decide) ?_
          refine x_icmp_ne C 430 dL_refuses_422 (by decide) (fun c_422 => ?_) (fun c_422 => ?_)
          · refine x_iload (i := 5) C dL_refuses_430 rfl ?_
            exact j_432 _ ⟨c_422, e_72⟩
          · refine x_bipush (v := (-2)) C dL_refuses_425 (by decide) ?_
            refine x_goto C 432 dL_refuses_427 (by decide) ?_
            exact j_432 _ ⟨by decide, nCx_no h (Or.inl (by decide))⟩
      · refine x_iload_n (i := 2) C dL_refuses_49 rfl rfl ?_
        refine x_iconst (v := nI 2) C dL_refuses_50 (by decide) ?_
        refine x_irem C dL_refuses_51 (nI_ne0 (by omega) (by omega)) ?_
        refine x_topi (pk_rem (by omega) (by omega) (by omega)) ?_
        refine x_if_ne C 64 dL_refuses_52 (by decide) (fun c_52 => ?_) (fun c_52 => ?_)
        · refine x_aload_n (i := 1) C dL_refuses_64 rfl rfl ?_
          refine x_iconst (v := nI 0) C dL_refuses_65 (by decide) ?_
          refine x_nrd C hf dL_refuses_66 ?_
          refine x_iload_n (i := 2) C dL_refuses_67 rfl rfl ?_
          refine x_bipush (v := nI 50) C dL_refuses_68 (by decide) ?_
          refine x_irem C dL_refuses_70 (nI_ne0 (by omega) (by omega)) ?_
          refine x_topi (pk_rem (by omega) (by omega) (by omega)) ?_
          refine x_iadd C dL_refuses_71 ?_
          refine x_topi (nI_add _ _) ?_
          exact j_72 _ (nCx_no h (Or.inr (by rw [nB_ti (by omega)]; omega)))
        · refine x_iconst (v := (-1)) C dL_refuses_55 (by decide) ?_
          refine x_iload_n (i := 2) C dL_refuses_56 rfl rfl ?_
          refine x_bipush (v := nI 50) C dL_refuses_57 (by decide) ?_
          refine x_irem C dL_refuses_59 (nI_ne0 (by omega) (by omega)) ?_
          refine x_topi (pk_rem (by omega) (by omega) (by omega)) ?_
          refine x_isub C dL_refuses_60 ?_
          refine x_goto C 72 dL_refuses_61 (by decide) ?_
          exact j_72 _ (nCx_no h (Or.inl (by rw [m1_ti (by omega)]; omega)))
    · refine x_iload_n (i := 2) C dL_refuses_25 rfl rfl ?_
      refine x_iconst (v := nI 2) C dL_refuses_26 (by decide) ?_
      refine x_irem C dL_refuses_27 (nI_ne0 (by omega) (by omega)) ?_
      refine x_topi (pk_rem (by omega) (by omega) (by omega)) ?_
      refine x_if_ne C 40 dL_refuses_28 (by decide) (fun c_28 => ?_) (fun c_28 => ?_)
      · refine x_bipush (v := nI 8) C dL_refuses_40 (by decide) ?_
        refine x_iload_n (i := 2) C dL_refuses_42 rfl rfl ?_
        refine x_bipush (v := nI 50) C dL_refuses_43 (by decide) ?_
        refine x_irem C dL_refuses_45 (nI_ne0 (by omega) (by omega)) ?_
        refine x_topi (pk_rem (by omega) (by omega) (by omega)) ?_
        refine x_iadd C dL_refuses_46 ?_
        refine x_topi (nI_add _ _) ?_
        exact j_47 _ (nVx_no (Or.inr (by rw [nB_ti (by omega)]; omega)))
      · refine x_iconst (v := (-1)) C dL_refuses_31 (by decide) ?_
        refine x_iload_n (i := 2) C dL_refuses_32 rfl rfl ?_
        refine x_bipush (v := nI 50) C dL_refuses_33 (by decide) ?_
        refine x_irem C dL_refuses_35 (nI_ne0 (by omega) (by omega)) ?_
        refine x_topi (pk_rem (by omega) (by omega) (by omega)) ?_
        refine x_isub C dL_refuses_36 ?_
        refine x_goto C 47 dL_refuses_37 (by decide) ?_
        exact j_47 _ (nVx_no (Or.inl (by rw [m1_ti (by omega)]; omega)))
  · refine x_iload_n (i := 2) C dL_refuses_0 rfl rfl ?_
    refine x_iconst (v := nI 2) C dL_refuses_1 (by decide) ?_
    refine x_irem C dL_refuses_2 (nI_ne0 (by omega) (by omega)) ?_
    refine x_topi (pk_rem (by omega) (by omega) (by omega)) ?_
    refine x_if_ne C 15 dL_refuses_3 (by decide) (fun c_3 => ?_) (fun c_3 => ?_)
    · refine x_aload_n (i := 0) C dL_refuses_15 rfl rfl ?_
      refine x_callVi C hE (k_X3_devices l D cy a A _ V) (cwV 0 C.2.2.2.2.1 gL_refuses_X3_devices rfl rfl rfl (by decide +kernel) ⟨Nat.le_of_ble_eq_true rfl, Nat.le_of_ble_eq_true rfl⟩) 0 (cW_R cy a _ _) rfl rfl rfl rfl (Nat.le_of_ble_eq_true rfl) dL_refuses_16 ⟨Nat.le_of_ble_eq_true rfl, Nat.le_of_ble_eq_true rfl⟩ (fun r_16 u_16 h_16 => ?_)
      obtain ⟨rfl, rfl⟩ := rz_w (gJ_n h).1 h_16
      refine x_iload_n (i := 2) C dL_refuses_19 rfl rfl ?_
      refine x_bipush (v := nI 50) C dL_refuses_20 (by decide) ?_
      refine x_irem C dL_refuses_22 (nI_ne0 (by omega) (by omega)) ?_
      refine x_topi (pk_rem (by omega) (by omega) (by omega)) ?_
      refine x_iadd C dL_refuses_23 ?_
      refine x_topi (nI_add _ _) ?_
      exact j_24 _ (nDx_no h (Or.inr (by rw [nB_ti (by omega)]; omega)))
    · refine x_iconst (v := (-1)) C dL_refuses_6 (by decide) ?_
      refine x_iload_n (i := 2) C dL_refuses_7 rfl rfl ?_
      refine x_bipush (v := nI 50) C dL_refuses_8 (by decide) ?_
      refine x_irem C dL_refuses_10 (nI_ne0 (by omega) (by omega)) ?_
      refine x_topi (pk_rem (by omega) (by omega) (by omega)) ?_
      refine x_isub C dL_refuses_11 ?_
      refine x_goto C 24 dL_refuses_12 (by decide) ?_
      exact j_24 _ (nDx_no h (Or.inl (by rw [m1_ti (by omega)]; omega)))
/-! ===== END refuses ===== -/
