set_option maxRecDepth 20000 in
theorem wsL_law0_r1_in : ∀ w ∈ wsL_law0_r1, w ∈ lw_tbl := fun w h => (goodIn_p wsL_law0_r1 [29, 32] (by decide +kernel) (by decide +kernel) w h).1
set_option maxRecDepth 20000 in
theorem wsL_law0_r2_in : ∀ w ∈ wsL_law0_r2, w ∈ lw_tbl := fun w h => (goodIn_p wsL_law0_r2 [37, 43, 47, 58] (by decide +kernel) (by decide +kernel) w h).1
set_option maxRecDepth 20000 in
theorem wsL_law0_r3_in : ∀ w ∈ wsL_law0_r3, w ∈ lw_tbl := fun w h => (goodIn_p wsL_law0_r3 [50, 55, 81, 126] (by decide +kernel) (by decide +kernel) w h).1
set_option maxRecDepth 20000 in
theorem wsL_law0_r4_in : ∀ w ∈ wsL_law0_r4, w ∈ lw_tbl := fun w h => (goodIn_p wsL_law0_r4 [204, 589] (by decide +kernel) (by decide +kernel) w h).1
set_option maxRecDepth 20000 in
theorem wsL_law0_r5_in : ∀ w ∈ wsL_law0_r5, w ∈ lw_tbl := fun w h => (goodIn_p wsL_law0_r5 [213, 222, 225, 296] (by decide +kernel) (by decide +kernel) w h).1
set_option maxRecDepth 20000 in
theorem wsL_law0_r6_in : ∀ w ∈ wsL_law0_r6, w ∈ lw_tbl := fun w h => (goodIn_p wsL_law0_r6 [321, 324, 329, 337] (by decide +kernel) (by decide +kernel) w h).1
set_option maxRecDepth 20000 in
theorem wsL_law0_r7_in : ∀ w ∈ wsL_law0_r7, w ∈ lw_tbl := fun w h => (goodIn_p wsL_law0_r7 [342, 381, 373] (by decide +kernel) (by decide +kernel) w h).1
set_option maxRecDepth 20000 in
theorem wsL_law0_r8_in : ∀ w ∈ wsL_law0_r8, w ∈ lw_tbl := fun w h => (goodIn_p wsL_law0_r8 [408, 412, 420, 491] (by decide +kernel) (by decide +kernel) w h).1
set_option maxRecDepth 20000 in
theorem wsL_law0_r9_in : ∀ w ∈ wsL_law0_r9, w ∈ lw_tbl := fun w h => (goodIn_p wsL_law0_r9 [436, 432, 499] (by decide +kernel) (by decide +kernel) w h).1
set_option maxRecDepth 20000 in
theorem wsL_law0_r10_in : ∀ w ∈ wsL_law0_r10, w ∈ lw_tbl := fun w h => (goodIn_p wsL_law0_r10 [506, 449, 456] (by decide +kernel) (by decide +kernel) w h).1
set_option maxRecDepth 20000 in
theorem wsL_law0_r11_in : ∀ w ∈ wsL_law0_r11, w ∈ lw_tbl := fun w h => (goodIn_p wsL_law0_r11 [427, 441, 445, 559, 563] (by decide +kernel) (by decide +kernel) w h).1
set_option maxRecDepth 20000 in
theorem wsL_law0_r12_in : ∀ w ∈ wsL_law0_r12, w ∈ lw_tbl := fun w h => (goodIn_p wsL_law0_r12 [567, 539, 543, 548, 552] (by decide +kernel) (by decide +kernel) w h).1
set_option maxRecDepth 20000 in
theorem wsL_law0_r13_in : ∀ w ∈ wsL_law0_r13, w ∈ lw_tbl := fun w h => (goodIn_p wsL_law0_r13 [353, 356, 571, 575, 579, 583] (by decide +kernel) (by decide +kernel) w h).1
set_option maxRecDepth 20000 in
theorem wsL_law0_r14_i0 : ∀ w ∈ [Cond.code Lib.Math.max.name Lib.Math.max.code 2 (some .int)], w ∈ lw_tbl := fun w h => (goodIn_p [Cond.code Lib.Math.max.name Lib.Math.max.code 2 (some .int)] [586] (by decide +kernel) (by decide +kernel) w h).1
set_option maxRecDepth 20000 in
theorem wsL_law0_r14_i1 : ∀ w ∈ [Cond.methodLink RL 174 yL_refuses], w ∈ lw_tbl := fun w h => (goodIn_p [Cond.methodLink RL 174 yL_refuses] [] (by decide +kernel) (by decide +kernel) w h).1
set_option maxRecDepth 20000 in
theorem wsL_law0_r14_i2 : ∀ w ∈ [Cond.static yL_refuses], w ∈ lw_tbl := fun w h => (goodIn_p [Cond.static yL_refuses] [] (by decide +kernel) (by decide +kernel) w h).1
set_option maxRecDepth 200000 in
theorem wsL_law0_r14_i3 : ∀ w ∈ [Cond.code yL_refuses cL_refuses 9 (some .boolean)], w ∈ lw_tbl := fun w h => by
  rw [List.mem_singleton.mp h]
  exact List.mem_of_getElem? (i := 209) rfl
set_option maxRecDepth 20000 in
theorem wsL_law0_r14_i4 : ∀ w ∈ [Cond.constant RL 107 (100001)], w ∈ lw_tbl := fun w h => (goodIn_p [Cond.constant RL 107 (100001)] [] (by decide +kernel) (by decide +kernel) w h).1
set_option maxRecDepth 20000 in
theorem wsL_law0_r14_i5 : ∀ w ∈ [Cond.methodLink RL 112 yL_size], w ∈ lw_tbl := fun w h => (goodIn_p [Cond.methodLink RL 112 yL_size] [] (by decide +kernel) (by decide +kernel) w h).1
set_option maxRecDepth 20000 in
theorem wsL_law0_r14_i6 : ∀ w ∈ [Cond.static yL_size], w ∈ lw_tbl := fun w h => (goodIn_p [Cond.static yL_size] [] (by decide +kernel) (by decide +kernel) w h).1
set_option maxRecDepth 20000 in
theorem wsL_law0_r14_i7 : ∀ w ∈ [Cond.codeWith yL_size cL_size 4 (some .int) [(0, 6, 7, 13)]], w ∈ lw_tbl := fun w h => (goodIn_p [Cond.codeWith yL_size cL_size 4 (some .int) [(0, 6, 7, 13)]] [] (by decide +kernel) (by decide +kernel) w h).1
set_option maxRecDepth 20000 in
theorem wsL_law0_r14_i8 : ∀ w ∈ [Cond.methodLink RL 26 yX3_size], w ∈ lw_tbl := fun w h => (goodIn_p [Cond.methodLink RL 26 yX3_size] [] (by decide +kernel) (by decide +kernel) w h).1
set_option maxRecDepth 20000 in
theorem wsL_law0_r14_i9 : ∀ w ∈ [Cond.instanceMethod yX3_size], w ∈ lw_tbl := fun w h => (goodIn_p [Cond.instanceMethod yX3_size] [] (by decide +kernel) (by decide +kernel) w h).1
set_option maxRecDepth 20000 in
theorem wsL_law0_r14_i10 : ∀ w ∈ [Cond.selects RX3 yX3_size yX3_size], w ∈ lw_tbl := fun w h => (goodIn_p [Cond.selects RX3 yX3_size yX3_size] [] (by decide +kernel) (by decide +kernel) w h).1
set_option maxRecDepth 20000 in
theorem wsL_law0_r14_i11 : ∀ w ∈ [Cond.code yX3_size cX3_size 3 (some .int)], w ∈ lw_tbl := fun w h => (goodIn_p [Cond.code yX3_size cX3_size 3 (some .int)] [349] (by decide +kernel) (by decide +kernel) w h).1
set_option maxRecDepth 20000 in
theorem wsL_law0_r14_i12 : ∀ w ∈ [Cond.methodLink RL 114 yL_byWays], w ∈ lw_tbl := fun w h => (goodIn_p [Cond.methodLink RL 114 yL_byWays] [] (by decide +kernel) (by decide +kernel) w h).1
set_option maxRecDepth 20000 in
theorem wsL_law0_r14_i13 : ∀ w ∈ [Cond.static yL_byWays], w ∈ lw_tbl := fun w h => (goodIn_p [Cond.static yL_byWays] [] (by decide +kernel) (by decide +kernel) w h).1
set_option maxRecDepth 20000 in
theorem wsL_law0_r14_i14 : ∀ w ∈ [Cond.codeWith yL_byWays cL_byWays 4 (some .int) [(0, 6, 7, 13)]], w ∈ lw_tbl := fun w h => (goodIn_p [Cond.codeWith yL_byWays cL_byWays 4 (some .int) [(0, 6, 7, 13)]] [] (by decide +kernel) (by decide +kernel) w h).1
set_option maxRecDepth 20000 in
theorem wsL_law0_r14_i15 : ∀ w ∈ [Cond.methodLink RL 29 yX3_sizeByWays], w ∈ lw_tbl := fun w h => (goodIn_p [Cond.methodLink RL 29 yX3_sizeByWays] [] (by decide +kernel) (by decide +kernel) w h).1
set_option maxRecDepth 20000 in
theorem wsL_law0_r14_i16 : ∀ w ∈ [Cond.instanceMethod yX3_sizeByWays], w ∈ lw_tbl := fun w h => (goodIn_p [Cond.instanceMethod yX3_sizeByWays] [] (by decide +kernel) (by decide +kernel) w h).1
set_option maxRecDepth 20000 in
theorem wsL_law0_r14_i17 : ∀ w ∈ [Cond.selects RX3 yX3_sizeByWays yX3_sizeByWays], w ∈ lw_tbl := fun w h => (goodIn_p [Cond.selects RX3 yX3_sizeByWays yX3_sizeByWays] [] (by decide +kernel) (by decide +kernel) w h).1
set_option maxRecDepth 20000 in
theorem wsL_law0_r14_i18 : ∀ w ∈ [Cond.code yX3_sizeByWays cX3_sizeByWays 3 (some .int)], w ∈ lw_tbl := fun w h => (goodIn_p [Cond.code yX3_sizeByWays cX3_sizeByWays 3 (some .int)] [363] (by decide +kernel) (by decide +kernel) w h).1
set_option maxRecDepth 20000 in
theorem wsL_law0_r14_i19 : ∀ w ∈ [Cond.methodLink RX3 80 yX2_leastBytesOfAllWays], w ∈ lw_tbl := fun w h => (goodIn_p [Cond.methodLink RX3 80 yX2_leastBytesOfAllWays] [] (by decide +kernel) (by decide +kernel) w h).1
set_option maxRecDepth 20000 in
theorem wsL_law0_r14_i20 : ∀ w ∈ [Cond.instanceMethod yX2_leastBytesOfAllWays], w ∈ lw_tbl := fun w h => (goodIn_p [Cond.instanceMethod yX2_leastBytesOfAllWays] [] (by decide +kernel) (by decide +kernel) w h).1
set_option maxRecDepth 20000 in
theorem wsL_law0_r14_i21 : ∀ w ∈ [Cond.selects RX2 yX2_leastBytesOfAllWays yX2_leastBytesOfAllWays], w ∈ lw_tbl := fun w h => (goodIn_p [Cond.selects RX2 yX2_leastBytesOfAllWays yX2_leastBytesOfAllWays] [] (by decide +kernel) (by decide +kernel) w h).1
set_option maxRecDepth 20000 in
theorem wsL_law0_r14_i22 : ∀ w ∈ [Cond.code yX2_leastBytesOfAllWays cX2_leastBytesOfAllWays 5 (some .int)], w ∈ lw_tbl := fun w h => (goodIn_p [Cond.code yX2_leastBytesOfAllWays cX2_leastBytesOfAllWays 5 (some .int)] [367] (by decide +kernel) (by decide +kernel) w h).1
set_option maxRecDepth 20000 in
theorem wsL_law0_r14_i23 : ∀ w ∈ [Cond.methodLink RX2 45 yX2_leastAlong], w ∈ lw_tbl := fun w h => (goodIn_p [Cond.methodLink RX2 45 yX2_leastAlong] [] (by decide +kernel) (by decide +kernel) w h).1
theorem wsL_law0_r14_in : ∀ w ∈ wsL_law0_r14, w ∈ lw_tbl := (List.forall_mem_cons.mpr ⟨wsL_law0_r14_i0 _ List.mem_cons_self, (List.forall_mem_cons.mpr ⟨wsL_law0_r14_i1 _ List.mem_cons_self, (List.forall_mem_cons.mpr ⟨wsL_law0_r14_i2 _ List.mem_cons_self, (List.forall_mem_cons.mpr ⟨wsL_law0_r14_i3 _ List.mem_cons_self, (List.forall_mem_cons.mpr ⟨wsL_law0_r14_i4 _ List.mem_cons_self, (List.forall_mem_cons.mpr ⟨wsL_law0_r14_i5 _ List.mem_cons_self, (List.forall_mem_cons.mpr ⟨wsL_law0_r14_i6 _ List.mem_cons_self, (List.forall_mem_cons.mpr ⟨wsL_law0_r14_i7 _ List.mem_cons_self, (List.forall_mem_cons.mpr ⟨wsL_law0_r14_i8 _ List.mem_cons_self, (List.forall_mem_cons.mpr ⟨wsL_law0_r14_i9 _ List.mem_cons_self, (List.forall_mem_cons.mpr ⟨wsL_law0_r14_i10 _ List.mem_cons_self, (List.forall_mem_cons.mpr ⟨wsL_law0_r14_i11 _ List.mem_cons_self, (List.forall_mem_cons.mpr ⟨wsL_law0_r14_i12 _ List.mem_cons_self, (List.forall_mem_cons.mpr ⟨wsL_law0_r14_i13 _ List.mem_cons_self, (List.forall_mem_cons.mpr ⟨wsL_law0_r14_i14 _ List.mem_cons_self, (List.forall_mem_cons.mpr ⟨wsL_law0_r14_i15 _ List.mem_cons_self, (List.forall_mem_cons.mpr ⟨wsL_law0_r14_i16 _ List.mem_cons_self, (List.forall_mem_cons.mpr ⟨wsL_law0_r14_i17 _ List.mem_cons_self, (List.forall_mem_cons.mpr ⟨wsL_law0_r14_i18 _ List.mem_cons_self, (List.forall_mem_cons.mpr ⟨wsL_law0_r14_i19 _ List.mem_cons_self, (List.forall_mem_cons.mpr ⟨wsL_law0_r14_i20 _ List.mem_cons_self, (List.forall_mem_cons.mpr ⟨wsL_law0_r14_i21 _ List.mem_cons_self, (List.forall_mem_cons.mpr ⟨wsL_law0_r14_i22 _ List.mem_cons_self, (List.forall_mem_cons.mpr ⟨wsL_law0_r14_i23 _ List.mem_cons_self, (fun w h => absurd h List.not_mem_nil)⟩)⟩)⟩)⟩)⟩)⟩)⟩)⟩)⟩)⟩)⟩)⟩)⟩)⟩)⟩)⟩)⟩)⟩)⟩)⟩)⟩)⟩)⟩)⟩)
set_option maxRecDepth 20000 in
theorem wsL_law0_r15_in : ∀ w ∈ wsL_law0_r15, w ∈ lw_tbl := fun w h => (goodIn_p wsL_law0_r15 [370, 463, 470, 477] (by decide +kernel) (by decide +kernel) w h).1
set_option maxRecDepth 20000 in
theorem wsL_law0_r16_in : ∀ w ∈ wsL_law0_r16, w ∈ lw_tbl := fun w h => (goodIn_p wsL_law0_r16 [484, 514, 521] (by decide +kernel) (by decide +kernel) w h).1
set_option maxRecDepth 20000 in
theorem wsL_law0_r17_i0 : ∀ w ∈ [Cond.methodLink RL 83 yX3_reports], w ∈ lw_tbl := fun w h => (goodIn_p [Cond.methodLink RL 83 yX3_reports] [] (by decide +kernel) (by decide +kernel) w h).1
set_option maxRecDepth 20000 in
theorem wsL_law0_r17_i1 : ∀ w ∈ [Cond.instanceMethod yX3_reports], w ∈ lw_tbl := fun w h => (goodIn_p [Cond.instanceMethod yX3_reports] [] (by decide +kernel) (by decide +kernel) w h).1
set_option maxRecDepth 20000 in
theorem wsL_law0_r17_i2 : ∀ w ∈ [Cond.selects RX3 yX3_reports yX3_reports], w ∈ lw_tbl := fun w h => (goodIn_p [Cond.selects RX3 yX3_reports yX3_reports] [] (by decide +kernel) (by decide +kernel) w h).1
set_option maxRecDepth 20000 in
theorem wsL_law0_r17_i3 : ∀ w ∈ [Cond.code yX3_reports cX3_reports 2 (some .int)], w ∈ lw_tbl := fun w h => (goodIn_p [Cond.code yX3_reports cX3_reports 2 (some .int)] [528] (by decide +kernel) (by decide +kernel) w h).1
set_option maxRecDepth 20000 in
theorem wsL_law0_r17_i4 : ∀ w ∈ [Cond.fieldLink RX3 180 "Ringroll$Campaign" "reports" "I"], w ∈ lw_tbl := fun w h => (goodIn_p [Cond.fieldLink RX3 180 "Ringroll$Campaign" "reports" "I"] [] (by decide +kernel) (by decide +kernel) w h).1
set_option maxRecDepth 20000 in
theorem wsL_law0_r17_i5 : ∀ w ∈ [Cond.methodLink RL 160 yL_eligible], w ∈ lw_tbl := fun w h => (goodIn_p [Cond.methodLink RL 160 yL_eligible] [] (by decide +kernel) (by decide +kernel) w h).1
set_option maxRecDepth 20000 in
theorem wsL_law0_r17_i6 : ∀ w ∈ [Cond.static yL_eligible], w ∈ lw_tbl := fun w h => (goodIn_p [Cond.static yL_eligible] [] (by decide +kernel) (by decide +kernel) w h).1
set_option maxRecDepth 20000 in
theorem wsL_law0_r17_i7 : ∀ w ∈ [Cond.codeWith yL_eligible cL_eligible 3 (some .int) [(0, 5, 6, 13)]], w ∈ lw_tbl := fun w h => (goodIn_p [Cond.codeWith yL_eligible cL_eligible 3 (some .int) [(0, 5, 6, 13)]] [] (by decide +kernel) (by decide +kernel) w h).1
set_option maxRecDepth 20000 in
theorem wsL_law0_r17_i8 : ∀ w ∈ [Cond.methodLink RL 86 yX3_eligible], w ∈ lw_tbl := fun w h => (goodIn_p [Cond.methodLink RL 86 yX3_eligible] [] (by decide +kernel) (by decide +kernel) w h).1
set_option maxRecDepth 20000 in
theorem wsL_law0_r17_i9 : ∀ w ∈ [Cond.instanceMethod yX3_eligible], w ∈ lw_tbl := fun w h => (goodIn_p [Cond.instanceMethod yX3_eligible] [] (by decide +kernel) (by decide +kernel) w h).1
set_option maxRecDepth 20000 in
theorem wsL_law0_r17_i10 : ∀ w ∈ [Cond.selects RX3 yX3_eligible yX3_eligible], w ∈ lw_tbl := fun w h => (goodIn_p [Cond.selects RX3 yX3_eligible yX3_eligible] [] (by decide +kernel) (by decide +kernel) w h).1
set_option maxRecDepth 20000 in
theorem wsL_law0_r17_i11 : ∀ w ∈ [Cond.code yX3_eligible cX3_eligible 5 (some .int)], w ∈ lw_tbl := fun w h => (goodIn_p [Cond.code yX3_eligible cX3_eligible 5 (some .int)] [535] (by decide +kernel) (by decide +kernel) w h).1
set_option maxRecDepth 20000 in
theorem wsL_law0_r17_i12 : ∀ w ∈ [Cond.methodLink RL 178 yL_alike], w ∈ lw_tbl := fun w h => (goodIn_p [Cond.methodLink RL 178 yL_alike] [] (by decide +kernel) (by decide +kernel) w h).1
set_option maxRecDepth 20000 in
theorem wsL_law0_r17_i13 : ∀ w ∈ [Cond.static yL_alike], w ∈ lw_tbl := fun w h => (goodIn_p [Cond.static yL_alike] [] (by decide +kernel) (by decide +kernel) w h).1
set_option maxRecDepth 20000 in
theorem wsL_law0_r17_i14 : ∀ w ∈ [Cond.code yL_alike cL_alike 6 (some .boolean)], w ∈ lw_tbl := fun w h => (goodIn_p [Cond.code yL_alike cL_alike 6 (some .boolean)] [592] (by decide +kernel) (by decide +kernel) w h).1
set_option maxRecDepth 20000 in
theorem wsL_law0_r17_i15 : ∀ w ∈ [Cond.methodLink RL 182 yL_holds], w ∈ lw_tbl := fun w h => (goodIn_p [Cond.methodLink RL 182 yL_holds] [] (by decide +kernel) (by decide +kernel) w h).1
set_option maxRecDepth 20000 in
theorem wsL_law0_r17_i16 : ∀ w ∈ [Cond.static yL_holds], w ∈ lw_tbl := fun w h => (goodIn_p [Cond.static yL_holds] [] (by decide +kernel) (by decide +kernel) w h).1
set_option maxRecDepth 20000 in
theorem wsL_law0_r17_i17 : ∀ w ∈ [Cond.code yL_holds cL_holds 11 (some .boolean)], w ∈ lw_tbl := fun w h => (goodIn_p [Cond.code yL_holds cL_holds 11 (some .boolean)] [595] (by decide +kernel) (by decide +kernel) w h).1
set_option maxRecDepth 20000 in
theorem wsL_law0_r17_i18 : ∀ w ∈ [Cond.methodLink RL 185 yL_ends], w ∈ lw_tbl := fun w h => (goodIn_p [Cond.methodLink RL 185 yL_ends] [] (by decide +kernel) (by decide +kernel) w h).1
set_option maxRecDepth 20000 in
theorem wsL_law0_r17_i19 : ∀ w ∈ [Cond.static yL_ends], w ∈ lw_tbl := fun w h => (goodIn_p [Cond.static yL_ends] [] (by decide +kernel) (by decide +kernel) w h).1
set_option maxRecDepth 20000 in
theorem wsL_law0_r17_i20 : ∀ w ∈ [Cond.code yL_ends cL_ends 10 (some .boolean)], w ∈ lw_tbl := fun w h => (goodIn_p [Cond.code yL_ends cL_ends 10 (some .boolean)] [598] (by decide +kernel) (by decide +kernel) w h).1
theorem wsL_law0_r17_in : ∀ w ∈ wsL_law0_r17, w ∈ lw_tbl := (List.forall_mem_cons.mpr ⟨wsL_law0_r17_i0 _ List.mem_cons_self, (List.forall_mem_cons.mpr ⟨wsL_law0_r17_i1 _ List.mem_cons_self, (List.forall_mem_cons.mpr ⟨wsL_law0_r17_i2 _ List.mem_cons_self, (List.forall_mem_cons.mpr ⟨wsL_law0_r17_i3 _ List.mem_cons_self, (List.forall_mem_cons.mpr ⟨wsL_law0_r17_i4 _ List.mem_cons_self, (List.forall_mem_cons.mpr ⟨wsL_law0_r17_i5 _ List.mem_cons_self, (List.forall_mem_cons.mpr ⟨wsL_law0_r17_i6 _ List.mem_cons_self, (List.forall_mem_cons.mpr ⟨wsL_law0_r17_i7 _ List.mem_cons_self, (List.forall_mem_cons.mpr ⟨wsL_law0_r17_i8 _ List.mem_cons_self, (List.forall_mem_cons.mpr ⟨wsL_law0_r17_i9 _ List.mem_cons_self, (List.forall_mem_cons.mpr ⟨wsL_law0_r17_i10 _ List.mem_cons_self, (List.forall_mem_cons.mpr ⟨wsL_law0_r17_i11 _ List.mem_cons_self, (List.forall_mem_cons.mpr ⟨wsL_law0_r17_i12 _ List.mem_cons_self, (List.forall_mem_cons.mpr ⟨wsL_law0_r17_i13 _ List.mem_cons_self, (List.forall_mem_cons.mpr ⟨wsL_law0_r17_i14 _ List.mem_cons_self, (List.forall_mem_cons.mpr ⟨wsL_law0_r17_i15 _ List.mem_cons_self, (List.forall_mem_cons.mpr ⟨wsL_law0_r17_i16 _ List.mem_cons_self, (List.forall_mem_cons.mpr ⟨wsL_law0_r17_i17 _ List.mem_cons_self, (List.forall_mem_cons.mpr ⟨wsL_law0_r17_i18 _ List.mem_cons_self, (List.forall_mem_cons.mpr ⟨wsL_law0_r17_i19 _ List.mem_cons_self, (List.forall_mem_cons.mpr ⟨wsL_law0_r17_i20 _ List.mem_cons_self, (fun w h => absurd h List.not_mem_nil)⟩)⟩)⟩)⟩)⟩)⟩)⟩)⟩)⟩)⟩)⟩)⟩)⟩)⟩)⟩)⟩)⟩)⟩)⟩)⟩)⟩)
set_option maxRecDepth 20000 in
theorem wsX30_inT : ∀ w ∈ wsX30, w ∈ lw_tbl := fun w h => (goodIn_p wsX30 [] (by decide +kernel) (by decide +kernel) w h).1
set_option maxRecDepth 20000 in
theorem wsX20_inT : ∀ w ∈ wsX20, w ∈ lw_tbl := fun w h => (goodIn_p wsX20 [] (by decide +kernel) (by decide +kernel) w h).1
set_option maxRecDepth 20000 in
theorem wsX10_inT : ∀ w ∈ wsX10, w ∈ lw_tbl := fun w h => (goodIn_p wsX10 [] (by decide +kernel) (by decide +kernel) w h).1
set_option maxRecDepth 20000 in
theorem wsX00_inT : ∀ w ∈ wsX00, w ∈ lw_tbl := fun w h => (goodIn_p wsX00 [] (by decide +kernel) (by decide +kernel) w h).1
theorem wsL_law_in0 : ∀ w ∈ wsL_law0, w ∈ lw_tbl := fun w h => (List.mem_append.mp h).elim (fun h => (List.mem_append.mp h).elim (fun h => (List.mem_append.mp h).elim (fun h => (List.mem_append.mp h).elim (fun h => (List.mem_append.mp h).elim (fun h => (List.mem_append.mp h).elim (fun h => wsL_law0_r1_in w h) (fun h => (List.mem_append.mp h).elim (fun h => wsL_law0_r2_in w h) (fun h => (List.mem_append.mp h).elim (fun h => wsL_law0_r3_in w h) (fun h => (List.mem_append.mp h).elim (fun h => wsL_law0_r4_in w h) (fun h => (List.mem_append.mp h).elim (fun h => wsL_law0_r5_in w h) (fun h => (List.mem_append.mp h).elim (fun h => wsL_law0_r6_in w h) (fun h => (List.mem_append.mp h).elim (fun h => wsL_law0_r7_in w h) (fun h => (List.mem_append.mp h).elim (fun h => wsL_law0_r8_in w h) (fun h => (List.mem_append.mp h).elim (fun h => wsL_law0_r9_in w h) (fun h => (List.mem_append.mp h).elim (fun h => wsL_law0_r10_in w h) (fun h => (List.mem_append.mp h).elim (fun h => wsL_law0_r11_in w h) (fun h => (List.mem_append.mp h).elim (fun h => wsL_law0_r12_in w h) (fun h => (List.mem_append.mp h).elim (fun h => wsL_law0_r13_in w h) (fun h => (List.mem_append.mp h).elim (fun h => wsL_law0_r14_in w h) (fun h => (List.mem_append.mp h).elim (fun h => wsL_law0_r15_in w h) (fun h => (List.mem_append.mp h).elim (fun h => wsL_law0_r16_in w h) (fun h => wsL_law0_r17_in w h))))))))))))))))) (fun h => wsX30_inT w h)) (fun h => wsX20_inT w h)) (fun h => wsX10_inT w h)) (fun h => wsX00_inT w h)) (fun h => absurd h List.not_mem_nil)
theorem wsL_law_x0 : ∀ w ∈ (vx_atS RX3 87 "java/lang/IndexOutOfBoundsException" ["java/lang/RuntimeException", "java/lang/Exception"]).filter goodWord, w ∈ lw_tbl := by decide +kernel
theorem wsL_law_x1 : ∀ w ∈ (vx_atS RX3 70 "java/lang/IllegalArgumentException" ["java/lang/RuntimeException", "java/lang/Exception"]).filter goodWord, w ∈ lw_tbl := by decide +kernel
theorem wsL_law_x2 : ∀ w ∈ (vx_atS RX3 92 "java/lang/IllegalStateException" ["java/lang/RuntimeException", "java/lang/Exception"]).filter goodWord, w ∈ lw_tbl := by decide +kernel
theorem wsL_law_in : ∀ w ∈ wsL_law, w ∈ lw_tbl := fun w h => (List.mem_append.mp h).elim (fun h => (List.mem_append.mp h).elim (fun h => (List.mem_append.mp h).elim (fun h => wsL_law_in0 w h) (fun h => wsL_law_x0 w h)) (fun h => wsL_law_x1 w h)) (fun h => wsL_law_x2 w h)
theorem inlX0 : ∀ w ∈ wsX00, w ∈ wsL_law := fun _ h => List.mem_append_left _ (List.mem_append_left _ (List.mem_append_left _ (List.mem_append_left _ (List.mem_append_right _ h))))
theorem inX0 : ∀ w ∈ wsX00, w ∈ lw_tbl := fun w h => wsL_law_in w (inlX0 w h)
theorem inlX1 : ∀ w ∈ wsX10, w ∈ wsL_law := fun _ h => List.mem_append_left _ (List.mem_append_left _ (List.mem_append_left _ (List.mem_append_left _ (List.mem_append_left _ (List.mem_append_right _ h)))))
theorem inX1 : ∀ w ∈ wsX10, w ∈ lw_tbl := fun w h => wsL_law_in w (inlX1 w h)
theorem inlX2 : ∀ w ∈ wsX20, w ∈ wsL_law := fun _ h => List.mem_append_left _ (List.mem_append_left _ (List.mem_append_left _ (List.mem_append_left _ (List.mem_append_left _ (List.mem_append_left _ (List.mem_append_right _ h))))))
theorem inX2 : ∀ w ∈ wsX20, w ∈ lw_tbl := fun w h => wsL_law_in w (inlX2 w h)
theorem inlX3 : ∀ w ∈ wsX30, w ∈ wsL_law := fun _ h => List.mem_append_left _ (List.mem_append_left _ (List.mem_append_left _ (List.mem_append_left _ (List.mem_append_left _ (List.mem_append_left _ (List.mem_append_left _ (List.mem_append_right _ h)))))))
theorem inX3 : ∀ w ∈ wsX30, w ∈ lw_tbl := fun w h => wsL_law_in w (inlX3 w h)
theorem inX4 : ∀ w ∈ wsX40, w ∈ lw_tbl := by decide +kernel
theorem inJx145de : ∀ w ∈ wsJx145de0, w ∈ lw_tbl := by decide +kernel
theorem inJ9 : ∀ w ∈ wsJ90, w ∈ lw_tbl := by decide +kernel
theorem inJ0 : ∀ w ∈ wsJ00, w ∈ lw_tbl := by decide +kernel
theorem inJ7 : ∀ w ∈ wsJ70, w ∈ lw_tbl := by decide +kernel
