/-! ===== BEGIN lawtail: behind both calls: the numbers of the refusals are compared, then the answers ===== -/
section LTL
variable {p : Program} {l : Launch} {e : Env} {s : State} {m : MethodId} {below : List Frame} {meth : Method} {c : Code} {cells slots : Nat} {Q : State → Prop} {D : va_G} {A : Nat → Prop} {ret : Option FieldType} {pc : Nat} {sb t : Nat} {cy : Nat → ClassId} {a b : Nat → Nat} {o : Nat} {V M : XV} {f : Nat → Int64} {r5 r6 : Int32} {off : Int}
theorem law_tail (C : xC p s m #[Value.ref sb] meth c cL_law 7 RL wsL_law D (tyC cy) A ret) (hE : xE A s) (hf : cells ≤ 655756 ∧ slots ≤ 7128835) (hM0 : M 0 0 = r5) (hv : r5 = 0 → f 0 = r6.toInt64) (hoff : ((pc + 28 : Nat) : Int) + off = ((1599 : Nat) : Int))
    (d0 : decode cL_law pc = .ok (.aload_n 2, 1)) (d1 : decode cL_law (pc + 1) = .ok (.invokevirtual 99, 3)) (d4 : decode cL_law (pc + 1 + 3) = .ok (.iload 5, 2)) (d6 : decode cL_law (pc + 1 + 3 + 2) = .ok (.if_icmp .eq 5, 3)) (d11 : decode cL_law (pc + 11) = .ok (.iload 5, 2)) (d13 : decode cL_law (pc + 11 + 2) = .ok (.ifCond .ne 15, 3)) (d16 : decode cL_law (pc + 11 + 2 + 3) = .ok (.aload_n 3, 1)) (d17 : decode cL_law (pc + 11 + 2 + 3 + 1) = .ok (.iconst 0, 1)) (d18 : decode cL_law (pc + 11 + 2 + 3 + 1 + 1) = .ok (.laload, 1)) (d19 : decode cL_law (pc + 11 + 2 + 3 + 1 + 1 + 1) = .ok (.iload 6, 2)) (d21 : decode cL_law (pc + 11 + 2 + 3 + 1 + 1 + 1 + 2) = .ok (.i2l, 1)) (d22 : decode cL_law (pc + 11 + 2 + 3 + 1 + 1 + 1 + 2 + 1) = .ok (.lcmp, 1)) (d23 : decode cL_law (pc + 11 + 2 + 3 + 1 + 1 + 1 + 2 + 1 + 1) = .ok (.ifCond .eq 5, 3)) (d28 : decode cL_law (pc + 28) = .ok (.goto off, 3))
    (kk : xA p l e room_1 s m #[Value.ref sb] below meth c D A 7 cells slots Q 1599 (llv a b o sb t) [] (oW cy a o (mW cy b [] M) V f)) : xA p l e room_1 s m #[Value.ref sb] below meth c D A 7 cells slots Q pc ((6, .int r6) :: (5, .int r5) :: llv a b o sb t) [] (mW cy b (oW cy a o [] V f) M) := by
  have k28 : xA p l e room_1 s m #[Value.ref sb] below meth c D A 7 cells slots Q (pc + 28) ((6, .int r6) :: (5, .int r5) :: llv a b o sb t) [] (oW cy a o (mW cy b [] M) V f) := x_goto C 1599 d28 hoff (x_subm (lv' := llv a b o sb t) kk rfl)
  refine x_aload_n (i := 2) C d0 rfl rfl ?_
  refine x_callVi C hE (k_X4_thrown l D cy b A _ M) (cwV 0 C.2.2.2.2.1 gL_law_X4_thrown rfl rfl rfl (by decide +kernel) ⟨Nat.le_of_ble_eq_true rfl, Nat.le_of_ble_eq_true rfl⟩) 0 (mW_M cy b _ _) rfl rfl rfl rfl (Nat.le_of_ble_eq_true rfl) d1 ⟨hf.1, hf.2⟩ (fun r u h => ?_)
  obtain ⟨h1, h2⟩ := h
  rw [h1, h2]
  refine x_toO ?_
  refine x_iload (i := 5) C d4 rfl ?_
  refine x_icmp_eq C (pc + 11) d6 (by omega) (fun _ => ?_) (fun h => absurd hM0 h)
  refine x_iload (i := 5) C d11 rfl ?_
  refine x_if_ne C (pc + 28) d13 (by omega) (fun _ => k28) (fun h => ?_)
  have h0 : r5 = 0 := h
  refine x_aload_n (i := 3) C d16 rfl rfl ?_
  refine x_iconst (v := 0) C d17 (by decide) ?_
  refine x_lald0 C d18 ?_
  refine x_iload (i := 6) C d19 rfl ?_
  refine x_i2l C d21 rfl ?_
  refine x_lcmp C d22 ?_
  refine x_topi (show lg_cmp (f 0) r6.toInt64 = 0 by rw [hv h0]; exact lg_cmp_rf _) ?_
  exact x_if_eq C (pc + 28) d23 (by omega) (fun _ => k28) (fun h => absurd rfl h)
theorem law_tailZ (C : xC p s m #[Value.ref sb] meth c cL_law 7 RL wsL_law D (tyC cy) A ret) (hE : xE A s) (hf : cells ≤ 655756 ∧ slots ≤ 7128835) (hM0 : M 0 0 = r5) (hv : r5 = 0 → f 0 = r6.toInt64) (hz : r5 = 0 → r6 = 0 ∨ r6 = 1) (hoff : ((pc + 35 : Nat) : Int) + off = ((1599 : Nat) : Int))
    (d0 : decode cL_law pc = .ok (.aload_n 2, 1)) (d1 : decode cL_law (pc + 1) = .ok (.invokevirtual 99, 3)) (d4 : decode cL_law (pc + 1 + 3) = .ok (.iload 5, 2)) (d6 : decode cL_law (pc + 1 + 3 + 2) = .ok (.if_icmp .eq 5, 3)) (d11 : decode cL_law (pc + 11) = .ok (.iload 5, 2)) (d13 : decode cL_law (pc + 11 + 2) = .ok (.ifCond .ne 22, 3)) (d16 : decode cL_law (pc + 11 + 2 + 3) = .ok (.aload_n 3, 1)) (d17 : decode cL_law (pc + 11 + 2 + 3 + 1) = .ok (.iconst 0, 1)) (d18 : decode cL_law (pc + 11 + 2 + 3 + 1 + 1) = .ok (.laload, 1)) (d19 : decode cL_law (pc + 11 + 2 + 3 + 1 + 1 + 1) = .ok (.iload 6, 2)) (d21 : decode cL_law (pc + 11 + 2 + 3 + 1 + 1 + 1 + 2) = .ok (.ifCond .eq 7, 3)) (d24 : decode cL_law (pc + 11 + 2 + 3 + 1 + 1 + 1 + 2 + 3) = .ok (.lconst 1, 1)) (d25 : decode cL_law (pc + 11 + 2 + 3 + 1 + 1 + 1 + 2 + 3 + 1) = .ok (.goto 4, 3)) (d28 : decode cL_law (pc + 11 + 2 + 3 + 1 + 1 + 1 + 2 + 7) = .ok (.lconst 0, 1)) (d29 : decode cL_law (pc + 11 + 2 + 3 + 1 + 1 + 1 + 2 + 8) = .ok (.lcmp, 1)) (d30 : decode cL_law (pc + 11 + 2 + 3 + 1 + 1 + 1 + 2 + 8 + 1) = .ok (.ifCond .eq 5, 3)) (d35 : decode cL_law (pc + 35) = .ok (.goto off, 3))
    (kk : xA p l e room_1 s m #[Value.ref sb] below meth c D A 7 cells slots Q 1599 (llv a b o sb t) [] (oW cy a o (mW cy b [] M) V f)) : xA p l e room_1 s m #[Value.ref sb] below meth c D A 7 cells slots Q pc ((6, .int r6) :: (5, .int r5) :: llv a b o sb t) [] (mW cy b (oW cy a o [] V f) M) := by
  have k35 : xA p l e room_1 s m #[Value.ref sb] below meth c D A 7 cells slots Q (pc + 35) ((6, .int r6) :: (5, .int r5) :: llv a b o sb t) [] (oW cy a o (mW cy b [] M) V f) := x_goto C 1599 d35 hoff (x_subm (lv' := llv a b o sb t) kk rfl)
  refine x_aload_n (i := 2) C d0 rfl rfl ?_
  refine x_callVi C hE (k_X4_thrown l D cy b A _ M) (cwV 0 C.2.2.2.2.1 gL_law_X4_thrown rfl rfl rfl (by decide +kernel) ⟨Nat.le_of_ble_eq_true rfl, Nat.le_of_ble_eq_true rfl⟩) 0 (mW_M cy b _ _) rfl rfl rfl rfl (Nat.le_of_ble_eq_true rfl) d1 ⟨hf.1, hf.2⟩ (fun r u h => ?_)
  obtain ⟨h1, h2⟩ := h
  rw [h1, h2]
  refine x_toO ?_
  refine x_iload (i := 5) C d4 rfl ?_
  refine x_icmp_eq C (pc + 11) d6 (by omega) (fun _ => ?_) (fun h => absurd hM0 h)
  refine x_iload (i := 5) C d11 rfl ?_
  refine x_if_ne C (pc + 35) d13 (by omega) (fun _ => k35) (fun h => ?_)
  have h0 : r5 = 0 := h
  refine x_aload_n (i := 3) C d16 rfl rfl ?_
  refine x_iconst (v := 0) C d17 (by decide) ?_
  refine x_lald0 C d18 ?_
  refine x_iload (i := 6) C d19 rfl ?_
  refine x_bz C (hz h0) d21 d24 d25 d28 ?_
  refine x_lcmp C d29 ?_
  refine x_topi (show lg_cmp (f 0) r6.toInt64 = 0 by rw [hv h0]; exact lg_cmp_rf _) ?_
  exact x_if_eq C (pc + 35) d30 (by omega) (fun _ => k35) (fun h => absurd rfl h)
theorem law_tailV (C : xC p s m #[Value.ref sb] meth c cL_law 7 RL wsL_law D (tyC cy) A ret) (hE : xE A s) (hf : cells ≤ 655756 ∧ slots ≤ 7128835) (hM0 : M 0 0 = r5) (hoff : ((pc + 11 : Nat) : Int) + off = ((1599 : Nat) : Int))
    (d0 : decode cL_law pc = .ok (.aload_n 2, 1)) (d1 : decode cL_law (pc + 1) = .ok (.invokevirtual 99, 3)) (d4 : decode cL_law (pc + 1 + 3) = .ok (.iload 5, 2)) (d6 : decode cL_law (pc + 1 + 3 + 2) = .ok (.if_icmp .eq 5, 3)) (d11 : decode cL_law (pc + 11) = .ok (.goto off, 3))
    (kk : xA p l e room_1 s m #[Value.ref sb] below meth c D A 7 cells slots Q 1599 (llv a b o sb t) [] (oW cy a o (mW cy b [] M) V f)) : xA p l e room_1 s m #[Value.ref sb] below meth c D A 7 cells slots Q pc ((5, .int r5) :: llv a b o sb t) [] (mW cy b (oW cy a o [] V f) M) := by
  refine x_aload_n (i := 2) C d0 rfl rfl ?_
  refine x_callVi C hE (k_X4_thrown l D cy b A _ M) (cwV 0 C.2.2.2.2.1 gL_law_X4_thrown rfl rfl rfl (by decide +kernel) ⟨Nat.le_of_ble_eq_true rfl, Nat.le_of_ble_eq_true rfl⟩) 0 (mW_M cy b _ _) rfl rfl rfl rfl (Nat.le_of_ble_eq_true rfl) d1 ⟨hf.1, hf.2⟩ (fun r u h => ?_)
  obtain ⟨h1, h2⟩ := h
  rw [h1, h2]
  refine x_toO ?_
  refine x_iload (i := 5) C d4 rfl ?_
  refine x_icmp_eq C (pc + 11) d6 (by omega) (fun _ => ?_) (fun h => absurd hM0 h)
  exact x_goto C 1599 d11 hoff (x_subm (lv' := llv a b o sb t) kk rfl)
end LTL
/-! ===== END lawtail ===== -/
