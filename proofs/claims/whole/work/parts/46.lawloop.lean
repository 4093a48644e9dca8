/-! ===== BEGIN lawloop: one turn, the loop, the start ===== -/
theorem law_and (x : Int32) : ∃ j : Nat, j < 32 ∧ (x &&& 31).toInt = (j : Int) := by
  have h : (x &&& 31).toBitVec.toNat < 32 := by
    rw [Int32.toBitVec_and, BitVec.toNat_and]
    exact Nat.lt_succ_of_le (Nat.le_trans Nat.and_le_right (by decide))
  exact ⟨_, h, BitVec.toInt_eq_toNat_of_lt (by omega)⟩
theorem law_gt {L t : Nat} (hL : L ≤ 3072) (ht : t ≤ 600) : (nI L - 6 < nI (6 * t)) ↔ L < 6 * t + 6 := by
  have e : nI L - 6 = nI L + (-6) := Int32.sub_eq_add_neg _ _
  have h6 : (-6 : Int32).toInt = -6 := by decide
  have h7 : (nI L).toInt = (L : Int) := nI_toInt (by omega)
  have h8 : (nI (6 * t)).toInt = ((6 * t : Nat) : Int) := nI_toInt (by omega)
  rw [ti_lt, e, ti_add (by omega) (by omega) (by omega) (by omega), h7, h8, h6]
  omega
theorem law_perm (cy : Nat → ClassId) (a b : Nat → Nat) (o : Nat) (V M : XV) (f : Nat → Int64) : ((o, outF cy f) :: mW cy b (cW cy a [] V) M).Perm (oW cy a o (mW cy b [] M) V f) := by
  unfold oW cW mW
  simp only [List.append_nil]
  exact (List.perm_append_comm : (((o, outF cy f) :: xw 24 b (fun p => mF cy b p (M p))) ++ xw 41 a (fun p => cF cy a p (V p))).Perm _)
section LLP
variable {p : Program} {l : Launch} {e : Env} {s : State} {m : MethodId} {below : List Frame} {meth : Method} {c : Code} {cells slots : Nat} {D : va_G} {sb t L : Nat} {sc : Nat → Int32} {cy : Nat → ClassId} {a b : Nat → Nat} {o : Nat} {V M : XV} {f : Nat → Int64} {n9 m9 k9 : Nat}
theorem law_end {lv : List (Nat × Value)} {ws : va_W} (C : xC p s m #[Value.ref sb] meth c cL_law 7 RL wsL_law D (tyC cy) (fun q => s.heap.size ≤ q) ret) (hc : cells ≤ 655756 ∧ slots ≤ 7128835) : xA p l e room_1 s m #[Value.ref sb] below meth c D (fun q => s.heap.size ≤ q) 7 cells slots (lw_Z below #[Value.ref sb] s) 1605 lv [] ws := by
  refine x_iconst (v := 1) C dL_law_1605 (by decide) ?_
  intro H locs ls hP hD hS hl
  refine va_forget (fun q hq => hS.2.2 q hq) ?_
  refine W.widen (k := 655756) (n := 7128835) hc.1 hc.2 ?_
  exact lw_ret C.1 C.2.1 C.2.2.2.2.2.2.2.2 C.2.2.2.2.2.2.2.1 dL_law_1606
theorem law_head {ws : va_W} (C : xC p s m #[Value.ref sb] meth c cL_law 7 RL wsL_law D (tyC cy) (fun q => s.heap.size ≤ q) ret) (hX : va_X sb L sc s s.heap) (hbl : sb < s.heap.size) (hL : L ≤ 3072) (ht : 6 * t ≤ L) (hc : cells ≤ 655756 ∧ slots ≤ 7128835)
    (kk : 6 * t + 5 < L → xA p l e room_1 s m #[Value.ref sb] below meth c D (fun q => s.heap.size ≤ q) 7 cells slots (lw_Z below #[Value.ref sb] s) 33 (llv a b o sb t) [] ws) : xA p l e room_1 s m #[Value.ref sb] below meth c D (fun q => s.heap.size ≤ q) 7 cells slots (lw_Z below #[Value.ref sb] s) 23 (llv a b o sb t) [] ws := by
  refine x_iload (i := 4) C dL_law_23 rfl ?_
  refine x_aload_n (i := 0) C dL_law_25 rfl rfl ?_
  refine x_slen C hX hbl (Nat.not_le.mpr hbl) dL_law_26 ?_
  refine x_bipush (v := 6) C dL_law_27 (by decide) ?_
  refine x_isub C dL_law_29 ?_
  refine x_icmp_gt C 1605 dL_law_30 (by decide) (fun _ => law_end C hc) (fun h => ?_)
  exact kk (Nat.not_le.mp fun q => h ((law_gt hL (by omega)).mpr (by omega)))
set_option maxHeartbeats 4000000 in
set_option maxRecDepth 100000 in
theorem law_turn {Q : State → Prop} {A : Nat → Prop} {ret : Option FieldType} (hfl : l.stackTraces = false) (C : xC p s m #[Value.ref sb] meth c cL_law 7 RL wsL_law D (tyC cy) A ret) (hE : xE A s) (hX : va_X sb L sc s s.heap) (hbl : sb < s.heap.size) (hbA : ¬ A sb) (hL : L ≤ 3072) (ht : 6 * t + 5 < L) (hcs : cells + 6 ≤ 655756 ∧ slots + 36 ≤ 7128835) (h : jJ V M n9 m9 k9) (hk : k9 + 100 ≤ 60000)
    (kk : ∀ (V' M' : XV) (f' : Nat → Int64) (n' m' k' : Nat), jJ V' M' n' m' k' → k' ≤ k9 + 100 → xA p l e room_1 s m #[Value.ref sb] below meth c D A 7 (cells + 6) (slots + 36) Q 1599 (llv a b o sb t) [] (oW cy a o (mW cy b [] M') V' f')) : xA p l e room_1 s m #[Value.ref sb] below meth c D A 7 cells slots Q 33 (llv a b o sb t) [] (oW cy a o (mW cy b [] M) V f) := by
  refine x_aload_n (i := 0) C dL_law_33 rfl rfl ?_
  refine x_iload (i := 4) C dL_law_34 rfl ?_
  refine x_sld C hX hbl hbA (vp_in_nI (n := 6 * t) (N := L) (by omega) (by omega)) (nI_clamp (by omega)) dL_law_36 ?_
  refine x_bipush (v := 31) C dL_law_37 (by decide) ?_
  refine x_iand C dL_law_39 ?_
  obtain ⟨j, hj, ej⟩ := law_and (sc (6 * t))
  generalize sc (6 * t) &&& 31 = y at ej ⊢
  rcases (show j = 0 ∨ j = 1 ∨ j = 2 ∨ j = 3 ∨ j = 4 ∨ j = 5 ∨ j = 6 ∨ j = 7 ∨ j = 8 ∨ j = 9 ∨ j = 10 ∨ j = 11 ∨ j = 12 ∨ j = 13 ∨ j = 14 ∨ j = 15 ∨ j = 16 ∨ j = 17 ∨ j = 18 ∨ j = 19 ∨ j = 20 ∨ j = 21 ∨ j = 22 ∨ 22 < j by omega) with rfl | rfl | rfl | rfl | rfl | rfl | rfl | rfl | rfl | rfl | rfl | rfl | rfl | rfl | rfl | rfl | rfl | rfl | rfl | rfl | rfl | rfl | rfl | hj2
  · exact x_tabIn (off := 108) (tgt := 148) C dL_law_40 (by rw [ej]; decide) (by rw [ej]; decide) (by rw [ej]; rfl) (by decide) (law_c_allow hfl C hE hX hbl hbA hL ht hcs h hk kk)
  · exact x_tabIn (off := 176) (tgt := 216) C dL_law_40 (by rw [ej]; decide) (by rw [ej]; decide) (by rw [ej]; rfl) (by decide) (law_c_setImage hfl C hE hX hbl hbA hL ht hcs h hk kk)
  · exact x_tabIn (off := 244) (tgt := 284) C dL_law_40 (by rw [ej]; decide) (by rw [ej]; decide) (by rw [ej]; rfl) (by decide) (law_c_setDelta hfl C hE hX hbl hbA hL ht hcs h hk kk)
  · exact x_tabIn (off := 324) (tgt := 364) C dL_law_40 (by rw [ej]; decide) (by rw [ej]; decide) (by rw [ej]; rfl) (by decide) (law_c_size hfl C hE hX hbl hbA hL ht hcs h hk kk)
  · exact x_tabIn (off := 392) (tgt := 432) C dL_law_40 (by rw [ej]; decide) (by rw [ej]; decide) (by rw [ej]; rfl) (by decide) (law_c_sizeByWays hfl C hE hX hbl hbA hL ht hcs h hk kk)
  · exact x_tabIn (off := 460) (tgt := 500) C dL_law_40 (by rw [ej]; decide) (by rw [ej]; decide) (by rw [ej]; rfl) (by decide) (law_c_addDevice hfl C hE hX hbl hbA hL ht hcs h hk kk)
  · exact x_tabIn (off := 528) (tgt := 568) C dL_law_40 (by rw [ej]; decide) (by rw [ej]; decide) (by rw [ej]; rfl) (by decide) (law_c_charge hfl C hE hX hbl hbA hL ht hcs h hk kk)
  · exact x_tabIn (off := 596) (tgt := 636) C dL_law_40 (by rw [ej]; decide) (by rw [ej]; decide) (by rw [ej]; rfl) (by decide) (law_c_setWindow hfl C hE hX hbl hbA hL ht hcs h hk kk)
  · exact x_tabIn (off := 656) (tgt := 696) C dL_law_40 (by rw [ej]; decide) (by rw [ej]; decide) (by rw [ej]; rfl) (by decide) (law_c_report hfl C hE hX hbl hbA hL ht hcs h hk kk)
  · exact x_tabIn (off := 740) (tgt := 780) C dL_law_40 (by rw [ej]; decide) (by rw [ej]; decide) (by rw [ej]; rfl) (by decide) (law_c_devices hfl C hE hX hbl hbA hL ht hcs h hk kk)
  · exact x_tabIn (off := 753) (tgt := 793) C dL_law_40 (by rw [ej]; decide) (by rw [ej]; decide) (by rw [ej]; rfl) (by decide) (law_c_state hfl C hE hX hbl hbA hL ht hcs h hk kk)
  · exact x_tabIn (off := 809) (tgt := 849) C dL_law_40 (by rw [ej]; decide) (by rw [ej]; decide) (by rw [ej]; rfl) (by decide) (law_c_version hfl C hE hX hbl hbA hL ht hcs h hk kk)
  · exact x_tabIn (off := 865) (tgt := 905) C dL_law_40 (by rw [ej]; decide) (by rw [ej]; decide) (by rw [ej]; rfl) (by decide) (law_c_campaignOf hfl C hE hX hbl hbA hL ht hcs h hk kk)
  · exact x_tabIn (off := 921) (tgt := 961) C dL_law_40 (by rw [ej]; decide) (by rw [ej]; decide) (by rw [ej]; rfl) (by decide) (law_c_toGo hfl C hE hX hbl hbA hL ht hcs h hk kk)
  · exact x_tabIn (off := 977) (tgt := 1017) C dL_law_40 (by rw [ej]; decide) (by rw [ej]; decide) (by rw [ej]; rfl) (by decide) (law_c_battery hfl C hE hX hbl hbA hL ht hcs h hk kk)
  · exact x_tabIn (off := 1033) (tgt := 1073) C dL_law_40 (by rw [ej]; decide) (by rw [ej]; decide) (by rw [ej]; rfl) (by decide) (law_c_begin hfl C hE hX hbl hbA hL ht hcs h hk kk)
  · exact x_tabIn (off := 1125) (tgt := 1165) C dL_law_40 (by rw [ej]; decide) (by rw [ej]; decide) (by rw [ej]; rfl) (by decide) (law_c_setRules hfl C hE hX hbl hbA hL ht hcs h hk kk)
  · exact x_tabIn (off := 1209) (tgt := 1249) C dL_law_40 (by rw [ej]; decide) (by rw [ej]; decide) (by rw [ej]; rfl) (by decide) (law_c_toggle hfl C hE hX hbl hbA hL ht hcs h hk kk)
  · exact x_tabIn (off := 1272) (tgt := 1312) C dL_law_40 (by rw [ej]; decide) (by rw [ej]; decide) (by rw [ej]; rfl) (by decide) (law_c_isActive hfl C hE hX hbl hbA hL ht hcs h hk kk)
  · exact x_tabIn (off := 1335) (tgt := 1375) C dL_law_40 (by rw [ej]; decide) (by rw [ej]; decide) (by rw [ej]; rfl) (by decide) (law_c_ring hfl C hE hX hbl hbA hL ht hcs h hk kk)
  · exact x_tabIn (off := 1391) (tgt := 1431) C dL_law_40 (by rw [ej]; decide) (by rw [ej]; decide) (by rw [ej]; rfl) (by decide) (law_c_reports hfl C hE hX hbl hbA hL ht hcs h hk kk)
  · exact x_tabIn (off := 1447) (tgt := 1487) C dL_law_40 (by rw [ej]; decide) (by rw [ej]; decide) (by rw [ej]; rfl) (by decide) (law_c_eligible hfl C hE hX hbl hbA hL ht hcs h hk kk)
  · exact x_tabIn (off := 1503) (tgt := 1543) C dL_law_40 (by rw [ej]; decide) (by rw [ej]; decide) (by rw [ej]; rfl) (by decide) (law_c_pass hfl C hE hX hbl hbA hL ht hcs h hk kk)
  · exact x_tabOut (tgt := 1599) C dL_law_40 (Or.inr (by rw [ej]; omega)) (by decide) (x_widen (k := cells + 6) (n := slots + 36) (by omega) (by omega) (kk V M f n9 m9 k9 h (by omega)))
theorem law_loop (hfl : l.stackTraces = false) (C : xC p s m #[Value.ref sb] meth c cL_law 7 RL wsL_law D (tyC cy) (fun q => s.heap.size ≤ q) ret) (hE : xE (fun q => s.heap.size ≤ q) s) (hX : va_X sb L sc s s.heap) (hbl : sb < s.heap.size) (hL : L ≤ 3072) : ∀ (g t : Nat), L < 6 * t + 6 * g + 6 → 6 * t ≤ L → ∀ (V M : XV) (f : Nat → Int64) (n9 m9 k9 : Nat), jJ V M n9 m9 k9 → k9 ≤ 100 * t → xA p l e room_1 s m #[Value.ref sb] below meth c D (fun q => s.heap.size ≤ q) 7 (66 + 6 * t) (637 + 36 * t) (lw_Z below #[Value.ref sb] s) 23 (llv a b o sb t) [] (oW cy a o (mW cy b [] M) V f) := by
  intro g
  induction g with
  | zero =>
    intro t hg ht V M f n9 m9 k9 h hk
    exact law_head C hX hbl hL ht ⟨by omega, by omega⟩ (fun q => absurd q (by omega))
  | succ g ih =>
    intro t hg ht V M f n9 m9 k9 h hk
    refine law_head C hX hbl hL ht ⟨by omega, by omega⟩ (fun q => ?_)
    refine law_turn hfl C hE hX hbl (Nat.not_le.mpr hbl) hL q ⟨by omega, by omega⟩ h (by omega) (fun V' M' f' n' m' k' h' hk' => ?_)
    refine x_iinc (i := 4) (v := nI (6 * (t + 1))) C dL_law_1599 rfl (nI_add (6 * t) 6) ?_
    refine x_goto C 23 dL_law_1602 (by decide) ?_
    refine x_subm (lv' := llv a b o sb (t + 1)) ?_ rfl
    exact x_widen (k := 66 + 6 * (t + 1)) (n := 637 + 36 * (t + 1)) (by omega) (by omega) (ih (t + 1) (by omega) (by omega) V' M' f' n' m' k' h' (by omega))
end LLP
theorem law_flags {l : Launch} (h : l.flags = flags0) : l.stackTraces = false := by
  unfold Launch.stackTraces
  rw [h]
  decide +kernel
/-! ===== END lawloop ===== -/
