/-! ===== BEGIN lawstart: the law from its entry ===== -/
set_option maxHeartbeats 4000000 in
set_option maxRecDepth 100000 in
/-- from the entry, for every script of at most 260 ints, the law comes to its end with true -/
theorem whole_start {p : Program} {e : Env} {s : State} {m : MethodId} {below : List Frame} {meth : Method} {c : Code} (l : Launch) (hflags : l.flags = flags0) {b L : Nat} {xs : Nat → Int32} (hL : L ≤ 260) (C0 : lw_At p s m meth c b L xs) : W p l e room_1 s m #[Value.ref b] below meth c s.heap [] 0 0 (lw_Z below #[Value.ref b] s) (entryFrame m ([Value.ref b] : List Value).toArray 9) := by
  obtain ⟨D, cy, hK, hE⟩ := law_env C0
  have C := law_C C0 hK
  have hX := C0.2.2.2.2.2.2.1
  have hbl := C0.2.2.2.2.2.2.2.1
  have hfl := law_flags hflags
  have hl := lv_entry [Value.ref b] (n := 9) (Nat.le_of_ble_eq_true rfl)
  rw [lg_entry_eq]
  have key : xA p l e room_1 s m #[Value.ref b] below meth c D (fun q => s.heap.size ≤ q) 9 0 0 (lw_Z below #[Value.ref b] s) 0 (lv_args 0 [Value.ref b]) [] [] := by
    refine x_newO C inlX3 tyX3 tyX3_ok (by decide +kernel) (by decide +kernel) (by decide +kernel) (ci := 3) rfl (fs := [.null, .null, .null, .null, .int 0, .int 0, .int 0]) (by decide) ⟨Nat.le_of_ble_eq_true rfl, Nat.le_of_ble_eq_true rfl⟩ dL_law_0 (fun qa => ?_)
    refine x_dup C dL_law_3 rfl ?_
    refine x_callIv (ret' := none) C hE (k_X3_init l D cy _ [] qa) ⟨x_cbI 0 C.2.2.2.2.1 gL_law_X3_init rfl rfl rfl (by decide +kernel) (by decide +kernel) (by decide +kernel) ⟨Nat.le_of_ble_eq_true rfl, Nat.le_of_ble_eq_true rfl⟩, rfl, C.2.2.2.2.1 _ (by decide +kernel)⟩ rfl rfl (Nat.le_of_ble_eq_true rfl) dL_law_4 ⟨Nat.le_of_ble_eq_true rfl, Nat.le_of_ble_eq_true rfl⟩ (fun a h => ?_)
    subst h
    refine x_astore_n (i := 1) C dL_law_7 rfl (by decide) ?_
    refine x_newO C inlX3 tyX3 tyX3_ok (by decide +kernel) (by decide +kernel) (by decide +kernel) (ci := 3) rfl (fs := [.null, .null, .null, .null, .int 0, .int 0, .int 0]) (by decide) ⟨Nat.le_of_ble_eq_true rfl, Nat.le_of_ble_eq_true rfl⟩ dL_law_8 (fun qb => ?_)
    refine x_dup C dL_law_11 rfl ?_
    refine x_callIv (ret' := none) C hE (k_X3_init l D cy _ (cW cy a [] v0) qb) ⟨x_cbI 0 C.2.2.2.2.1 gL_law_X3_init rfl rfl rfl (by decide +kernel) (by decide +kernel) (by decide +kernel) ⟨Nat.le_of_ble_eq_true rfl, Nat.le_of_ble_eq_true rfl⟩, rfl, C.2.2.2.2.1 _ (by decide +kernel)⟩ rfl rfl (Nat.le_of_ble_eq_true rfl) dL_law_12 ⟨Nat.le_of_ble_eq_true rfl, Nat.le_of_ble_eq_true rfl⟩ (fun b0 h => ?_)
    subst h
    refine x_astore_n (i := 2) C dL_law_15 rfl (by decide) ?_
    refine x_iconst (v := 1) C dL_law_16 (by decide) ?_
    refine x_newaI (N := 1) C (by decide +kernel) (by decide) (by decide) (by decide) ⟨Nat.le_of_ble_eq_true rfl, Nat.le_of_ble_eq_true rfl⟩ dL_law_17 (fun o => ?_)
    refine x_astore_n (i := 3) C dL_law_19 rfl (by decide) ?_
    refine x_perm (law_perm cy a b0 (nX cy o (fun _ => 0)) v0 v0) ?_
    refine x_subm (lv' := [(3, .ref o), (2, .ref (b0 0)), (1, .ref (a 0)), (0, .ref b)]) ?_ rfl
    exact x_widen (k := 83) (n := 727) (Nat.le_of_ble_eq_true rfl) (Nat.le_of_ble_eq_true rfl) (law_body hfl hL C hE hX hbl)
  exact key s.heap [] _ (fun k q h => by simp at h) ⟨fun i j p q h => by simp at h, fun k q h => by simp at h⟩ va_S.rf (lvx.of hl rfl)
/-! ===== END lawstart ===== -/
