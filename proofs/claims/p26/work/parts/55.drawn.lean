/-! ===== BEGIN drawn: a number of the script ===== -/
def drw (sc : Nat → Int32) (L k : Nat) : Nat := (if k < L then sc k else nI 15524953 * nI (k + 3) + nI 13799).toBitVec.toNat % 2 ^ 31
theorem drw_lt (sc : Nat → Int32) (L k : Nat) : drw sc L k < 2147483648 := Nat.mod_lt _ (by decide)
def rmL_drawn : Room := { frames := 0, cells := 0, slots := 0, locals := 40 }
def xPreS (D : va_G) (tys : List (ClassId × FieldType)) (A : Nat → Prop) (ws : va_W) (sb L : Nat) (sc : Nat → Int32) (U : State) : Prop := xPre D tys A ws U ∧ va_X sb L sc U U.heap ∧ sb < U.heap.size
theorem xPreS.blind {D : va_G} {tys : List (ClassId × FieldType)} {A : Nat → Prop} {ws : va_W} {sb L : Nat} {sc : Nat → Int32} {av : List Value} : FrameBlind (va_Pc av (xPreS D tys A ws sb L sc)) := by
  intro a U g mk h
  obtain ⟨h0, h1, h2, h3⟩ := h
  exact ⟨h0, (xPre.blind (av := av) a U g mk ⟨h0, h1⟩).2, va_X.moved (u := U) (U := U.calling g mk a) (Vm.Alike.refl U.vm) h2, h3⟩
set_option maxHeartbeats 4000000 in
set_option maxRecDepth 100000 in
theorem k_L_drawn (l : Launch) (D : va_G) (cy : Nat → ClassId) (A : Nat → Prop) (ws : va_W) (sb L : Nat) (sc : Nat → Int32) (hbA : ¬ A sb) (hL : L ≤ 260) {k : Nat} (hk : k < 1000) : Met l yL_drawn wsL_drawn rmL_drawn (va_Pc [.ref sb, .int (nI k)] (xPreS D (tyC cy) A ws sb L sc)) (va_Qi (fun (r : Int32) (_ : Unit) => r = nI (drw sc L k)) (fun _ t => xPost D (tyC cy) A ws t) A) 0 0 A := by
  refine Met.ofW (cc := cL_drawn) (maxL := 2) (ret := some .int) (by decide) rfl ?_
  intro p e s m args below meth c s₁ B hml hv
  obtain ⟨rfl, ⟨hA, hP, hK, hD, hE⟩, hX, hbl⟩ := hv
  have hl := lv_entry [Value.ref sb, Value.int (nI k)] (n := 2) (Nat.le_of_ble_eq_true rfl)
  rw [lg_entry_eq]
  have C : xC p s m ([Value.ref sb, Value.int (nI k)] : List Value).toArray meth c cL_drawn 2 RL wsL_drawn D (tyC cy) A (some .int) := ⟨B.exec, B.bytes, hml, findClass_of_methodNamed B.named, atoms_spec (ws := wsL_drawn) B.pre, hK, hA, B.notSynchronized, B.returns⟩
  have key : xA p l e rmL_drawn s m ([Value.ref sb, Value.int (nI k)] : List Value).toArray below meth c D A 2 0 0 (MQ below (va_Qi (fun (r : Int32) (_ : Unit) => r = nI (drw sc L k)) (fun _ t => xPost D (tyC cy) A ws t) A) ([Value.ref sb, Value.int (nI k)] : List Value).toArray s 0 0 A) 0 (lv_args 0 [Value.ref sb, Value.int (nI k)]) [] ws := by
    refine x_join (J := 22) (st' := []) (fun z => z = (if k < L then sc k else nI 15524953 * nI (k + 3) + nI 13799)) (fun w_22 e_22 => ?_) (fun j_22 => ?_)
    · refine x_ldc (v := nI 2147483647) C (by decide +kernel) dL_drawn_22 ?_
      refine x_iand C dL_drawn_24 ?_
      refine x_topi (y := nI (drw sc L k)) (by rw [e_22]; exact pk_and _ 31 (by decide +kernel)) ?_
      exact x_iret (σ := Unit) (Wf := fun _ => ws) (post := fun (r : Int32) (_ : Unit) => r = nI (drw sc L k)) (u := ()) C dL_drawn_25 ⟨Nat.le_of_ble_eq_true rfl, Nat.le_of_ble_eq_true rfl⟩ rfl
    · refine x_iload_n (i := 1) C dL_drawn_0 rfl rfl ?_
      refine x_aload_n (i := 0) C dL_drawn_1 rfl rfl ?_
      refine x_slen C hX hbl hbA dL_drawn_2 ?_
      refine x_icmp_ge C 12 dL_drawn_3 (by decide) (fun c_3 => ?_) (fun c_3 => ?_)
      · refine x_ldc (v := nI 15524953) C (by decide +kernel) dL_drawn_12 ?_
        refine x_iload_n (i := 1) C dL_drawn_14 rfl rfl ?_
        refine x_iconst (v := nI 3) C dL_drawn_15 (by decide) ?_
        refine x_iadd C dL_drawn_16 ?_
        refine x_topi (nI_add _ _) ?_
        refine x_imul C dL_drawn_17 ?_
        refine x_sipush (v := nI 13799) C dL_drawn_18 (by decide) ?_
        refine x_iadd C dL_drawn_21 ?_
        exact j_22 _ (if_neg (Nat.not_lt.mpr ((nI_leI (by omega) (by omega)).mp c_3))).symm
      · have hkL : k < L := Nat.not_le.mp fun q => c_3 ((nI_leI (by omega) (by omega)).mpr q)
        refine x_aload_n (i := 0) C dL_drawn_6 rfl rfl ?_
        refine x_iload_n (i := 1) C dL_drawn_7 rfl rfl ?_
        refine x_sld (j := k) C hX hbl hbA (vp_in_nI hkL (by omega)) (nI_clamp (by omega)) dL_drawn_8 ?_
        refine x_goto C 22 dL_drawn_9 (by decide) ?_
        exact j_22 _ (if_pos hkL).symm
  exact key s.heap [] _ hP hD va_S.rf (lvx.of hl rfl)
section DRW
variable {p : Program} {l : Launch} {e : Env} {R : Room} {s : State} {m : MethodId} {args : Array Value} {below : List Frame} {meth : Method} {c : Code} {cells slots : Nat} {Q : State → Prop} {cc : ByteArray} {nL : Nat} {own : String} {Ts : List Cond} {D : va_G} {A : Nat → Prop} {ret : Option FieldType} {pc : Nat} {lv : List (Nat × Value)} {st : List Value} {tys : List (ClassId × FieldType)} {ws : va_W} {sb L : Nat} {sc : Nat → Int32}
theorem x_callDr {σ : Type} {Wf : σ → va_W} {post : Int32 → σ → Prop} {As : List Value} {index n maxL' mc ms : Nat} {y : MethodName} {bytes : ByteArray} {ret' : Option FieldType} {ws' : List Cond} {rm : Room} {st0 : List Value} (C : xC p s m args meth c cc nL own Ts D tys A ret) (hE : xE A s) (hX : va_X sb L sc s s.heap) (hbl : sb < s.heap.size) (hbA : ¬ A sb) (hM : Met l y ws' rm (va_Pc As (xPreS D tys A ws sb L sc)) (va_Qi post (fun u t => xPost D tys A (Wf u) t) A) mc ms A) (cw : CallB R s args own index y bytes maxL' ret' ws' rm mc ms n ∧ (Cond.static y).before args s = true) (hn : As.length = n) (hst : st0 = As.reverse ++ st) (hW : (st.map fun v => v.category).sum ≤ 8) (hd : decode cc pc = .ok (.invokestatic index, 3)) (hf : cells + mc ≤ R.cells ∧ slots + ms ≤ R.slots)
    (kk : ∀ (r : Int32) (u : σ), post r u → xA p l e R s m args below meth c D A nL (cells + mc) (slots + ms) Q (pc + 3) lv (.int r :: st) (Wf u)) : xA p l e R s m args below meth c D A nL cells slots Q pc lv st0 ws := by
  subst hst
  intro H locs ls hP hD hS hl
  exact va_calli (va_runS (As := As) (rest := st) ⟨C.1, C.2.1, C.2.2.1, C.2.2.2.1, C.2.2.2.2.1⟩ hM cw ⟨xPreS.blind, fun U hU hW => ⟨rfl, xPre.at C hE hP hD hS U hU hW, by rw [hU]; exact va_X.moved hW.alike (hX.kept (hS.2.1 sb hbl hbA)), by rw [hU]; exact Nat.lt_of_lt_of_le hbl hS.1⟩⟩ rfl hn hl.1 rfl (lv_room hW) hd hf) hS (fun q _ h => h) (fun q h => h) (fun r u t H1 locs1 ht hvm hp hB hz hk hS1 => kk r u hp H1 locs1 ls (ht ▸ hB.1) hB.2.2 hS1 hl)
end DRW
theorem sy_w {r x : Int32} {u U : XV} (h : r = x ∧ u = U) : x = r ∧ U = u := ⟨h.1.symm, h.2.symm⟩
theorem s1_w {r : Int32} {u U : XV} (h : r = 1 ∧ u = U) : nI 1 = r ∧ U = u := ⟨h.1.symm, h.2.symm⟩
theorem law_flags {l : Launch} (h : l.flags = flags0) : l.stackTraces = false := by
  unfold Launch.stackTraces
  rw [h]
  decide +kernel
theorem law_perm (cy : Nat → ClassId) (a b : Nat → Nat) (z : Nat × va_E) (V U : XV) : (z :: cW cy b (cW cy a [] V) U).Perm (cW cy a (z :: cW cy b [] U) V) := by
  unfold cW
  simp only [List.append_nil]
  exact ((List.Perm.cons z List.perm_append_comm).trans List.perm_middle.symm)
/-! ===== END drawn ===== -/
