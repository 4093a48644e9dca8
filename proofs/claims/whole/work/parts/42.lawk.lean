/-! ===== BEGIN lawk: rows for the law's own walk ===== -/
theorem oW_split (cy : Nat → ClassId) (a : Nat → Nat) (o : Nat) (Y : va_W) (V : XV) (f : Nat → Int64) : oW cy a o Y V f = oW cy a o [] V f ++ Y := by
  unfold oW cW
  rw [List.append_assoc]
  rfl
theorem mW_split (cy : Nat → ClassId) (b : Nat → Nat) (Y : va_W) (M : XV) : mW cy b Y M = mW cy b [] M ++ Y := by
  unfold mW
  rw [List.append_assoc]
  rfl
theorem law_ix {t L k : Nat} (ht : 6 * t + 5 < L) (hL : L ≤ 3072) (hk : k ≤ 5) : nI (6 * t) + nI k = nI (6 * t + k) ∧ vp_in (nI (6 * t) + nI k) L ∧ (nI (6 * t) + nI k).toNatClampNeg = 6 * t + k := by
  have e : nI (6 * t) + nI k = nI (6 * t + k) := nI_add _ _
  refine ⟨e, ?_, ?_⟩
  · rw [e]; exact vp_in_nI (by omega) (by omega)
  · rw [e]; exact nI_clamp (by omega)
/-- the law's locals at the head of a turn -/
abbrev llv (a b : Nat → Nat) (o sb t : Nat) : List (Nat × Value) := [(4, .int (nI (6 * t))), (3, .ref o), (2, .ref (b 0)), (1, .ref (a 0)), (0, .ref sb)]
section LWK
variable {p : Program} {l : Launch} {e : Env} {R : Room} {s : State} {m : MethodId} {args : Array Value} {below : List Frame} {meth : Method} {c : Code} {cells slots : Nat} {Q : State → Prop} {cc : ByteArray} {nL : Nat} {own : String} {Ts : List Cond} {D : va_G} {A : Nat → Prop} {ret : Option FieldType} {pc : Nat} {lv : List (Nat × Value)} {st : List Value} {tys : List (ClassId × FieldType)} {ws : va_W} {sb L : Nat} {sc : Nat → Int32}
variable {cy : Nat → ClassId} {a b : Nat → Nat} {o : Nat} {V M : XV} {f : Nat → Int64}
theorem x_lcmp (C : xC p s m args meth c cc nL own Ts D tys A ret) {x y : Int64} (hd : decode cc pc = .ok (.lcmp, 1))
    (kk : xA p l e R s m args below meth c D A nL cells slots Q (pc + 1) lv (.int (lg_cmp x y) :: st) ws) : xA p l e R s m args below meth c D A nL cells slots Q pc lv (.long y :: .long x :: st) ws := fun H locs ls hP hD hS hl => W.lcmp C.1 C.2.1 hd (kk H locs ls hP hD hS hl)
theorem x_slen (C : xC p s m args meth c cc nL own Ts D tys A ret) (hX : va_X sb L sc s s.heap) (hbl : sb < s.heap.size) (hbA : ¬ A sb) (hd : decode cc pc = .ok (.arraylength, 1))
    (kk : xA p l e R s m args below meth c D A nL cells slots Q (pc + 1) lv (.int (nI L) :: st) ws) : xA p l e R s m args below meth c D A nL cells slots Q pc lv (.ref sb :: st) ws := fun H locs ls hP hD hS hl => va_slen C.1 C.2.1 hX hbl hbA hS hd (kk H locs ls hP hD hS hl)
theorem x_sld (C : xC p s m args meth c cc nL own Ts D tys A ret) (hX : va_X sb L sc s s.heap) (hbl : sb < s.heap.size) (hbA : ¬ A sb) {i : Int32} {j : Nat} (hi : vp_in i L) (hj : i.toNatClampNeg = j) (hd : decode cc pc = .ok (.iaload, 1))
    (kk : xA p l e R s m args below meth c D A nL cells slots Q (pc + 1) lv (.int (sc j) :: st) ws) : xA p l e R s m args below meth c D A nL cells slots Q pc lv (.int i :: .ref sb :: st) ws := fun H locs ls hP hD hS hl => va_sld C.1 C.2.1 hX hbl hbA hS hi hd (hj ▸ kk H locs ls hP hD hS hl)
theorem x_tabIn (C : xC p s m args meth c cc nL own Ts D tys A ret) {dflt lo hi : Int} {offs : Array Int} {len : Nat} {x : Int32} {off : Int} {tgt : Nat} (hd : decode cc pc = .ok (.tableswitch dflt lo hi offs, len)) (h1 : ¬ x.toInt < lo) (h2 : ¬ hi < x.toInt) (ho : offs[(x.toInt - lo).toNat]? = some off) (ht : (pc : Int) + off = (tgt : Int))
    (kk : xA p l e R s m args below meth c D A nL cells slots Q tgt lv st ws) : xA p l e R s m args below meth c D A nL cells slots Q pc lv (.int x :: st) ws := fun H locs ls hP hD hS hl => lv_tableIn C.1 C.2.1 hd h1 h2 ho ht (kk H locs ls hP hD hS hl)
theorem x_tabOut (C : xC p s m args meth c cc nL own Ts D tys A ret) {dflt lo hi : Int} {offs : Array Int} {len : Nat} {x : Int32} {tgt : Nat} (hd : decode cc pc = .ok (.tableswitch dflt lo hi offs, len)) (h : x.toInt < lo ∨ hi < x.toInt) (ht : (pc : Int) + dflt = (tgt : Int))
    (kk : xA p l e R s m args below meth c D A nL cells slots Q tgt lv st ws) : xA p l e R s m args below meth c D A nL cells slots Q pc lv (.int x :: st) ws := fun H locs ls hP hD hS hl => lv_tableOut C.1 C.2.1 hd h ht (kk H locs ls hP hD hS hl)
theorem x_toM (kk : xA p l e R s m args below meth c D A nL cells slots Q pc lv st (mW cy b (oW cy a o [] V f) M)) : xA p l e R s m args below meth c D A nL cells slots Q pc lv st (oW cy a o (mW cy b [] M) V f) := by
  rw [oW_split]
  rw [mW_split] at kk
  exact x_blk kk
theorem x_toO (kk : xA p l e R s m args below meth c D A nL cells slots Q pc lv st (oW cy a o (mW cy b [] M) V f)) : xA p l e R s m args below meth c D A nL cells slots Q pc lv st (mW cy b (oW cy a o [] V f) M) := by
  rw [mW_split]
  rw [oW_split] at kk
  exact x_blk kk
/-- one argument out of the script -/
theorem x_arg (C : xC p s m args meth c cc nL own Ts D tys A ret) (hX : va_X sb L sc s s.heap) (hbl : sb < s.heap.size) (hbA : ¬ A sb) (hL : L ≤ 3072) {t k : Nat} {kz : Int} (ht : 6 * t + 5 < L) (hk : k ≤ 5) (hkz : Int32.ofInt kz = nI k) (h0 : xl lv 0 = some (.ref sb)) (h4 : xl lv 4 = some (.int (nI (6 * t))))
    (d0 : decode cc pc = .ok (.aload_n 0, 1)) (d1 : decode cc (pc + 1) = .ok (.iload 4, 2)) (d2 : decode cc (pc + 1 + 2) = .ok (.iconst kz, 1)) (d3 : decode cc (pc + 1 + 2 + 1) = .ok (.iadd, 1)) (d4 : decode cc (pc + 1 + 2 + 1 + 1) = .ok (.iaload, 1))
    (kk : xA p l e R s m args below meth c D A nL cells slots Q (pc + 1 + 2 + 1 + 1 + 1) lv (.int (sc (6 * t + k)) :: st) ws) : xA p l e R s m args below meth c D A nL cells slots Q pc lv st ws := by
  obtain ⟨-, hi, hj⟩ := law_ix ht hL hk
  refine x_aload_n (i := 0) C d0 rfl h0 ?_
  refine x_iload (i := 4) C d1 h4 ?_
  refine x_iconst (v := nI k) C d2 hkz ?_
  refine x_iadd C d3 ?_
  exact x_sld C hX hbl hbA hi hj d4 kk
/-- x != 0 as a number -/
theorem x_nz (C : xC p s m args meth c cc nL own Ts D tys A ret) {x : Int32} (d0 : decode cc pc = .ok (.ifCond .eq 7, 3)) (d1 : decode cc (pc + 3) = .ok (.iconst 1, 1)) (d2 : decode cc (pc + 3 + 1) = .ok (.goto 4, 3)) (d3 : decode cc (pc + 7) = .ok (.iconst 0, 1))
    (kk : xA p l e R s m args below meth c D A nL cells slots Q (pc + 8) lv (.int (if x = 0 then 0 else 1) :: st) ws) : xA p l e R s m args below meth c D A nL cells slots Q pc lv (.int x :: st) ws := by
  refine x_if_eq C (pc + 7) d0 (by omega) (fun h => ?_) (fun h => ?_)
  · rw [if_pos h] at kk
    exact x_iconst (v := 0) C d3 (by decide) kk
  · rw [if_neg h] at kk
    refine x_iconst (v := 1) C d1 (by decide) ?_
    exact x_goto C (pc + 8) d2 (by omega) kk
/-- a truth value as a long -/
theorem x_bz (C : xC p s m args meth c cc nL own Ts D tys A ret) {x : Int32} (hx : x = 0 ∨ x = 1) (d0 : decode cc pc = .ok (.ifCond .eq 7, 3)) (d1 : decode cc (pc + 3) = .ok (.lconst 1, 1)) (d2 : decode cc (pc + 3 + 1) = .ok (.goto 4, 3)) (d3 : decode cc (pc + 7) = .ok (.lconst 0, 1))
    (kk : xA p l e R s m args below meth c D A nL cells slots Q (pc + 8) lv (.long x.toInt64 :: st) ws) : xA p l e R s m args below meth c D A nL cells slots Q pc lv (.int x :: st) ws := by
  refine x_if_eq C (pc + 7) d0 (by omega) (fun h => ?_) (fun h => ?_)
  · rw [h] at kk
    exact x_lconst (v := 0) C d3 rfl kk
  · rw [hx.resolve_left h] at kk
    refine x_lconst (v := 1) C d1 rfl ?_
    exact x_goto C (pc + 8) d2 (by omega) kk
theorem x_callSWi {σ : Type} {Wf : σ → va_W} {post : Int32 → σ → Prop} {As : List Value} {index n maxL' mc ms : Nat} {y : MethodName} {bytes : ByteArray} {ret' : Option FieldType} {hh : List (Nat × Nat × Nat × Nat)} {ws' : List Cond} {rm : Room} {st0 : List Value} (C : xC p s m args meth c cc nL own Ts D tys A ret) (hE : xE A s) (hM : Met l y ws' rm (va_Pc (As) (xPre D tys A ws)) (va_Qi post (fun u t => xPost D tys A (Wf u) t) A) mc ms A) (cw : vx_CSW R s args own index y bytes maxL' ret' hh ws' rm mc ms n) (hn : As.length = n) (hst : st0 = As.reverse ++ st) (hW : (st.map fun v => v.category).sum ≤ 8) (hd : decode cc pc = .ok (.invokestatic index, 3)) (hf : cells + mc ≤ R.cells ∧ slots + ms ≤ R.slots)
    (kk : ∀ (r : Int32) (u : σ), post r u → xA p l e R s m args below meth c D A nL (cells + mc) (slots + ms) Q (pc + 3) lv (.int r :: st) (Wf u)) : xA p l e R s m args below meth c D A nL cells slots Q pc lv st0 ws := by
  subst hst
  intro H locs ls hP hD hS hl
  exact va_calli (vx_runSW (As := As) (rest := st) ⟨C.1, C.2.1, C.2.2.1, C.2.2.2.1, C.2.2.2.2.1⟩ hM cw ⟨xPre.blind, fun U hU hW => ⟨rfl, xPre.at C hE hP hD hS U hU hW⟩⟩ rfl hn hl.1 rfl (lv_room hW) hd hf) hS (fun q _ h => h) (fun q h => h) (fun r u t H1 locs1 ht hvm hp hB hz hk hS1 => kk r u hp H1 locs1 ls (ht ▸ hB.1) hB.2.2 hS1 hl)
theorem lg_cmp_rf (x : Int64) : lg_cmp x x = 0 := by
  have h : ¬ x > x := fun q => Int64.lt_irrefl q
  unfold lg_cmp
  rw [if_neg h, if_pos rfl]
end LWK
/-! ===== END lawk ===== -/
