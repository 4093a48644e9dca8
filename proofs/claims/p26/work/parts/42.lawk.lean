/-! ===== BEGIN lawk: rows for the law's own walks ===== -/
/-- the law's own array of one int -/
abbrev nX (cy : Nat → ClassId) (o : Nat) (f : Nat → Int32) : Nat × va_E := (o, .inl (cy 0, 1, .inl f))
theorem cW_n (cy : Nat → ClassId) (a : Nat → Nat) (z : Nat × va_E) (Y : va_W) (V : XV) : (cW cy a (z :: Y) V)[41]? = some z := by
  unfold cW
  rw [List.getElem?_append_right (by rw [xw_len]; exact Nat.le_refl _), xw_len]
  rfl
theorem cW_nset (cy : Nat → ClassId) (a : Nat → Nat) (z z' : Nat × va_E) (Y : va_W) (V : XV) : (cW cy a (z :: Y) V).set 41 z' = cW cy a (z' :: Y) V := by
  unfold cW
  rw [List.set_append_right _ _ (by rw [xw_len]; exact Nat.le_refl _), xw_len]
  rfl
theorem cW_perm (cy : Nat → ClassId) (a b : Nat → Nat) (z : Nat × va_E) (Y : va_W) (V U : XV) : (cW cy a (z :: cW cy b Y U) V).Perm (cW cy b (z :: cW cy a Y V) U) := by
  unfold cW
  refine (List.perm_middle).trans (List.Perm.trans (List.Perm.cons z ?_) (List.perm_middle).symm)
  rw [← List.append_assoc, ← List.append_assoc]
  exact List.perm_append_comm.append_right Y
section LWK
variable {p : Program} {l : Launch} {e : Env} {R : Room} {s : State} {m : MethodId} {args : Array Value} {below : List Frame} {meth : Method} {c : Code} {cells slots : Nat} {Q : State → Prop} {cc : ByteArray} {nL : Nat} {own : String} {Ts : List Cond} {D : va_G} {A : Nat → Prop} {ret : Option FieldType} {pc : Nat} {lv : List (Nat × Value)} {st : List Value} {tys : List (ClassId × FieldType)} {ws : va_W} {cy : Nat → ClassId} {a b : Nat → Nat} {o : Nat} {V U : XV} {f : Nat → Int32} {Y : va_W} {sb L : Nat} {sc : Nat → Int32}
theorem x_slen (C : xC p s m args meth c cc nL own Ts D tys A ret) (hX : va_X sb L sc s s.heap) (hbl : sb < s.heap.size) (hbA : ¬ A sb) (hd : decode cc pc = .ok (.arraylength, 1))
    (kk : xA p l e R s m args below meth c D A nL cells slots Q (pc + 1) lv (.int (nI L) :: st) ws) : xA p l e R s m args below meth c D A nL cells slots Q pc lv (.ref sb :: st) ws := fun H locs ls hP hD hS hl => va_slen C.1 C.2.1 hX hbl hbA hS hd (kk H locs ls hP hD hS hl)
theorem x_sld (C : xC p s m args meth c cc nL own Ts D tys A ret) (hX : va_X sb L sc s s.heap) (hbl : sb < s.heap.size) (hbA : ¬ A sb) {i : Int32} {j : Nat} (hi : vp_in i L) (hj : i.toNatClampNeg = j) (hd : decode cc pc = .ok (.iaload, 1))
    (kk : xA p l e R s m args below meth c D A nL cells slots Q (pc + 1) lv (.int (sc j) :: st) ws) : xA p l e R s m args below meth c D A nL cells slots Q pc lv (.int i :: .ref sb :: st) ws := fun H locs ls hP hD hS hl => va_sld C.1 C.2.1 hX hbl hbA hS hi hd (hj ▸ kk H locs ls hP hD hS hl)
theorem x_tabIn (C : xC p s m args meth c cc nL own Ts D tys A ret) {dflt lo hi : Int} {offs : Array Int} {len : Nat} {x : Int32} {off : Int} {tgt : Nat} (hd : decode cc pc = .ok (.tableswitch dflt lo hi offs, len)) (h1 : ¬ x.toInt < lo) (h2 : ¬ hi < x.toInt) (ho : offs[(x.toInt - lo).toNat]? = some off) (ht : (pc : Int) + off = (tgt : Int))
    (kk : xA p l e R s m args below meth c D A nL cells slots Q tgt lv st ws) : xA p l e R s m args below meth c D A nL cells slots Q pc lv (.int x :: st) ws := fun H locs ls hP hD hS hl => lv_tableIn C.1 C.2.1 hd h1 h2 ho ht (kk H locs ls hP hD hS hl)
theorem x_tabOut (C : xC p s m args meth c cc nL own Ts D tys A ret) {dflt lo hi : Int} {offs : Array Int} {len : Nat} {x : Int32} {tgt : Nat} (hd : decode cc pc = .ok (.tableswitch dflt lo hi offs, len)) (h : x.toInt < lo ∨ hi < x.toInt) (ht : (pc : Int) + dflt = (tgt : Int))
    (kk : xA p l e R s m args below meth c D A nL cells slots Q tgt lv st ws) : xA p l e R s m args below meth c D A nL cells slots Q pc lv (.int x :: st) ws := fun H locs ls hP hD hS hl => lv_tableOut C.1 C.2.1 hd h ht (kk H locs ls hP hD hS hl)
theorem x_callSWi {σ : Type} {Wf : σ → va_W} {post : Int32 → σ → Prop} {As : List Value} {index n maxL' mc ms : Nat} {y : MethodName} {bytes : ByteArray} {ret' : Option FieldType} {hh : List (Nat × Nat × Nat × Nat)} {ws' : List Cond} {rm : Room} {st0 : List Value} (C : xC p s m args meth c cc nL own Ts D tys A ret) (hE : xE A s) (hM : Met l y ws' rm (va_Pc (As) (xPre D tys A ws)) (va_Qi post (fun u t => xPost D tys A (Wf u) t) A) mc ms A) (cw : vx_CSW R s args own index y bytes maxL' ret' hh ws' rm mc ms n) (hn : As.length = n) (hst : st0 = As.reverse ++ st) (hW : (st.map fun v => v.category).sum ≤ 8) (hd : decode cc pc = .ok (.invokestatic index, 3)) (hf : cells + mc ≤ R.cells ∧ slots + ms ≤ R.slots)
    (kk : ∀ (r : Int32) (u : σ), post r u → xA p l e R s m args below meth c D A nL (cells + mc) (slots + ms) Q (pc + 3) lv (.int r :: st) (Wf u)) : xA p l e R s m args below meth c D A nL cells slots Q pc lv st0 ws := by
  subst hst
  intro H locs ls hP hD hS hl
  exact va_calli (vx_runSW (As := As) (rest := st) ⟨C.1, C.2.1, C.2.2.1, C.2.2.2.1, C.2.2.2.2.1⟩ hM cw ⟨xPre.blind, fun U hU hW => ⟨rfl, xPre.at C hE hP hD hS U hU hW⟩⟩ rfl hn hl.1 rfl (lv_room hW) hd hf) hS (fun q _ h => h) (fun q h => h) (fun r u t H1 locs1 ht hvm hp hB hz hk hS1 => kk r u hp H1 locs1 ls (ht ▸ hB.1) hB.2.2 hS1 hl)
theorem x_ialdG (C : xC p s m args meth c cc nL own Ts D tys A ret) {q0 q N t0 j : Nat} {cA : ClassId} {f : Nat → Int32} (hq : ws[q0]? = some (q, .inl (cA, N, .inl f))) (ht : tys[t0]? = some (cA, .int)) {i : Int32} (hi : vp_in i N) (hj : i.toNatClampNeg = j) (hd : decode cc pc = .ok (.iaload, 1))
    (kk : xA p l e R s m args below meth c D A nL cells slots Q (pc + 1) lv (.int (f j) :: st) ws) : xA p l e R s m args below meth c D A nL cells slots Q pc lv (.int i :: .ref q :: st) ws :=
  fun H locs ls hP hD hS hl => va_iald C.1 C.2.1 C.2.2.2.2.2.1 hP q0 t0 hq ht hi hd (hj ▸ kk H locs ls hP hD hS hl)
/-- n[0] -/
theorem x_nrd (C : xC p s m args meth c cc nL own Ts D (tyC cy) A ret) {M : Nat} (hf : f 0 = nI M) (hd : decode cc pc = .ok (.iaload, 1))
    (kk : xA p l e R s m args below meth c D A nL cells slots Q (pc + 1) lv (.int (nI M) :: st) (cW cy a (nX cy o f :: Y) V)) : xA p l e R s m args below meth c D A nL cells slots Q pc lv (.int (nI 0) :: .ref o :: st) (cW cy a (nX cy o f :: Y) V) :=
  x_ialdG (j := 0) (t0 := 0) C (cW_n cy a (nX cy o f) Y V) rfl (vp_in_nI (n := 0) (N := 1) (by decide) (by decide)) (by decide) hd (hf ▸ kk)
/-- n[0] = v -/
theorem x_nst (C : xC p s m args meth c cc nL own Ts D (tyC cy) A ret) {v : Int32} (hd : decode cc pc = .ok (.iastore, 1))
    (kk : xA p l e R s m args below meth c D A nL cells slots Q (pc + 1) lv st (cW cy a (nX cy o (upd f 0 v) :: Y) V)) : xA p l e R s m args below meth c D A nL cells slots Q pc lv (.int v :: .int (nI 0) :: .ref o :: st) (cW cy a (nX cy o f :: Y) V) :=
  x_iastG (t0 := 0) C (cW_n cy a (nX cy o f) Y V) rfl (vp_in_nI (n := 0) (N := 1) (by decide) (by decide)) hd (by
    rw [cW_nset, show (nI 0).toNatClampNeg = 0 by decide]; exact kk)
theorem x_swp (kk : xA p l e R s m args below meth c D A nL cells slots Q pc lv st (cW cy b (nX cy o f :: cW cy a Y V) U)) : xA p l e R s m args below meth c D A nL cells slots Q pc lv st (cW cy a (nX cy o f :: cW cy b Y U) V) := x_perm (cW_perm cy a b (nX cy o f) Y V U) kk
theorem x_cut {J : Nat} {lv' : List (Nat × Value)} {st' : List Value} {ws' : va_W} {k n : Nat} (h : xA p l e R s m args below meth c D A nL k n Q J lv' st' ws') (kk : xA p l e R s m args below meth c D A nL k n Q J lv' st' ws' → xA p l e R s m args below meth c D A nL cells slots Q pc lv st ws) : xA p l e R s m args below meth c D A nL cells slots Q pc lv st ws := kk h
end LWK
/-- what a small method's answer and world are: refused, not refused, a reader, in general -/
theorem rf_w {ex : Option String} {E : String} {z r : Int32} {U V u : XV} (hx : ex = some E) (h : r = wr ex z ∧ u = wU ex U V) : cdE E = r ∧ V = u := ⟨(h.1.trans (wr_s hx)).symm, (h.2.trans (wU_s hx)).symm⟩
theorem rn_w {ex : Option String} {z z' r : Int32} {U V u : XV} (hx : ex = none) (hz : z = z') (h : r = wr ex z ∧ u = wU ex U V) : z' = r ∧ U = u := ⟨hz.symm.trans (h.1.trans (wr_n hx)).symm, (h.2.trans (wU_n hx)).symm⟩
theorem rr_w {ex : Option String} {z r : Int32} {V u : XV} (h : r = wr ex z ∧ u = wU ex V V) : wr ex z = r ∧ V = u := ⟨h.1.symm, (h.2.trans (wU_same ex V)).symm⟩
theorem rz_w {x y r : Int32} {V u : XV} (hx : x = y) (h : r = x ∧ u = V) : y = r ∧ V = u := ⟨hx.symm.trans h.1.symm, h.2.symm⟩
theorem ru_w {ex : Option String} {z z' r : Int32} {U U' V u : XV} (hx : ex = none) (hz : z = z') (hU : U = U') (h : r = wr ex z ∧ u = wU ex U V) : z' = r ∧ U' = u := ⟨hz.symm.trans (h.1.trans (wr_n hx)).symm, hU.symm.trans (h.2.trans (wU_n hx)).symm⟩
/-- an hour's trials are few -/
theorem poT_n (V : XV) (m : Nat) : ∀ d, ∃ t, t ≤ d ∧ poT V m d = nI t := by
  intro d
  induction d with
  | zero => exact ⟨0, Nat.le_refl 0, rfl⟩
  | succ d ih =>
    obtain ⟨t, ht, e⟩ := ih
    show ∃ t, t ≤ d + 1 ∧ poTs (poV V m d) m d (poT V m d) = nI t
    unfold poTs
    rw [e]
    split
    · split
      · exact ⟨t + 1, by omega, nI_s t⟩
      · exact ⟨t, by omega, rfl⟩
    · exact ⟨t, by omega, rfl⟩
theorem paT_s (V : XV) (n m : Nat) : paT V n m 1 = poT V m n := Int32.zero_add _
theorem paT_1 (V : XV) (n m : Nat) : ∃ t, t ≤ n ∧ paT V n m (nI 1).toNatClampNeg = nI t := by
  obtain ⟨t, ht, e⟩ := poT_n V m n
  exact ⟨t, ht, by rw [show (nI 1).toNatClampNeg = 1 by decide, paT_s]; exact e⟩
/-! the calls that throw -/
theorem nVx_no {v : Int32} (h : v.toInt < 0 ∨ 8 ≤ v.toInt) : nVx v = some xIO := by
  rcases nVx_T v with ⟨_, j, hj, e⟩ | ⟨q, _⟩
  · rw [e, nI_ti (by omega)] at h; omega
  · exact q
theorem nKx_no {v : Int32} (h : v.toInt < 0 ∨ 4 ≤ v.toInt) : nKx v = some xIO := by
  rcases nKx_T v with ⟨_, j, hj, e⟩ | ⟨q, _⟩
  · rw [e, nI_ti (by omega)] at h; omega
  · exact q
theorem nDx_no {V : XV} {n m : Nat} (hJ : gJ V n m) {v : Int32} (h : v.toInt < 0 ∨ (n : Int) ≤ v.toInt) : nDx V v = some xIO := by
  have hn := hJ.2.1
  rcases nDx_T hJ v with ⟨_, j, hj, e⟩ | ⟨q, _⟩
  · rw [e, nI_ti (by omega)] at h; omega
  · exact q
theorem nCx_no {V : XV} {n m : Nat} (hJ : gJ V n m) {v : Int32} (h : v.toInt < 0 ∨ (m : Int) ≤ v.toInt) : nCx V v = some xIO := by
  have hm := hJ.2.2.2.1
  rcases nCx_T hJ v with ⟨_, j, hj, e⟩ | ⟨q, _⟩
  · rw [e, nI_ti (by omega)] at h; omega
  · exact q
theorem nB_ti {k : Nat} (hk : k < 2000000) : (nI k).toInt = (k : Int) := nI_toInt (by omega)
theorem nM_ti {j k : Nat} (hj : j < 1000) (hk : k < 2000000) : (-(nI j) - nI k).toInt = -(j : Int) - k := by
  have e : (-(nI j)).toInt = -(j : Int) := by
    rw [Int32.toInt_neg, nI_ti hj]; exact Int.bmod_eq_of_le (by omega) (by omega)
  rw [Int32.toInt_sub, e, nB_ti hk]
  exact Int.bmod_eq_of_le (by omega) (by omega)
theorem m1_ti {k : Nat} (hk : k < 2000000) : ((-1) - nI k).toInt = -1 - (k : Int) := nM_ti (j := 1) (by omega) hk
theorem m2_ti {k : Nat} (hk : k < 2000000) : ((-2) - nI k).toInt = -2 - (k : Int) := nM_ti (j := 2) (by omega) hk
theorem nR_hi {k H : Nat} {lo : Int32} (h : H < k) (hk : k < 2000000) : nRx (nI k) lo (nI H) = some xIA := by
  rcases nRx_T (nI k) lo (nI H) with ⟨_, _, q⟩ | ⟨q, _⟩
  · rw [nB_ti hk, nB_ti (by omega)] at q; omega
  · exact q
theorem nR_lo {v lo hi : Int32} (h : v.toInt < lo.toInt) : nRx v lo hi = some xIA := by
  rcases nRx_T v lo hi with ⟨_, q, _⟩ | ⟨q, _⟩
  · omega
  · exact q
theorem nR_m1 {k L : Nat} {hi : Int32} (hk : k < 2000000) (hL : L < 1000) : nRx ((-1) - nI k) (nI L) hi = some xIA := nR_lo (by rw [m1_ti hk, nI_ti hL]; omega)
theorem nR_ng {k : Nat} {hi : Int32} (hk : k < 2000000) : nRx (-(nI k)) 1 hi = some xIA := nR_lo (by
  have e : (-(nI k)).toInt = -(k : Int) := by
    rw [Int32.toInt_neg, nB_ti hk]; exact Int.bmod_eq_of_le (by omega) (by omega)
  have e1 : (1 : Int32).toInt = 1 := by decide
  rw [e, e1]; omega)
theorem nB_hi {k : Nat} (h : 100000 < k) (hk : k < 2000000) : nBx (nI k) = some xIA := by
  unfold nBx
  rw [if_neg (fun q => by have := congrArg Int32.toInt q; rw [nB_ti hk, ti_m1] at this; omega)]
  exact nR_hi (H := 100000) h hk
theorem nB_m2 {k : Nat} (hk : k < 2000000) : nBx ((-2) - nI k) = some xIA := by
  unfold nBx
  rw [if_neg (fun q => by have := congrArg Int32.toInt q; rw [m2_ti hk, ti_m1] at this; omega)]
  have e1 : (1 : Int32).toInt = 1 := by decide
  exact nR_lo (by rw [m2_ti hk, e1]; omega)
/-! ===== END lawk ===== -/
