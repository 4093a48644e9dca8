/-! ===== BEGIN wrapk: what the law's own small methods stand on: a table of handlers, the long array that takes the answer ===== -/
theorem vp01 : vp_in (0 : Int32) 1 := vp_in_nI (n := 0) (N := 1) (by decide) (by decide)
section WRK
variable {p : Program} {l : Launch} {e : Env} {R : Room} {s : State} {m : MethodId} {args : Array Value} {below : List Frame} {meth : Method} {c : Code} {cells slots : Nat} {Q : State → Prop} {cc : ByteArray} {nL : Nat} {own : String} {Ts : List Cond} {D : va_G} {A : Nat → Prop} {ret : Option FieldType} {pc : Nat} {lv : List (Nat × Value)} {st : List Value} {cy : Nat → ClassId} {a : Nat → Nat} {o : Nat} {Y : va_W} {V : XV}
theorem x_metH {tys : List (ClassId × FieldType)} {ws : va_W} {y : MethodName} {ws' : List Cond} {rm : Room} {av : List Value} {mc ms : Nat} {Qc : Array Value → State → Outcome → State → Prop} {hh : List (Nat × Nat × Nat × Nat)} (hy : plainName y.cls = true) (hown : y.cls = own) (hw : Ts = Cond.codeWith y cc nL ret hh :: ws') (hlen : (lg_sl av).length ≤ nL) (hcat : (lv_args 0 av).all (fun q => q.2.category == 1) = true)
    (body : ∀ p e s m below meth c, c.exceptionTable.toList = hh.map (fun q => ⟨q.1, q.2.1, q.2.2.1, q.2.2.2⟩) → xC p s m av.toArray meth c cc nL own Ts D tys A ret → xE A s → xA p l e rm s m av.toArray below meth c D A nL 0 0 (MQ below Qc av.toArray s mc ms A) 0 (lv_args 0 av) [] ws) : Met l y Ts rm (va_Pc av (xPre D tys A ws)) Qc mc ms A := by
  refine MetFree.of_bodyS (code := cc) (maxLocals := nL) (ret := ret) hy ?_ ?_
  · intro args s m h hn
    obtain ⟨m9, meth, c, hn9, h1, h2, h3, h4, -, h5, h6, -⟩ := Cond.codeWith_spec (atoms_spec (ws := Ts) h _ (by rw [hw]; exact List.mem_cons_self))
    cases hn.symm.trans hn9
    exact ⟨meth, c, h1, h2, h3, h4, h5, h6⟩
  · intro p e s m args below meth c s₁ B hml hv _
    have hh0 : s₁.heap = s.heap := by rw [B.state]; rfl
    obtain ⟨rfl, hA, hP, hK, hD, hE⟩ := hv
    have hl := lv_entry av (n := nL) hlen
    have htab := vx_table (x := y) B (atoms_spec (ws := Ts) B.pre _ (by rw [hw]; exact List.mem_cons_self))
    have hb := body p e s m below meth c htab ⟨B.exec, B.bytes, hml, by rw [← hown]; exact findClass_of_methodNamed B.named, atoms_spec (ws := Ts) B.pre, hK, hA, B.notSynchronized, B.returns⟩ hE s.heap [] _ hP hD va_S.rf (lvx.of hl hcat)
    rw [← lg_entry_eq] at hb
    obtain ⟨t, a1, o, b1, b2, b3⟩ := hb s₁ hh0 (Stand.of_body B)
    exact ⟨t, o, a1, b1, b2, ⟨b3.1, b3.2⟩⟩
/-- a thrown exception reaches the handler that the table has for it, past k rows of other classes -/
theorem x_hand {tys : List (ClassId × FieldType)} {ws : va_W} {E : String} (C : xC p s m args meth c cc nL own Ts D tys A ret) (hE : xE A s) (pre : List ExceptionTableEntry) (x : ExceptionTableEntry) (suf : List ExceptionTableEntry) (hsplit : c.exceptionTable.toList = pre ++ x :: suf)
    (hpass : ∀ z ∈ pre, z.catchType ≠ 0 ∧ ∃ nm : String, Cond.classLink own z.catchType nm ∈ Ts ∧ (E, nm) ∈ xEn) (hx : covers x pc = true) (h0 : x.catchType ≠ 0) (hlink : Cond.classLink own x.catchType E ∈ Ts) (hc : Cond.castable E E ∈ xEw) {hpc : Nat} (hpc0 : x.handlerPc = hpc)
    {H : Heap} {locs : List Loc} {ls : Array Slot} {q9 : Nat} {ce : Cell} (hP : va_P D vwCl ws H) (hD : va_D A ws) (hS : va_S A s.heap H locs) (hl : lvx ls nL lv) (hcell : H[q9]? = some ce) (hv : ce.vm = .none) (hcl : s.vm.findClass E = some ce.cls)
    (kk : xA p l e R s m args below meth c D A nL cells slots Q hpc lv [.ref q9] ws) : vx_W p l e R s m args below meth c H locs cells slots Q (F0 m pc ls st) q9 :=
  vx_catch C.2.2.2.1 pre x suf hsplit (fun z hz => Or.inr ⟨(hpass z hz).1, by obtain ⟨nm, h1, h2⟩ := (hpass z hz).2; exact ⟨nm, C.2.2.2.2.1 _ h1, hE.2.1 _ h2⟩⟩) hx h0 (C.2.2.2.2.1 _ hlink) (va_Nw.use rfl (hE.1 _ hc)) hcell hv hcl (by rw [hpc0]; exact kk H locs ls hP hD hS hl)
end WRK
/-! ===== END wrapk ===== -/
