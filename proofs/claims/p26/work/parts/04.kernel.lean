/-! ===== BEGIN kernel: the packed goal xA (heap, written places, locals are bound inside), one row an instruction ===== -/
/-- contents of the cells, by cell and place -/
abbrev XV : Type := Nat → Nat → Int32
def xs (V : XV) (p k : Nat) (v : Int32) : XV := fun q => if q = p then upd (V p) k v else V q
theorem xs_at (V : XV) (p k : Nat) (v : Int32) : xs V p k v p = upd (V p) k v := if_pos rfl
theorem xs_off (V : XV) {p q : Nat} (k : Nat) (v : Int32) (h : q ≠ p) : xs V p k v q = V q := if_neg h
theorem xs_eq (V : XV) (p k : Nat) (v : Int32) (q j : Nat) : xs V p k v q j = if q = p ∧ j = k then v else V q j := by
  unfold xs
  by_cases h : q = p
  · subst h
    rw [if_pos rfl]
    unfold upd
    by_cases h2 : j = k
    · rw [if_pos h2, if_pos ⟨rfl, h2⟩]
    · rw [if_neg h2, if_neg (fun z => h2 z.2)]
  · rw [if_neg h, if_neg (fun z => h z.1)]
/-- n cells at the addresses a 0 .. a (n-1) -/
def xw (n : Nat) (a : Nat → Nat) (E : Nat → va_E) : va_W := (List.range n).map (fun p => (a p, E p))
theorem xw_len (n : Nat) (a : Nat → Nat) (E : Nat → va_E) : (xw n a E).length = n := by simp [xw]
theorem xw_get {n : Nat} {a : Nat → Nat} {E : Nat → va_E} {X : va_W} {p : Nat} (h : p < n) : (xw n a E ++ X)[p]? = some (a p, E p) := by
  rw [List.getElem?_append_left (by rw [xw_len]; exact h)]
  simp [xw, h]
theorem xw_set {n : Nat} {a : Nat → Nat} {E E' : Nat → va_E} {X : va_W} {p : Nat} {e : va_E} (h : p < n) (he : E' p = e) (ho : ∀ q, q ≠ p → E' q = E q) : (xw n a E ++ X).set p (a p, e) = xw n a E' ++ X := by
  rw [List.set_append_left _ _ (by rw [xw_len]; exact h)]
  congr 1
  apply List.ext_getElem?
  intro i
  by_cases hi : i = p
  · subst hi
    simp [xw, h, he]
  · by_cases hn : i < n
    · simp [xw, hn, List.getElem?_set, Ne.symm hi, ho i hi]
    · rw [List.getElem?_eq_none (by simp [xw]; omega), List.getElem?_eq_none (by simp [xw]; omega)]
/-- locals: the first row of i counts -/
def xl : List (Nat × Value) → Nat → Option Value
  | [], _ => none
  | q :: r, i => match Nat.beq q.1 i with
    | true => some q.2
    | false => xl r i
def lvx (ls : Array Slot) (nL : Nat) (lv : List (Nat × Value)) : Prop := ls.size = nL ∧ lv_wf ls ∧ ∀ i v, xl lv i = some v → ls[i]? = some (.val v) ∧ v.category = 1
theorem xl_mem : ∀ {lv : List (Nat × Value)} {i : Nat} {v : Value}, xl lv i = some v → (i, v) ∈ lv
  | [], _, _, h => by cases h
  | q :: r, i, v, h => by
    unfold xl at h
    cases hq : Nat.beq q.1 i with
    | true =>
      rw [hq] at h
      have e := Nat.eq_of_beq_eq_true hq
      cases h
      rw [← e]
      exact List.mem_cons_self
    | false =>
      rw [hq] at h
      exact List.mem_cons_of_mem _ (xl_mem h)
theorem xl_cons_self (lv : List (Nat × Value)) (i : Nat) (v : Value) : xl ((i, v) :: lv) i = some v := by
  simp [xl]
theorem xl_cons_ne (lv : List (Nat × Value)) {i j : Nat} (v : Value) (h : i ≠ j) : xl ((i, v) :: lv) j = xl lv j := by
  have hb : Nat.beq i j = false := by
    cases hq : Nat.beq i j with
    | true => exact absurd (Nat.eq_of_beq_eq_true hq) h
    | false => rfl
  conv => lhs; unfold xl
  simp only [hb]
theorem lvx.of {ls : Array Slot} {nL : Nat} {lv : List (Nat × Value)} (h : lv_has ls nL lv) (hc : lv.all (fun q => q.2.category == 1) = true) : lvx ls nL lv := by
  refine ⟨h.1, h.2.1, fun i v hv => ?_⟩
  have hm := xl_mem hv
  refine ⟨h.2.2 (i, v) hm, ?_⟩
  have := List.all_eq_true.mp hc _ hm
  simpa using this
/-- all that is known, as a list without double rows -/
def lvl (lv : List (Nat × Value)) (nL : Nat) : List (Nat × Value) := (List.range nL).filterMap (fun j => (xl lv j).map (fun v => (j, v)))
theorem lvl_has {ls : Array Slot} {nL : Nat} {lv : List (Nat × Value)} (h : lvx ls nL lv) : lv_has ls nL (lvl lv nL) := by
  refine ⟨h.1, h.2.1, fun q hq => ?_⟩
  obtain ⟨j, -, hj⟩ := List.mem_filterMap.mp hq
  cases hx : xl lv j with
  | none => rw [hx] at hj; cases hj
  | some v =>
    rw [hx] at hj
    cases hj
    exact (h.2.2 j v hx).1
theorem lvx.put {ls ls' : Array Slot} {nL : Nat} {lv : List (Nat × Value)} {i : Nat} {v : Value} (h : lvx ls nL lv) (hv : v.category = 1) (h2 : lv_has ls' nL ((i, v) :: (lvl lv nL).filter (fun q => !(q.1 == i) && !(q.1 + 1 == i && q.2.category == 2)))) : lvx ls' nL ((i, v) :: lv) := by
  refine ⟨h2.1, h2.2.1, fun j w hj => ?_⟩
  by_cases hij : i = j
  · subst hij
    rw [xl_cons_self] at hj
    cases hj
    exact ⟨h2.2.2 (i, v) List.mem_cons_self, hv⟩
  · rw [xl_cons_ne lv v hij] at hj
    obtain ⟨q1, q2⟩ := h.2.2 j w hj
    have hjn : j < nL := by
      have := (Array.getElem?_eq_some_iff.mp q1).1
      rw [h.1] at this
      exact this
    refine ⟨h2.2.2 (j, w) (List.mem_cons_of_mem _ (List.mem_filter.mpr ⟨List.mem_filterMap.mpr ⟨j, List.mem_range.mpr hjn, by rw [hj]; rfl⟩, ?_⟩)), q2⟩
    simp [q2, Ne.symm hij]
theorem lvx.sub {ls : Array Slot} {nL : Nat} {lv lv' : List (Nat × Value)} (h : lvx ls nL lv) (hs : ∀ q ∈ lv', xl lv q.1 = some q.2) : lvx ls nL lv' :=
  ⟨h.1, h.2.1, fun i v hv => h.2.2 i v (hs (i, v) (xl_mem hv))⟩
/-- what stands fast in a method's walk -/
def xC (p : Program) (s : State) (m : MethodId) (args : Array Value) (meth : Method) (c : Code) (cc : ByteArray) (nL : Nat) (own : String) (Ts : List Cond) (D : va_G) (tys : List (ClassId × FieldType)) (A : Nat → Prop) (ret : Option FieldType) : Prop :=
  p.tables.exec = Jvm.exec ∧ c.code = cc ∧ c.maxLocals = nL ∧ s.vm.findClass own = some m.cls ∧ (∀ w ∈ Ts, w.before args s = true) ∧ va_K D vwCl tys s ∧ (∀ q, s.heap.size ≤ q → A q) ∧ meth.locks = false ∧ meth.sig.returnType = ret
/-- the goal at a place of the code, over every heap that holds the world -/
def xA (p : Program) (l : Launch) (e : Env) (R : Room) (s : State) (m : MethodId) (args : Array Value) (below : List Frame) (meth : Method) (c : Code) (D : va_G) (A : Nat → Prop) (nL cells slots : Nat) (Q : State → Prop) (pc : Nat) (lv : List (Nat × Value)) (st : List Value) (ws : va_W) : Prop :=
  ∀ (H : Heap) (locs : List Loc) (ls : Array Slot), va_P D vwCl ws H → va_D A ws → va_S A s.heap H locs → lvx ls nL lv → W p l e R s m args below meth c H locs cells slots Q (F0 m pc ls st)
section XK
variable {p : Program} {l : Launch} {e : Env} {R : Room} {s : State} {m : MethodId} {args : Array Value} {below : List Frame} {meth : Method} {c : Code} {cells slots : Nat} {Q : State → Prop} {cc : ByteArray} {nL : Nat} {own : String} {Ts : List Cond} {D : va_G} {tys : List (ClassId × FieldType)} {A : Nat → Prop} {ret : Option FieldType} {pc : Nat} {lv : List (Nat × Value)} {st : List Value} {ws : va_W}

theorem x_sub {lv' : List (Nat × Value)} (k : xA p l e R s m args below meth c D A nL cells slots Q pc lv' st ws) (hs : ∀ q ∈ lv', xl lv q.1 = some q.2) : xA p l e R s m args below meth c D A nL cells slots Q pc lv st ws := fun H locs ls hP hD hS hl => k H locs ls hP hD hS (hl.sub hs)
theorem x_subm {lv' : List (Nat × Value)} (k : xA p l e R s m args below meth c D A nL cells slots Q pc lv' st ws) (hs : lv'.map (fun q => xl lv q.1) = lv'.map (fun q => some q.2)) : xA p l e R s m args below meth c D A nL cells slots Q pc lv st ws := x_sub k (fun q hq => List.map_inj_left.mp hs q hq)
theorem x_st {st' : List Value} (h : st = st') (k : xA p l e R s m args below meth c D A nL cells slots Q pc lv st' ws) : xA p l e R s m args below meth c D A nL cells slots Q pc lv st ws := h ▸ k
theorem x_ws {ws' : va_W} (h : ws = ws') (k : xA p l e R s m args below meth c D A nL cells slots Q pc lv st ws') : xA p l e R s m args below meth c D A nL cells slots Q pc lv st ws := h ▸ k
theorem x_widen {k n : Nat} (h1 : cells ≤ k) (h2 : slots ≤ n) (kk : xA p l e R s m args below meth c D A nL k n Q pc lv st ws) : xA p l e R s m args below meth c D A nL cells slots Q pc lv st ws := fun H locs ls hP hD hS hl => W.widen h1 h2 (kk H locs ls hP hD hS hl)

theorem x_iconst (C : xC p s m args meth c cc nL own Ts D tys A ret) {n : Int} {v : Int32} (hd : decode cc pc = .ok (.iconst n, 1)) (hv : Int32.ofInt n = v)
    (k : xA p l e R s m args below meth c D A nL cells slots Q (pc + 1) lv (.int v :: st) ws) : xA p l e R s m args below meth c D A nL cells slots Q pc lv st ws := fun H locs ls hP hD hS hl => lv_iconst C.1 C.2.1 hd hv (k H locs ls hP hD hS hl)
theorem x_bipush (C : xC p s m args meth c cc nL own Ts D tys A ret) {n : Int} {v : Int32} (hd : decode cc pc = .ok (.bipush n, 2)) (hv : (Int8.ofInt n).toInt32 = v)
    (k : xA p l e R s m args below meth c D A nL cells slots Q (pc + 2) lv (.int v :: st) ws) : xA p l e R s m args below meth c D A nL cells slots Q pc lv st ws := fun H locs ls hP hD hS hl => lv_bipush C.1 C.2.1 hd hv (k H locs ls hP hD hS hl)
theorem x_sipush (C : xC p s m args meth c cc nL own Ts D tys A ret) {n : Int} {v : Int32} (hd : decode cc pc = .ok (.sipush n, 3)) (hv : (Int16.ofInt n).toInt32 = v)
    (k : xA p l e R s m args below meth c D A nL cells slots Q (pc + 3) lv (.int v :: st) ws) : xA p l e R s m args below meth c D A nL cells slots Q pc lv st ws := fun H locs ls hP hD hS hl => lv_sipush C.1 C.2.1 hd hv (k H locs ls hP hD hS hl)
theorem x_iadd (C : xC p s m args meth c cc nL own Ts D tys A ret) {x y : Int32} (hd : decode cc pc = .ok (.iadd, 1)) 
    (k : xA p l e R s m args below meth c D A nL cells slots Q (pc + 1) lv (.int (x + y) :: st) ws) : xA p l e R s m args below meth c D A nL cells slots Q pc lv (.int y :: .int x :: st) ws := fun H locs ls hP hD hS hl => lv_iadd C.1 C.2.1 hd  (k H locs ls hP hD hS hl)
theorem x_isub (C : xC p s m args meth c cc nL own Ts D tys A ret) {x y : Int32} (hd : decode cc pc = .ok (.isub, 1)) 
    (k : xA p l e R s m args below meth c D A nL cells slots Q (pc + 1) lv (.int (x - y) :: st) ws) : xA p l e R s m args below meth c D A nL cells slots Q pc lv (.int y :: .int x :: st) ws := fun H locs ls hP hD hS hl => lv_isub C.1 C.2.1 hd  (k H locs ls hP hD hS hl)
theorem x_imul (C : xC p s m args meth c cc nL own Ts D tys A ret) {x y : Int32} (hd : decode cc pc = .ok (.imul, 1)) 
    (k : xA p l e R s m args below meth c D A nL cells slots Q (pc + 1) lv (.int (x * y) :: st) ws) : xA p l e R s m args below meth c D A nL cells slots Q pc lv (.int y :: .int x :: st) ws := fun H locs ls hP hD hS hl => lv_imul C.1 C.2.1 hd  (k H locs ls hP hD hS hl)
theorem x_iand (C : xC p s m args meth c cc nL own Ts D tys A ret) {x y : Int32} (hd : decode cc pc = .ok (.iand, 1)) 
    (k : xA p l e R s m args below meth c D A nL cells slots Q (pc + 1) lv (.int (x &&& y) :: st) ws) : xA p l e R s m args below meth c D A nL cells slots Q pc lv (.int y :: .int x :: st) ws := fun H locs ls hP hD hS hl => lv_iand C.1 C.2.1 hd  (k H locs ls hP hD hS hl)
theorem x_ior (C : xC p s m args meth c cc nL own Ts D tys A ret) {x y : Int32} (hd : decode cc pc = .ok (.ior, 1)) 
    (k : xA p l e R s m args below meth c D A nL cells slots Q (pc + 1) lv (.int (x ||| y) :: st) ws) : xA p l e R s m args below meth c D A nL cells slots Q pc lv (.int y :: .int x :: st) ws := fun H locs ls hP hD hS hl => lv_ior C.1 C.2.1 hd  (k H locs ls hP hD hS hl)
theorem x_ixor (C : xC p s m args meth c cc nL own Ts D tys A ret) {x y : Int32} (hd : decode cc pc = .ok (.ixor, 1)) 
    (k : xA p l e R s m args below meth c D A nL cells slots Q (pc + 1) lv (.int (x ^^^ y) :: st) ws) : xA p l e R s m args below meth c D A nL cells slots Q pc lv (.int y :: .int x :: st) ws := fun H locs ls hP hD hS hl => lv_ixor C.1 C.2.1 hd  (k H locs ls hP hD hS hl)
theorem x_ishl (C : xC p s m args meth c cc nL own Ts D tys A ret) {x y : Int32} (hd : decode cc pc = .ok (.ishl, 1)) 
    (k : xA p l e R s m args below meth c D A nL cells slots Q (pc + 1) lv (.int (x <<< (y &&& 31)) :: st) ws) : xA p l e R s m args below meth c D A nL cells slots Q pc lv (.int y :: .int x :: st) ws := fun H locs ls hP hD hS hl => lv_ishl C.1 C.2.1 hd  (k H locs ls hP hD hS hl)
theorem x_ishr (C : xC p s m args meth c cc nL own Ts D tys A ret) {x y : Int32} (hd : decode cc pc = .ok (.ishr, 1)) 
    (k : xA p l e R s m args below meth c D A nL cells slots Q (pc + 1) lv (.int (x >>> (y &&& 31)) :: st) ws) : xA p l e R s m args below meth c D A nL cells slots Q pc lv (.int y :: .int x :: st) ws := fun H locs ls hP hD hS hl => lv_ishr C.1 C.2.1 hd  (k H locs ls hP hD hS hl)
theorem x_idiv (C : xC p s m args meth c cc nL own Ts D tys A ret) {x y : Int32} (hd : decode cc pc = .ok (.idiv, 1)) (hne : ¬ y = 0)
    (k : xA p l e R s m args below meth c D A nL cells slots Q (pc + 1) lv (.int (x / y) :: st) ws) : xA p l e R s m args below meth c D A nL cells slots Q pc lv (.int y :: .int x :: st) ws := fun H locs ls hP hD hS hl => lv_idiv C.1 C.2.1 hd hne (k H locs ls hP hD hS hl)
theorem x_irem (C : xC p s m args meth c cc nL own Ts D tys A ret) {x y : Int32} (hd : decode cc pc = .ok (.irem, 1)) (hne : ¬ y = 0)
    (k : xA p l e R s m args below meth c D A nL cells slots Q (pc + 1) lv (.int (x - x / y * y) :: st) ws) : xA p l e R s m args below meth c D A nL cells slots Q pc lv (.int y :: .int x :: st) ws := fun H locs ls hP hD hS hl => lv_irem C.1 C.2.1 hd hne (k H locs ls hP hD hS hl)
theorem x_ineg (C : xC p s m args meth c cc nL own Ts D tys A ret) {x : Int32} (hd : decode cc pc = .ok (.ineg, 1)) 
    (k : xA p l e R s m args below meth c D A nL cells slots Q (pc + 1) lv (.int (-x) :: st) ws) : xA p l e R s m args below meth c D A nL cells slots Q pc lv (.int x :: st) ws := fun H locs ls hP hD hS hl => lv_ineg C.1 C.2.1 hd  (k H locs ls hP hD hS hl)
theorem x_i2l (C : xC p s m args meth c cc nL own Ts D tys A ret) {x : Int32} {v : Int64} (hd : decode cc pc = .ok (.i2l, 1)) (hv : x.toInt64 = v)
    (k : xA p l e R s m args below meth c D A nL cells slots Q (pc + 1) lv (.long v :: st) ws) : xA p l e R s m args below meth c D A nL cells slots Q pc lv (.int x :: st) ws := fun H locs ls hP hD hS hl => lv_i2l C.1 C.2.1 hd hv (k H locs ls hP hD hS hl)
theorem x_dup (C : xC p s m args meth c cc nL own Ts D tys A ret) {va : Value} (hd : decode cc pc = .ok (.dup, 1)) (hva : va.category = 1)
    (k : xA p l e R s m args below meth c D A nL cells slots Q (pc + 1) lv (va :: va :: st) ws) : xA p l e R s m args below meth c D A nL cells slots Q pc lv (va :: st) ws := fun H locs ls hP hD hS hl => lv_dup C.1 C.2.1 hd hva (k H locs ls hP hD hS hl)
theorem x_pop (C : xC p s m args meth c cc nL own Ts D tys A ret) {va : Value} (hd : decode cc pc = .ok (.pop, 1)) (hva : va.category = 1)
    (k : xA p l e R s m args below meth c D A nL cells slots Q (pc + 1) lv st ws) : xA p l e R s m args below meth c D A nL cells slots Q pc lv (va :: st) ws := fun H locs ls hP hD hS hl => lv_pop C.1 C.2.1 hd hva (k H locs ls hP hD hS hl)
theorem x_dup_x1 (C : xC p s m args meth c cc nL own Ts D tys A ret) {va vb : Value} (hd : decode cc pc = .ok (.dup_x1, 1)) (hva : va.category = 1) (hvb : vb.category = 1)
    (k : xA p l e R s m args below meth c D A nL cells slots Q (pc + 1) lv (va :: vb :: va :: st) ws) : xA p l e R s m args below meth c D A nL cells slots Q pc lv (va :: vb :: st) ws := fun H locs ls hP hD hS hl => lv_dup_x1 C.1 C.2.1 hd hva hvb (k H locs ls hP hD hS hl)
theorem x_dup2_11 (C : xC p s m args meth c cc nL own Ts D tys A ret) {va vb : Value} (hd : decode cc pc = .ok (.dup2, 1)) (hva : va.category = 1) (hvb : vb.category = 1)
    (k : xA p l e R s m args below meth c D A nL cells slots Q (pc + 1) lv (va :: vb :: va :: vb :: st) ws) : xA p l e R s m args below meth c D A nL cells slots Q pc lv (va :: vb :: st) ws := fun H locs ls hP hD hS hl => lv_dup2_11 C.1 C.2.1 hd hva hvb (k H locs ls hP hD hS hl)
theorem x_dup_x2 (C : xC p s m args meth c cc nL own Ts D tys A ret) {va vb vd : Value} (hd : decode cc pc = .ok (.dup_x2, 1)) (hva : va.category = 1) (hvb : vb.category = 1) (hvd : vd.category = 1)
    (k : xA p l e R s m args below meth c D A nL cells slots Q (pc + 1) lv (va :: vb :: vd :: va :: st) ws) : xA p l e R s m args below meth c D A nL cells slots Q pc lv (va :: vb :: vd :: st) ws := fun H locs ls hP hD hS hl => lv_dup_x2 C.1 C.2.1 hd hva hvb hvd (k H locs ls hP hD hS hl)
theorem x_topi {x y : Int32} (h : x = y) (k : xA p l e R s m args below meth c D A nL cells slots Q pc lv (.int y :: st) ws) : xA p l e R s m args below meth c D A nL cells slots Q pc lv (.int x :: st) ws := h ▸ k
theorem x_iload_n (C : xC p s m args meth c cc nL own Ts D tys A ret) {k : Fin 4} {i : Nat} {x : Int32} (hd : decode cc pc = .ok (.iload_n k, 1)) (hi : (k : Nat) = i) (hx : xl lv i = some (.int x))
    (kk : xA p l e R s m args below meth c D A nL cells slots Q (pc + 1) lv (.int x :: st) ws) : xA p l e R s m args below meth c D A nL cells slots Q pc lv st ws := fun H locs ls hP hD hS hl => lv_iload_n C.1 C.2.1 hd hi (hl.2.2 i _ hx).1 (kk H locs ls hP hD hS hl)
theorem x_iload (C : xC p s m args meth c cc nL own Ts D tys A ret) {i : Nat} {x : Int32} (hd : decode cc pc = .ok (.iload i, 2)) (hx : xl lv i = some (.int x))
    (kk : xA p l e R s m args below meth c D A nL cells slots Q (pc + 2) lv (.int x :: st) ws) : xA p l e R s m args below meth c D A nL cells slots Q pc lv st ws := fun H locs ls hP hD hS hl => lv_iload C.1 C.2.1 hd (hl.2.2 i _ hx).1 (kk H locs ls hP hD hS hl)
theorem x_aload_n (C : xC p s m args meth c cc nL own Ts D tys A ret) {k : Fin 4} {i : Nat} {x : Nat} (hd : decode cc pc = .ok (.aload_n k, 1)) (hi : (k : Nat) = i) (hx : xl lv i = some (.ref x))
    (kk : xA p l e R s m args below meth c D A nL cells slots Q (pc + 1) lv (.ref x :: st) ws) : xA p l e R s m args below meth c D A nL cells slots Q pc lv st ws := fun H locs ls hP hD hS hl => lv_aload_n C.1 C.2.1 hd hi (hl.2.2 i _ hx).1 (kk H locs ls hP hD hS hl)
theorem x_aload (C : xC p s m args meth c cc nL own Ts D tys A ret) {i : Nat} {x : Nat} (hd : decode cc pc = .ok (.aload i, 2)) (hx : xl lv i = some (.ref x))
    (kk : xA p l e R s m args below meth c D A nL cells slots Q (pc + 2) lv (.ref x :: st) ws) : xA p l e R s m args below meth c D A nL cells slots Q pc lv st ws := fun H locs ls hP hD hS hl => lv_aload C.1 C.2.1 hd (hl.2.2 i _ hx).1 (kk H locs ls hP hD hS hl)
theorem x_istore_n (C : xC p s m args meth c cc nL own Ts D tys A ret) {k : Fin 4} {i : Nat} {x : Int32} (hd : decode cc pc = .ok (.istore_n k, 1)) (hi : (k : Nat) = i) (hn : i < nL)
    (kk : xA p l e R s m args below meth c D A nL cells slots Q (pc + 1) ((i, .int x) :: lv) st ws) : xA p l e R s m args below meth c D A nL cells slots Q pc lv (.int x :: st) ws := fun H locs ls hP hD hS hl => lv_istore_n C.1 C.2.1 hd hi (lvl_has hl) hn rfl (fun ls' h' => kk H locs ls' hP hD hS (hl.put rfl h'))
theorem x_istore (C : xC p s m args meth c cc nL own Ts D tys A ret) {i : Nat} {x : Int32} (hd : decode cc pc = .ok (.istore i, 2)) (hn : i < nL)
    (kk : xA p l e R s m args below meth c D A nL cells slots Q (pc + 2) ((i, .int x) :: lv) st ws) : xA p l e R s m args below meth c D A nL cells slots Q pc lv (.int x :: st) ws := fun H locs ls hP hD hS hl => lv_istore C.1 C.2.1 hd (lvl_has hl) hn rfl (fun ls' h' => kk H locs ls' hP hD hS (hl.put rfl h'))
theorem x_astore_n (C : xC p s m args meth c cc nL own Ts D tys A ret) {k : Fin 4} {i : Nat} {x : Nat} (hd : decode cc pc = .ok (.astore_n k, 1)) (hi : (k : Nat) = i) (hn : i < nL)
    (kk : xA p l e R s m args below meth c D A nL cells slots Q (pc + 1) ((i, .ref x) :: lv) st ws) : xA p l e R s m args below meth c D A nL cells slots Q pc lv (.ref x :: st) ws := fun H locs ls hP hD hS hl => lv_astore_n C.1 C.2.1 hd hi (lvl_has hl) hn rfl (fun ls' h' => kk H locs ls' hP hD hS (hl.put rfl h'))
theorem x_astore (C : xC p s m args meth c cc nL own Ts D tys A ret) {i : Nat} {x : Nat} (hd : decode cc pc = .ok (.astore i, 2)) (hn : i < nL)
    (kk : xA p l e R s m args below meth c D A nL cells slots Q (pc + 2) ((i, .ref x) :: lv) st ws) : xA p l e R s m args below meth c D A nL cells slots Q pc lv (.ref x :: st) ws := fun H locs ls hP hD hS hl => lv_astore C.1 C.2.1 hd (lvl_has hl) hn rfl (fun ls' h' => kk H locs ls' hP hD hS (hl.put rfl h'))
theorem x_iinc (C : xC p s m args meth c cc nL own Ts D tys A ret) {i : Nat} {n : Int} {x v : Int32} (hd : decode cc pc = .ok (.iinc i n, 3)) (hx : xl lv i = some (.int x)) (hv : x + Int32.ofInt n = v)
    (kk : xA p l e R s m args below meth c D A nL cells slots Q (pc + 3) ((i, .int v) :: lv) st ws) : xA p l e R s m args below meth c D A nL cells slots Q pc lv st ws := by
  intro H locs ls hP hD hS hl
  have hm : (i, Value.int x) ∈ lvl lv nL := by
    have h1 := (hl.2.2 i _ hx).1
    have hn : i < nL := by
      have := (Array.getElem?_eq_some_iff.mp h1).1
      rw [hl.1] at this
      exact this
    exact List.mem_filterMap.mpr ⟨i, List.mem_range.mpr hn, by rw [hx]; rfl⟩
  have hn : i < nL := by
    have := (Array.getElem?_eq_some_iff.mp (hl.2.2 i _ hx).1).1
    rw [hl.1] at this
    exact this
  obtain ⟨k, hk⟩ := List.getElem?_of_mem hm
  exact lv_iinc C.1 C.2.1 hd (lvl_has hl) hk hv hn rfl (fun ls' h' => kk H locs ls' hP hD hS (hl.put rfl h'))
theorem x_if_eq (C : xC p s m args meth c cc nL own Ts D tys A ret) {x : Int32} {off : Int} (tgt : Nat) (hd : decode cc pc = .ok (.ifCond .eq off, 3)) (ht : (pc : Int) + off = (tgt : Int))
    (kt : x = 0 → xA p l e R s m args below meth c D A nL cells slots Q tgt lv st ws) (kf : ¬ x = 0 → xA p l e R s m args below meth c D A nL cells slots Q (pc + 3) lv st ws) : xA p l e R s m args below meth c D A nL cells slots Q pc lv (.int x :: st) ws := fun H locs ls hP hD hS hl => lv_if_eq C.1 C.2.1 hd ht (fun h => kt h H locs ls hP hD hS hl) (fun h => kf h H locs ls hP hD hS hl)
theorem x_icmp_eq (C : xC p s m args meth c cc nL own Ts D tys A ret) {x y : Int32} {off : Int} (tgt : Nat) (hd : decode cc pc = .ok (.if_icmp .eq off, 3)) (ht : (pc : Int) + off = (tgt : Int))
    (kt : x = y → xA p l e R s m args below meth c D A nL cells slots Q tgt lv st ws) (kf : ¬ x = y → xA p l e R s m args below meth c D A nL cells slots Q (pc + 3) lv st ws) : xA p l e R s m args below meth c D A nL cells slots Q pc lv (.int y :: .int x :: st) ws := fun H locs ls hP hD hS hl => lv_icmp_eq C.1 C.2.1 hd ht (fun h => kt h H locs ls hP hD hS hl) (fun h => kf h H locs ls hP hD hS hl)
theorem x_if_ne (C : xC p s m args meth c cc nL own Ts D tys A ret) {x : Int32} {off : Int} (tgt : Nat) (hd : decode cc pc = .ok (.ifCond .ne off, 3)) (ht : (pc : Int) + off = (tgt : Int))
    (kt : ¬ x = 0 → xA p l e R s m args below meth c D A nL cells slots Q tgt lv st ws) (kf : x = 0 → xA p l e R s m args below meth c D A nL cells slots Q (pc + 3) lv st ws) : xA p l e R s m args below meth c D A nL cells slots Q pc lv (.int x :: st) ws := fun H locs ls hP hD hS hl => lv_if_ne C.1 C.2.1 hd ht (fun h => kt h H locs ls hP hD hS hl) (fun h => kf h H locs ls hP hD hS hl)
theorem x_icmp_ne (C : xC p s m args meth c cc nL own Ts D tys A ret) {x y : Int32} {off : Int} (tgt : Nat) (hd : decode cc pc = .ok (.if_icmp .ne off, 3)) (ht : (pc : Int) + off = (tgt : Int))
    (kt : ¬ x = y → xA p l e R s m args below meth c D A nL cells slots Q tgt lv st ws) (kf : x = y → xA p l e R s m args below meth c D A nL cells slots Q (pc + 3) lv st ws) : xA p l e R s m args below meth c D A nL cells slots Q pc lv (.int y :: .int x :: st) ws := fun H locs ls hP hD hS hl => lv_icmp_ne C.1 C.2.1 hd ht (fun h => kt h H locs ls hP hD hS hl) (fun h => kf h H locs ls hP hD hS hl)
theorem x_if_lt (C : xC p s m args meth c cc nL own Ts D tys A ret) {x : Int32} {off : Int} (tgt : Nat) (hd : decode cc pc = .ok (.ifCond .lt off, 3)) (ht : (pc : Int) + off = (tgt : Int))
    (kt : x < 0 → xA p l e R s m args below meth c D A nL cells slots Q tgt lv st ws) (kf : ¬ x < 0 → xA p l e R s m args below meth c D A nL cells slots Q (pc + 3) lv st ws) : xA p l e R s m args below meth c D A nL cells slots Q pc lv (.int x :: st) ws := fun H locs ls hP hD hS hl => lv_if_lt C.1 C.2.1 hd ht (fun h => kt h H locs ls hP hD hS hl) (fun h => kf h H locs ls hP hD hS hl)
theorem x_icmp_lt (C : xC p s m args meth c cc nL own Ts D tys A ret) {x y : Int32} {off : Int} (tgt : Nat) (hd : decode cc pc = .ok (.if_icmp .lt off, 3)) (ht : (pc : Int) + off = (tgt : Int))
    (kt : x < y → xA p l e R s m args below meth c D A nL cells slots Q tgt lv st ws) (kf : ¬ x < y → xA p l e R s m args below meth c D A nL cells slots Q (pc + 3) lv st ws) : xA p l e R s m args below meth c D A nL cells slots Q pc lv (.int y :: .int x :: st) ws := fun H locs ls hP hD hS hl => lv_icmp_lt C.1 C.2.1 hd ht (fun h => kt h H locs ls hP hD hS hl) (fun h => kf h H locs ls hP hD hS hl)
theorem x_if_ge (C : xC p s m args meth c cc nL own Ts D tys A ret) {x : Int32} {off : Int} (tgt : Nat) (hd : decode cc pc = .ok (.ifCond .ge off, 3)) (ht : (pc : Int) + off = (tgt : Int))
    (kt : 0 ≤ x → xA p l e R s m args below meth c D A nL cells slots Q tgt lv st ws) (kf : ¬ 0 ≤ x → xA p l e R s m args below meth c D A nL cells slots Q (pc + 3) lv st ws) : xA p l e R s m args below meth c D A nL cells slots Q pc lv (.int x :: st) ws := fun H locs ls hP hD hS hl => lv_if_ge C.1 C.2.1 hd ht (fun h => kt h H locs ls hP hD hS hl) (fun h => kf h H locs ls hP hD hS hl)
theorem x_icmp_ge (C : xC p s m args meth c cc nL own Ts D tys A ret) {x y : Int32} {off : Int} (tgt : Nat) (hd : decode cc pc = .ok (.if_icmp .ge off, 3)) (ht : (pc : Int) + off = (tgt : Int))
    (kt : y ≤ x → xA p l e R s m args below meth c D A nL cells slots Q tgt lv st ws) (kf : ¬ y ≤ x → xA p l e R s m args below meth c D A nL cells slots Q (pc + 3) lv st ws) : xA p l e R s m args below meth c D A nL cells slots Q pc lv (.int y :: .int x :: st) ws := fun H locs ls hP hD hS hl => lv_icmp_ge C.1 C.2.1 hd ht (fun h => kt h H locs ls hP hD hS hl) (fun h => kf h H locs ls hP hD hS hl)
theorem x_if_gt (C : xC p s m args meth c cc nL own Ts D tys A ret) {x : Int32} {off : Int} (tgt : Nat) (hd : decode cc pc = .ok (.ifCond .gt off, 3)) (ht : (pc : Int) + off = (tgt : Int))
    (kt : 0 < x → xA p l e R s m args below meth c D A nL cells slots Q tgt lv st ws) (kf : ¬ 0 < x → xA p l e R s m args below meth c D A nL cells slots Q (pc + 3) lv st ws) : xA p l e R s m args below meth c D A nL cells slots Q pc lv (.int x :: st) ws := fun H locs ls hP hD hS hl => lv_if_gt C.1 C.2.1 hd ht (fun h => kt h H locs ls hP hD hS hl) (fun h => kf h H locs ls hP hD hS hl)
theorem x_icmp_gt (C : xC p s m args meth c cc nL own Ts D tys A ret) {x y : Int32} {off : Int} (tgt : Nat) (hd : decode cc pc = .ok (.if_icmp .gt off, 3)) (ht : (pc : Int) + off = (tgt : Int))
    (kt : y < x → xA p l e R s m args below meth c D A nL cells slots Q tgt lv st ws) (kf : ¬ y < x → xA p l e R s m args below meth c D A nL cells slots Q (pc + 3) lv st ws) : xA p l e R s m args below meth c D A nL cells slots Q pc lv (.int y :: .int x :: st) ws := fun H locs ls hP hD hS hl => lv_icmp_gt C.1 C.2.1 hd ht (fun h => kt h H locs ls hP hD hS hl) (fun h => kf h H locs ls hP hD hS hl)
theorem x_if_le (C : xC p s m args meth c cc nL own Ts D tys A ret) {x : Int32} {off : Int} (tgt : Nat) (hd : decode cc pc = .ok (.ifCond .le off, 3)) (ht : (pc : Int) + off = (tgt : Int))
    (kt : x ≤ 0 → xA p l e R s m args below meth c D A nL cells slots Q tgt lv st ws) (kf : ¬ x ≤ 0 → xA p l e R s m args below meth c D A nL cells slots Q (pc + 3) lv st ws) : xA p l e R s m args below meth c D A nL cells slots Q pc lv (.int x :: st) ws := fun H locs ls hP hD hS hl => lv_if_le C.1 C.2.1 hd ht (fun h => kt h H locs ls hP hD hS hl) (fun h => kf h H locs ls hP hD hS hl)
theorem x_icmp_le (C : xC p s m args meth c cc nL own Ts D tys A ret) {x y : Int32} {off : Int} (tgt : Nat) (hd : decode cc pc = .ok (.if_icmp .le off, 3)) (ht : (pc : Int) + off = (tgt : Int))
    (kt : x ≤ y → xA p l e R s m args below meth c D A nL cells slots Q tgt lv st ws) (kf : ¬ x ≤ y → xA p l e R s m args below meth c D A nL cells slots Q (pc + 3) lv st ws) : xA p l e R s m args below meth c D A nL cells slots Q pc lv (.int y :: .int x :: st) ws := fun H locs ls hP hD hS hl => lv_icmp_le C.1 C.2.1 hd ht (fun h => kt h H locs ls hP hD hS hl) (fun h => kf h H locs ls hP hD hS hl)
theorem x_goto (C : xC p s m args meth c cc nL own Ts D tys A ret) {off : Int} (tgt : Nat) (hd : decode cc pc = .ok (.goto off, 3)) (ht : (pc : Int) + off = (tgt : Int)) (k : xA p l e R s m args below meth c D A nL cells slots Q tgt lv st ws) : xA p l e R s m args below meth c D A nL cells slots Q pc lv st ws := fun H locs ls hP hD hS hl => lv_goto C.1 C.2.1 hd ht (k H locs ls hP hD hS hl)
theorem x_ldc (C : xC p s m args meth c cc nL own Ts D tys A ret) {index : Nat} {v : Int32} (hc : Cond.constant own index v ∈ Ts) (hd : decode cc pc = .ok (.ldc index, 2)) (k : xA p l e R s m args below meth c D A nL cells slots Q (pc + 2) lv (.int v :: st) ws) : xA p l e R s m args below meth c D A nL cells slots Q pc lv st ws := fun H locs ls hP hD hS hl => lv_ldc C.1 C.2.1 C.2.2.2.1 (C.2.2.2.2.1 _ hc) hd (k H locs ls hP hD hS hl)
theorem x_min (C : xC p s m args meth c cc nL own Ts D tys A ret) {index : Nat} {x y v : Int32} (h1 : Cond.methodLink own index Lib.Math.min.name ∈ Ts) (h2 : Cond.static Lib.Math.min.name ∈ Ts) (h3 : Cond.initialized "java/lang/Math" ∈ Ts) (h4 : Cond.code Lib.Math.min.name Lib.Math.min.code 2 (some .int) ∈ Ts)
    (hr : 1 ≤ R.frames ∧ (st.map fun v => v.category).sum + 13 ≤ R.locals ∧ cells ≤ R.cells ∧ slots ≤ R.slots) (hd : decode cc pc = .ok (.invokestatic index, 3)) (hv : (if y < x then y else x) = v)
    (k : xA p l e R s m args below meth c D A nL cells slots Q (pc + 3) lv (.int v :: st) ws) : xA p l e R s m args below meth c D A nL cells slots Q pc lv (.int y :: .int x :: st) ws := fun H locs ls hP hD hS hl => va_mmin C.1 C.2.1 (C.2.2.1.trans hl.1.symm) C.2.2.2.1 (C.2.2.2.2.1 _ h1) (C.2.2.2.2.1 _ h2) (C.2.2.2.2.1 _ h3) (C.2.2.2.2.1 _ h4) hr.1 hr.2.1 hr.2.2.1 hr.2.2.2 hd (hv ▸ k H locs ls hP hD hS hl)
theorem x_max (C : xC p s m args meth c cc nL own Ts D tys A ret) {index : Nat} {x y v : Int32} (h1 : Cond.methodLink own index Lib.Math.max.name ∈ Ts) (h2 : Cond.static Lib.Math.max.name ∈ Ts) (h3 : Cond.initialized "java/lang/Math" ∈ Ts) (h4 : Cond.code Lib.Math.max.name Lib.Math.max.code 2 (some .int) ∈ Ts)
    (hr : 1 ≤ R.frames ∧ (st.map fun v => v.category).sum + 13 ≤ R.locals ∧ cells ≤ R.cells ∧ slots ≤ R.slots) (hd : decode cc pc = .ok (.invokestatic index, 3)) (hv : (if x < y then y else x) = v)
    (k : xA p l e R s m args below meth c D A nL cells slots Q (pc + 3) lv (.int v :: st) ws) : xA p l e R s m args below meth c D A nL cells slots Q pc lv (.int y :: .int x :: st) ws := fun H locs ls hP hD hS hl => va_mmax C.1 C.2.1 (C.2.2.1.trans hl.1.symm) C.2.2.2.1 (C.2.2.2.2.1 _ h1) (C.2.2.2.2.1 _ h2) (C.2.2.2.2.1 _ h3) (C.2.2.2.2.1 _ h4) hr.1 hr.2.1 hr.2.2.1 hr.2.2.2 hd (hv ▸ k H locs ls hP hD hS hl)

theorem x_get (C : xC p s m args meth c cc nL own Ts D tys A ret) {n : Nat} {a : Nat → Nat} {E : Nat → va_E} {X : va_W} {p0 ci N index : Nat} {Cn ref : String} {T : u_T} {fs : List Value} {v : Value} (hp : p0 < n) (he : E p0 = .inr (ci, fs)) (hc : vwCl[ci]? = some (Cn, T, N)) (k : Nat) (hk : k < N) (hin : ∀ w ∈ u_ws Cn T N, w ∈ Ts) (hlink : Cond.fieldLink own index ref (T k).2.1 (T k).2.2.1 ∈ Ts) (hsame : (T k).1 = ref) (hv : fs[k]? = some v) (hd : decode cc pc = .ok (.getfield index, 3))
    (kk : xA p l e R s m args below meth c D A nL cells slots Q (pc + 3) lv (v :: st) (xw n a E ++ X)) : xA p l e R s m args below meth c D A nL cells slots Q pc lv (.ref (a p0) :: st) (xw n a E ++ X) :=
  fun H locs ls hP hD hS hl => va_get C.1 C.2.1 C.2.2.2.2.1 hin C.2.2.2.1 C.2.2.2.2.2.1 hP p0 ((xw_get hp).trans (by rw [he])) hc k hk (C.2.2.2.2.1 _ hlink) (by rw [← hsame]; exact fun _ h9 => h9) hv hd (kk H locs ls hP hD hS hl)
theorem x_put (C : xC p s m args meth c cc nL own Ts D tys A ret) {n : Nat} {a : Nat → Nat} {E E' : Nat → va_E} {X : va_W} {p0 ci N index : Nat} {Cn ref : String} {T : u_T} {fs : List Value} {v : Value} {ty : FieldType} (ty0 : Nat → FieldType) (hty : ∀ k, k < N → parseFieldDescriptor (T k).2.2.1 = some (ty0 k)) (hnm : ∀ a, a < N → ∀ b, b < N → a ≠ b → (T a).2.1 ≠ (T b).2.1) (hp : p0 < n) (he : E p0 = .inr (ci, fs)) (hc : vwCl[ci]? = some (Cn, T, N)) (k : Nat) (hk : k < N) (hin : ∀ w ∈ u_ws Cn T N, w ∈ Ts) (hlink : Cond.fieldLink own index ref (T k).2.1 (T k).2.2.1 ∈ Ts) (hsame : (T k).1 = ref) (hfin : (T k).2.2.2 = false) (htk : ty0 k = ty) (hn : narrow ty v = v) (hfit : fits ty v = true) (hlen : k < fs.length) (hd : decode cc pc = .ok (.putfield index, 3))
    (hE : E' p0 = .inr (ci, fs.set k v)) (ho : ∀ q, q ≠ p0 → E' q = E q)
    (kk : xA p l e R s m args below meth c D A nL cells slots Q (pc + 3) lv st (xw n a E' ++ X)) : xA p l e R s m args below meth c D A nL cells slots Q pc lv (v :: .ref (a p0) :: st) (xw n a E ++ X) :=
  fun H locs ls hP hD hS hl => va_put C.1 C.2.1 C.2.2.2.2.1 hin ty0 hty hnm C.2.2.2.1 C.2.2.2.2.2.1 hP hD hS p0 ((xw_get hp).trans (by rw [he])) hc k hk (C.2.2.2.2.1 _ hlink) (by rw [← hsame]; exact fun _ h9 => h9) hfin (by rw [hty k hk, htk]) hn hfit hlen hd (fun H1 locs1 hP1 hD1 hS1 => kk H1 locs1 ls (xw_set hp hE ho ▸ hP1) (xw_set hp hE ho ▸ hD1) hS1 hl)
theorem x_putF (C : xC p s m args meth c cc nL own Ts D tys A ret) {n : Nat} {a : Nat → Nat} {E E' : Nat → va_E} {X : va_W} {p0 ci N index : Nat} {Cn ref : String} {T : u_T} {fs : List Value} {v : Value} {ty : FieldType} (ty0 : Nat → FieldType) (hty : ∀ k, k < N → parseFieldDescriptor (T k).2.2.1 = some (ty0 k)) (hnm : ∀ a, a < N → ∀ b, b < N → a ≠ b → (T a).2.1 ≠ (T b).2.1) (hp : p0 < n) (he : E p0 = .inr (ci, fs)) (hc : vwCl[ci]? = some (Cn, T, N)) (k : Nat) (hk : k < N) (hin : ∀ w ∈ u_ws Cn T N, w ∈ Ts) (hlink : Cond.fieldLink own index ref (T k).2.1 (T k).2.2.1 ∈ Ts) (hsame : (T k).1 = ref) (hfin : (T k).2.2.2 = true) (hini : meth.name = "<init>") (hown : (T k).1 = own) (htk : ty0 k = ty) (hn : narrow ty v = v) (hfit : fits ty v = true) (hlen : k < fs.length) (hd : decode cc pc = .ok (.putfield index, 3))
    (hE : E' p0 = .inr (ci, fs.set k v)) (ho : ∀ q, q ≠ p0 → E' q = E q)
    (kk : xA p l e R s m args below meth c D A nL cells slots Q (pc + 3) lv st (xw n a E' ++ X)) : xA p l e R s m args below meth c D A nL cells slots Q pc lv (v :: .ref (a p0) :: st) (xw n a E ++ X) :=
  fun H locs ls hP hD hS hl => va_putF C.1 C.2.1 C.2.2.2.2.1 hin ty0 hty hnm C.2.2.2.1 C.2.2.2.2.2.1 hP hD hS p0 ((xw_get hp).trans (by rw [he])) hc k hk (C.2.2.2.2.1 _ hlink) (by rw [← hsame]; exact fun _ h9 => h9) hfin hini hown (by rw [hty k hk, htk]) hn hfit hlen hd (fun H1 locs1 hP1 hD1 hS1 => kk H1 locs1 ls (xw_set hp hE ho ▸ hP1) (xw_set hp hE ho ▸ hD1) hS1 hl)
theorem x_iald (C : xC p s m args meth c cc nL own Ts D tys A ret) {n : Nat} {a : Nat → Nat} {E : Nat → va_E} {X : va_W} {p0 t0 len : Nat} {cA : ClassId} {f : Nat → Int32} {i v : Int32} (hp : p0 < n) (he : E p0 = .inl (cA, len, .inl f)) (ht : tys[t0]? = some (cA, .int)) (hi : vp_in i len) (hv : f i.toNatClampNeg = v) (hd : decode cc pc = .ok (.iaload, 1))
    (kk : xA p l e R s m args below meth c D A nL cells slots Q (pc + 1) lv (.int v :: st) (xw n a E ++ X)) : xA p l e R s m args below meth c D A nL cells slots Q pc lv (.int i :: .ref (a p0) :: st) (xw n a E ++ X) :=
  fun H locs ls hP hD hS hl => va_iald C.1 C.2.1 C.2.2.2.2.2.1 hP p0 t0 ((xw_get hp).trans (by rw [he])) ht hi hd (hv ▸ kk H locs ls hP hD hS hl)
theorem x_zald (C : xC p s m args meth c cc nL own Ts D tys A ret) {n : Nat} {a : Nat → Nat} {E : Nat → va_E} {X : va_W} {p0 t0 len : Nat} {cA : ClassId} {f : Nat → Int32} {i v : Int32} (hp : p0 < n) (he : E p0 = .inl (cA, len, .inl f)) (ht : tys[t0]? = some (cA, .boolean)) (hi : vp_in i len) (hv : f i.toNatClampNeg = v) (hd : decode cc pc = .ok (.baload, 1))
    (kk : xA p l e R s m args below meth c D A nL cells slots Q (pc + 1) lv (.int v :: st) (xw n a E ++ X)) : xA p l e R s m args below meth c D A nL cells slots Q pc lv (.int i :: .ref (a p0) :: st) (xw n a E ++ X) :=
  fun H locs ls hP hD hS hl => va_zald C.1 C.2.1 C.2.2.2.2.2.1 hP p0 t0 ((xw_get hp).trans (by rw [he])) ht hi hd (hv ▸ kk H locs ls hP hD hS hl)
theorem x_iast (C : xC p s m args meth c cc nL own Ts D tys A ret) {n : Nat} {a : Nat → Nat} {E E' : Nat → va_E} {X : va_W} {p0 t0 len : Nat} {cA : ClassId} {f : Nat → Int32} {i x : Int32} (hp : p0 < n) (he : E p0 = .inl (cA, len, .inl f)) (ht : tys[t0]? = some (cA, .int)) (hi : vp_in i len) (hd : decode cc pc = .ok (.iastore, 1))
    (hE : E' p0 = .inl (cA, len, .inl (upd f i.toNatClampNeg x))) (ho : ∀ q, q ≠ p0 → E' q = E q)
    (kk : xA p l e R s m args below meth c D A nL cells slots Q (pc + 1) lv st (xw n a E' ++ X)) : xA p l e R s m args below meth c D A nL cells slots Q pc lv (.int x :: .int i :: .ref (a p0) :: st) (xw n a E ++ X) :=
  fun H locs ls hP hD hS hl => va_iast C.1 C.2.1 C.2.2.2.2.2.1 hP hD hS p0 t0 ((xw_get hp).trans (by rw [he])) ht hi hd (fun H1 locs1 hP1 hD1 hS1 => kk H1 locs1 ls (xw_set hp hE ho ▸ hP1) (xw_set hp hE ho ▸ hD1) hS1 hl)
theorem x_zast (C : xC p s m args meth c cc nL own Ts D tys A ret) {n : Nat} {a : Nat → Nat} {E E' : Nat → va_E} {X : va_W} {p0 t0 len : Nat} {cA : ClassId} {f : Nat → Int32} {i x : Int32} (hp : p0 < n) (he : E p0 = .inl (cA, len, .inl f)) (ht : tys[t0]? = some (cA, .boolean)) (hi : vp_in i len) (hx : vp_nar .boolean x = x) (hd : decode cc pc = .ok (.bastore, 1))
    (hE : E' p0 = .inl (cA, len, .inl (upd f i.toNatClampNeg x))) (ho : ∀ q, q ≠ p0 → E' q = E q)
    (kk : xA p l e R s m args below meth c D A nL cells slots Q (pc + 1) lv st (xw n a E' ++ X)) : xA p l e R s m args below meth c D A nL cells slots Q pc lv (.int x :: .int i :: .ref (a p0) :: st) (xw n a E ++ X) :=
  fun H locs ls hP hD hS hl => va_zast C.1 C.2.1 C.2.2.2.2.2.1 hP hD hS p0 t0 ((xw_get hp).trans (by rw [he])) ht hi hd (fun H1 locs1 hP1 hD1 hS1 => by rw [hx] at hP1 hD1; exact kk H1 locs1 ls (xw_set hp hE ho ▸ hP1) (xw_set hp hE ho ▸ hD1) hS1 hl)
theorem x_aald (C : xC p s m args meth c cc nL own Ts D tys A ret) {n : Nat} {a : Nat → Nat} {E : Nat → va_E} {X : va_W} {p0 t0 len v : Nat} {cA : ClassId} {f : Nat → Option Nat} {i : Int32} {ty : FieldType} (hp : p0 < n) (he : E p0 = .inl (cA, len, .inr (.inr (.inr (.inr f))))) (ht : tys[t0]? = some (cA, ty)) (hty : ty.isReference = true) (hi : vp_in i len) (hv : f i.toNatClampNeg = some v) (hd : decode cc pc = .ok (.aaload, 1))
    (kk : xA p l e R s m args below meth c D A nL cells slots Q (pc + 1) lv (.ref v :: st) (xw n a E ++ X)) : xA p l e R s m args below meth c D A nL cells slots Q pc lv (.int i :: .ref (a p0) :: st) (xw n a E ++ X) := by
  intro H locs ls hP hD hS hl
  have hlt : i.toNatClampNeg < len := Nat.not_le.mp fun q => hi (Or.inr q)
  have ha := hP p0 _ ((xw_get hp).trans (by rw [he]))
  exact W.aald (v := .ref v) (ty := ty) C.1 C.2.1 ha ((C.2.2.2.2.2.1.2 t0 _ ht).1 len (fun j => va_rf (f j))) hty (fun q => by cases q) (by show ¬ (i < 0 ∨ (arrV _ _ _).slots.size ≤ _); rw [arrV_size]; exact hi) (by show (arrV _ _ _).slots[_]? = _; rw [arrV_read _ _ hlt, hv]; rfl) rfl rfl hd (kk H locs ls hP hD hS hl)
end XK
/-! ===== END kernel ===== -/
