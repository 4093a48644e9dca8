/-! ===== BEGIN inits: constructors of devices and campaigns ===== -/
section INI
variable {p : Program} {l : Launch} {e : Env} {R : Room} {s : State} {m : MethodId} {args : Array Value} {below : List Frame} {meth : Method} {c : Code} {cells slots : Nat} {Q : State → Prop} {cc : ByteArray} {nL : Nat} {own : String} {Ts : List Cond} {D : va_G} {A : Nat → Prop} {ret : Option FieldType} {pc : Nat} {lv : List (Nat × Value)} {st : List Value} {tys : List (ClassId × FieldType)} {ws : va_W}
theorem x_objInit (C : xC p s m args meth c cc nL own Ts D tys A ret) {idx q : Nat} (h1 : Cond.methodLink own idx Lib.objectInit ∈ Ts) (h2 : Cond.instanceMethod Lib.objectInit ∈ Ts) (h3 : Cond.code Lib.objectInit ⟨#[0xb1]⟩ 1 none ∈ Ts) (hd : decode cc pc = .ok (.invokespecial idx, 3)) (hf : 1 ≤ R.frames) (hr : (st.map fun v => v.category).sum + 12 ≤ R.locals)
    (kk : xA p l e R s m args below meth c D A nL cells slots Q (pc + 3) lv st ws) : xA p l e R s m args below meth c D A nL cells slots Q pc lv (.ref q :: st) ws :=
  fun H locs ls hP hD hS hl => W.objInit C.1 C.2.1 C.2.2.2.1 (C.2.2.2.2.1 _ h1) (C.2.2.2.2.1 _ h2) (C.2.2.2.2.1 _ h3) rfl (by rw [C.2.2.1]; exact hl.1) rfl hd hf (by show 2 * 0 + _ + 12 ≤ _; omega) (kk H locs ls hP hD hS hl)
theorem x_putO (C : xC p s m args meth c cc nL own Ts D tys A ret) {X : va_W} {q ci N index : Nat} {Cn ref : String} {T : u_T} {fs : List Value} {v : Value} {ty : FieldType} (ty0 : Nat → FieldType) (hty : ∀ k, k < N → parseFieldDescriptor (T k).2.2.1 = some (ty0 k)) (hnm : ∀ a, a < N → ∀ b, b < N → a ≠ b → (T a).2.1 ≠ (T b).2.1) (hc : vwCl[ci]? = some (Cn, T, N)) (k : Nat) (hk : k < N) (hin : ∀ w ∈ u_ws Cn T N, w ∈ Ts) (hlink : Cond.fieldLink own index ref (T k).2.1 (T k).2.2.1 ∈ Ts) (hsame : (T k).1 = ref) (hfin : (T k).2.2.2 = false) (htk : ty0 k = ty) (hn : narrow ty v = v) (hfit : fits ty v = true) (hlen : k < fs.length) (hd : decode cc pc = .ok (.putfield index, 3))
    (kk : xA p l e R s m args below meth c D A nL cells slots Q (pc + 3) lv st ((q, .inr (ci, fs.set k v)) :: X)) : xA p l e R s m args below meth c D A nL cells slots Q pc lv (v :: .ref q :: st) ((q, .inr (ci, fs)) :: X) :=
  fun H locs ls hP hD hS hl => va_put C.1 C.2.1 C.2.2.2.2.1 hin ty0 hty hnm C.2.2.2.1 C.2.2.2.2.2.1 hP hD hS 0 rfl hc k hk (C.2.2.2.2.1 _ hlink) (by rw [← hsame]; exact fun _ h9 => h9) hfin (by rw [hty k hk, htk]) hn hfit hlen hd (fun H1 locs1 hP1 hD1 hS1 => kk H1 locs1 ls hP1 hD1 hS1 hl)
theorem x_putOF (C : xC p s m args meth c cc nL own Ts D tys A ret) {X : va_W} {q ci N index : Nat} {Cn ref : String} {T : u_T} {fs : List Value} {v : Value} {ty : FieldType} (ty0 : Nat → FieldType) (hty : ∀ k, k < N → parseFieldDescriptor (T k).2.2.1 = some (ty0 k)) (hnm : ∀ a, a < N → ∀ b, b < N → a ≠ b → (T a).2.1 ≠ (T b).2.1) (hc : vwCl[ci]? = some (Cn, T, N)) (k : Nat) (hk : k < N) (hin : ∀ w ∈ u_ws Cn T N, w ∈ Ts) (hlink : Cond.fieldLink own index ref (T k).2.1 (T k).2.2.1 ∈ Ts) (hsame : (T k).1 = ref) (hfin : (T k).2.2.2 = true) (hini : meth.name = "<init>") (hown : (T k).1 = own) (htk : ty0 k = ty) (hn : narrow ty v = v) (hfit : fits ty v = true) (hlen : k < fs.length) (hd : decode cc pc = .ok (.putfield index, 3))
    (kk : xA p l e R s m args below meth c D A nL cells slots Q (pc + 3) lv st ((q, .inr (ci, fs.set k v)) :: X)) : xA p l e R s m args below meth c D A nL cells slots Q pc lv (v :: .ref q :: st) ((q, .inr (ci, fs)) :: X) :=
  fun H locs ls hP hD hS hl => va_putF C.1 C.2.1 C.2.2.2.2.1 hin ty0 hty hnm C.2.2.2.1 C.2.2.2.2.2.1 hP hD hS 0 rfl hc k hk (C.2.2.2.2.1 _ hlink) (by rw [← hsame]; exact fun _ h9 => h9) hfin hini hown (by rw [hty k hk, htk]) hn hfit hlen hd (fun H1 locs1 hP1 hD1 hS1 => kk H1 locs1 ls hP1 hD1 hS1 hl)
end INI
def dev0 (n : Int32) : Nat → Int32
  | 0 => n
  | 3 => 100
  | 5 => 23
  | 7 => -1
  | _ => 0
def cam0 (n : Int32) : Nat → Int32
  | 0 => n
  | 4 => 10
  | 5 => 50
  | 6 => 3
  | 7 => 200
  | 8 => 1
  | _ => 0
def rmX1_init : Room := { frames := 1, cells := 0, slots := 0, locals := 40 }
set_option maxHeartbeats 4000000 in
set_option maxRecDepth 100000 in
theorem k_X1_init (l : Launch) (D : va_G) (tys : List (ClassId × FieldType)) (A : Nat → Prop) (X : va_W) (q : Nat) (n : Int32) : Met l yX1_init wsX1_init rmX1_init (va_Pc [.ref q, .int n] (xPre D tys A ((q, .inr (1, dl (fun _ => 0))) :: X))) (va_Qv (fun (_ : Unit) => True) (fun _ t => xPost D tys A ((q, .inr (1, dl (dev0 n))) :: X) t) A) 0 0 A := by
  have hin : ∀ w ∈ wsX10, w ∈ wsX1_init := fun w h => List.mem_cons_of_mem _ (List.mem_append_right _ h)
  refine x_met (own := RX1) (by decide) rfl rfl (Nat.le_of_ble_eq_true rfl) rfl ?_
  intro p e s m below meth c hnm C hE
  refine x_aload_n (i := 0) C dX1_init_0 rfl rfl ?_
  refine x_objInit C (List.mem_of_getElem? (i := 1) rfl) (List.mem_of_getElem? (i := 2) rfl) (List.mem_of_getElem? (i := 3) rfl) dX1_init_1 (Nat.le_of_ble_eq_true rfl) (Nat.le_of_ble_eq_true rfl) ?_
  refine x_aload_n (i := 0) C dX1_init_4 rfl rfl ?_
  refine x_iconst (v := 0) C dX1_init_5 (by decide) ?_
  refine x_putO C tyX1 tyX1_ok nmX1 rfl 1 (by decide) hin (List.mem_of_getElem? (i := 4) rfl) rfl rfl (show tyX1 1 = .int from rfl) rfl rfl (Nat.le_of_ble_eq_true rfl) dX1_init_6 ?_
  refine x_aload_n (i := 0) C dX1_init_9 rfl rfl ?_
  refine x_iconst (v := 0) C dX1_init_10 (by decide) ?_
  refine x_putO C tyX1 tyX1_ok nmX1 rfl 2 (by decide) hin (List.mem_of_getElem? (i := 5) rfl) rfl rfl (show tyX1 2 = .int from rfl) rfl rfl (Nat.le_of_ble_eq_true rfl) dX1_init_11 ?_
  refine x_aload_n (i := 0) C dX1_init_14 rfl rfl ?_
  refine x_bipush (v := 100) C dX1_init_15 (by decide) ?_
  refine x_putO C tyX1 tyX1_ok nmX1 rfl 3 (by decide) hin (List.mem_of_getElem? (i := 6) rfl) rfl rfl (show tyX1 3 = .int from rfl) rfl rfl (Nat.le_of_ble_eq_true rfl) dX1_init_17 ?_
  refine x_aload_n (i := 0) C dX1_init_20 rfl rfl ?_
  refine x_iconst (v := 0) C dX1_init_21 (by decide) ?_
  refine x_putO C tyX1 tyX1_ok nmX1 rfl 4 (by decide) hin (List.mem_of_getElem? (i := 7) rfl) rfl rfl (show tyX1 4 = .int from rfl) rfl rfl (Nat.le_of_ble_eq_true rfl) dX1_init_22 ?_
  refine x_aload_n (i := 0) C dX1_init_25 rfl rfl ?_
  refine x_bipush (v := 23) C dX1_init_26 (by decide) ?_
  refine x_putO C tyX1 tyX1_ok nmX1 rfl 5 (by decide) hin (List.mem_of_getElem? (i := 8) rfl) rfl rfl (show tyX1 5 = .int from rfl) rfl rfl (Nat.le_of_ble_eq_true rfl) dX1_init_28 ?_
  refine x_aload_n (i := 0) C dX1_init_31 rfl rfl ?_
  refine x_iconst (v := 0) C dX1_init_32 (by decide) ?_
  refine x_putO C tyX1 tyX1_ok nmX1 rfl 6 (by decide) hin (List.mem_of_getElem? (i := 9) rfl) rfl rfl (show tyX1 6 = .int from rfl) rfl rfl (Nat.le_of_ble_eq_true rfl) dX1_init_33 ?_
  refine x_aload_n (i := 0) C dX1_init_36 rfl rfl ?_
  refine x_iconst (v := (-1)) C dX1_init_37 (by decide) ?_
  refine x_putO C tyX1 tyX1_ok nmX1 rfl 7 (by decide) hin (List.mem_of_getElem? (i := 10) rfl) rfl rfl (show tyX1 7 = .int from rfl) rfl rfl (Nat.le_of_ble_eq_true rfl) dX1_init_38 ?_
  refine x_aload_n (i := 0) C dX1_init_41 rfl rfl ?_
  refine x_iconst (v := 0) C dX1_init_42 (by decide) ?_
  refine x_putO C tyX1 tyX1_ok nmX1 rfl 8 (by decide) hin (List.mem_of_getElem? (i := 11) rfl) rfl rfl (show tyX1 8 = .int from rfl) rfl rfl (Nat.le_of_ble_eq_true rfl) dX1_init_43 ?_
  refine x_aload_n (i := 0) C dX1_init_46 rfl rfl ?_
  refine x_iload_n (i := 1) C dX1_init_47 rfl rfl ?_
  refine x_putOF C tyX1 tyX1_ok nmX1 rfl 0 (by decide) hin (List.mem_of_getElem? (i := 12) rfl) rfl rfl hnm rfl (show tyX1 0 = .int from rfl) rfl rfl (Nat.le_of_ble_eq_true rfl) dX1_init_48 ?_
  exact x_vret (σ := Unit) (Wf := fun (_ : Unit) => ((q, .inr (1, dl (dev0 n))) :: X : va_W)) (u := ()) C dX1_init_51 ⟨Nat.le_refl _, Nat.le_refl _⟩ trivial
def rmX0_init : Room := { frames := 1, cells := 0, slots := 0, locals := 40 }
set_option maxHeartbeats 4000000 in
set_option maxRecDepth 100000 in
theorem k_X0_init (l : Launch) (D : va_G) (tys : List (ClassId × FieldType)) (A : Nat → Prop) (X : va_W) (q : Nat) (n : Int32) : Met l yX0_init wsX0_init rmX0_init (va_Pc [.ref q, .int n] (xPre D tys A ((q, .inr (0, kl (fun _ => 0))) :: X))) (va_Qv (fun (_ : Unit) => True) (fun _ t => xPost D tys A ((q, .inr (0, kl (cam0 n))) :: X) t) A) 0 0 A := by
  have hin : ∀ w ∈ wsX00, w ∈ wsX0_init := fun w h => List.mem_cons_of_mem _ (List.mem_append_right _ h)
  refine x_met (own := RX0) (by decide) rfl rfl (Nat.le_of_ble_eq_true rfl) rfl ?_
  intro p e s m below meth c hnm C hE
  refine x_aload_n (i := 0) C dX0_init_0 rfl rfl ?_
  refine x_objInit C (List.mem_of_getElem? (i := 1) rfl) (List.mem_of_getElem? (i := 2) rfl) (List.mem_of_getElem? (i := 3) rfl) dX0_init_1 (Nat.le_of_ble_eq_true rfl) (Nat.le_of_ble_eq_true rfl) ?_
  refine x_aload_n (i := 0) C dX0_init_4 rfl rfl ?_
  refine x_iconst (v := 0) C dX0_init_5 (by decide) ?_
  refine x_putO C tyX0 tyX0_ok nmX0 rfl 1 (by decide) hin (List.mem_of_getElem? (i := 4) rfl) rfl rfl (show tyX0 1 = .int from rfl) rfl rfl (Nat.le_of_ble_eq_true rfl) dX0_init_6 ?_
  refine x_aload_n (i := 0) C dX0_init_9 rfl rfl ?_
  refine x_iconst (v := 0) C dX0_init_10 (by decide) ?_
  refine x_putO C tyX0 tyX0_ok nmX0 rfl 2 (by decide) hin (List.mem_of_getElem? (i := 5) rfl) rfl rfl (show tyX0 2 = .int from rfl) rfl rfl (Nat.le_of_ble_eq_true rfl) dX0_init_11 ?_
  refine x_aload_n (i := 0) C dX0_init_14 rfl rfl ?_
  refine x_iconst (v := 0) C dX0_init_15 (by decide) ?_
  refine x_putO C tyX0 tyX0_ok nmX0 rfl 3 (by decide) hin (List.mem_of_getElem? (i := 6) rfl) rfl rfl (show tyX0 3 = .int from rfl) rfl rfl (Nat.le_of_ble_eq_true rfl) dX0_init_16 ?_
  refine x_aload_n (i := 0) C dX0_init_19 rfl rfl ?_
  refine x_bipush (v := 10) C dX0_init_20 (by decide) ?_
  refine x_putO C tyX0 tyX0_ok nmX0 rfl 4 (by decide) hin (List.mem_of_getElem? (i := 7) rfl) rfl rfl (show tyX0 4 = .int from rfl) rfl rfl (Nat.le_of_ble_eq_true rfl) dX0_init_22 ?_
  refine x_aload_n (i := 0) C dX0_init_25 rfl rfl ?_
  refine x_bipush (v := 50) C dX0_init_26 (by decide) ?_
  refine x_putO C tyX0 tyX0_ok nmX0 rfl 5 (by decide) hin (List.mem_of_getElem? (i := 8) rfl) rfl rfl (show tyX0 5 = .int from rfl) rfl rfl (Nat.le_of_ble_eq_true rfl) dX0_init_28 ?_
  refine x_aload_n (i := 0) C dX0_init_31 rfl rfl ?_
  refine x_iconst (v := 3) C dX0_init_32 (by decide) ?_
  refine x_putO C tyX0 tyX0_ok nmX0 rfl 6 (by decide) hin (List.mem_of_getElem? (i := 9) rfl) rfl rfl (show tyX0 6 = .int from rfl) rfl rfl (Nat.le_of_ble_eq_true rfl) dX0_init_33 ?_
  refine x_aload_n (i := 0) C dX0_init_36 rfl rfl ?_
  refine x_sipush (v := 200) C dX0_init_37 (by decide) ?_
  refine x_putO C tyX0 tyX0_ok nmX0 rfl 7 (by decide) hin (List.mem_of_getElem? (i := 10) rfl) rfl rfl (show tyX0 7 = .int from rfl) rfl rfl (Nat.le_of_ble_eq_true rfl) dX0_init_40 ?_
  refine x_aload_n (i := 0) C dX0_init_43 rfl rfl ?_
  refine x_iconst (v := 1) C dX0_init_44 (by decide) ?_
  refine x_putO C tyX0 tyX0_ok nmX0 rfl 8 (by decide) hin (List.mem_of_getElem? (i := 11) rfl) rfl rfl (show tyX0 8 = .boolean from rfl) rfl rfl (Nat.le_of_ble_eq_true rfl) dX0_init_45 ?_
  refine x_aload_n (i := 0) C dX0_init_48 rfl rfl ?_
  refine x_iconst (v := 0) C dX0_init_49 (by decide) ?_
  refine x_putO C tyX0 tyX0_ok nmX0 rfl 9 (by decide) hin (List.mem_of_getElem? (i := 12) rfl) rfl rfl (show tyX0 9 = .int from rfl) rfl rfl (Nat.le_of_ble_eq_true rfl) dX0_init_50 ?_
  refine x_aload_n (i := 0) C dX0_init_53 rfl rfl ?_
  refine x_iconst (v := 0) C dX0_init_54 (by decide) ?_
  refine x_putO C tyX0 tyX0_ok nmX0 rfl 10 (by decide) hin (List.mem_of_getElem? (i := 13) rfl) rfl rfl (show tyX0 10 = .int from rfl) rfl rfl (Nat.le_of_ble_eq_true rfl) dX0_init_55 ?_
  refine x_aload_n (i := 0) C dX0_init_58 rfl rfl ?_
  refine x_iconst (v := 0) C dX0_init_59 (by decide) ?_
  refine x_putO C tyX0 tyX0_ok nmX0 rfl 11 (by decide) hin (List.mem_of_getElem? (i := 14) rfl) rfl rfl (show tyX0 11 = .int from rfl) rfl rfl (Nat.le_of_ble_eq_true rfl) dX0_init_60 ?_
  refine x_aload_n (i := 0) C dX0_init_63 rfl rfl ?_
  refine x_iconst (v := 0) C dX0_init_64 (by decide) ?_
  refine x_putO C tyX0 tyX0_ok nmX0 rfl 12 (by decide) hin (List.mem_of_getElem? (i := 15) rfl) rfl rfl (show tyX0 12 = .int from rfl) rfl rfl (Nat.le_of_ble_eq_true rfl) dX0_init_65 ?_
  refine x_aload_n (i := 0) C dX0_init_68 rfl rfl ?_
  refine x_iload_n (i := 1) C dX0_init_69 rfl rfl ?_
  refine x_putOF C tyX0 tyX0_ok nmX0 rfl 0 (by decide) hin (List.mem_of_getElem? (i := 16) rfl) rfl rfl hnm rfl (show tyX0 0 = .int from rfl) rfl rfl (Nat.le_of_ble_eq_true rfl) dX0_init_70 ?_
  exact x_vret (σ := Unit) (Wf := fun (_ : Unit) => ((q, .inr (0, kl (cam0 n))) :: X : va_W)) (u := ()) C dX0_init_73 ⟨Nat.le_refl _, Nat.le_refl _⟩ trivial
/-! ===== END inits ===== -/
