/-! ===== BEGIN rinit: the constructor of Ringroll ===== -/
section CBI
variable {p : Program} {l : Launch} {e : Env} {R : Room} {s : State} {m : MethodId} {args : Array Value} {below : List Frame} {meth : Method} {c : Code} {cells slots : Nat} {Q : State → Prop} {cc : ByteArray} {nL : Nat} {own : String} {Ts : List Cond} {D : va_G} {A : Nat → Prop} {ret : Option FieldType} {pc : Nat} {lv : List (Nat × Value)} {st : List Value} {tys : List (ClassId × FieldType)} {X : va_W}
theorem x_cbI {index maxL mc ms : Nat} {y : MethodName} {bytes : ByteArray} {ret : Option FieldType} {ws ws' : List Cond} {rm : Room} (n : Nat) (ht : ∀ w ∈ Ts, w.before args s = true) (hG : GoodIn Ts ws) (hw : ws = Cond.code y bytes maxL ret :: ws') (hrc : rm.cells = mc) (hrs : rm.slots = ms) (hlink : Cond.methodLink own index y ∈ Ts) (hini : Cond.initialized y.cls ∈ Ts)
    (hd : y.cls ≠ "java/lang/invoke/MethodHandle" ∧ y.cls ≠ "java/lang/invoke/VarHandle" ∧ (parseMethodDescriptor y.desc).map (fun d => d.parameters.length) = some n) (hR : rm.frames + 1 ≤ R.frames ∧ 8 + (maxL + 11) + rm.locals ≤ R.locals) : CallB R s args own index y bytes maxL ret ws rm mc ms n := by
  have hc : Cond.code y bytes maxL ret ∈ ws := by rw [hw]; exact List.mem_cons_self
  refine ⟨hrc, hrs, hR.1, hR.2, pay_in ht hG, hc, ht _ (hG _ hc).1, ht _ hini, ⟨hd.1, hd.2.1⟩, fun sig h => ?_, ht _ hlink⟩
  have h2 := hd.2.2
  rw [h] at h2
  exact (Option.some.inj h2).symm
theorem x_getO (C : xC p s m args meth c cc nL own Ts D tys A ret) {q ci N index : Nat} {Cn ref : String} {T : u_T} {fs : List Value} {v : Value} (hc : vwCl[ci]? = some (Cn, T, N)) (k : Nat) (hk : k < N) (hin : ∀ w ∈ u_ws Cn T N, w ∈ Ts) (hlink : Cond.fieldLink own index ref (T k).2.1 (T k).2.2.1 ∈ Ts) (hsame : (T k).1 = ref) (hv : fs[k]? = some v) (hd : decode cc pc = .ok (.getfield index, 3))
    (kk : xA p l e R s m args below meth c D A nL cells slots Q (pc + 3) lv (v :: st) ((q, .inr (ci, fs)) :: X)) : xA p l e R s m args below meth c D A nL cells slots Q pc lv (.ref q :: st) ((q, .inr (ci, fs)) :: X) :=
  fun H locs ls hP hD hS hl => va_get C.1 C.2.1 C.2.2.2.2.1 hin C.2.2.2.1 C.2.2.2.2.2.1 hP 0 rfl hc k hk (C.2.2.2.2.1 _ hlink) (by rw [← hsame]; exact fun _ h9 => h9) hv hd (kk H locs ls hP hD hS hl)
end CBI

def wLm (cy : Nat → ClassId) (a : Nat → Nat) (V : XV) : va_W := wL.map (fun p => (a p, cF cy a p (V p)))
theorem wW_eq (cy : Nat → ClassId) (a : Nat → Nat) (X : va_W) (V : XV) : wW cy a X V = wLm cy a V ++ X := rfl
def devW (i : Nat) (ad : Nat → Nat) : va_W := (List.range i).map (fun j => (ad j, (.inr (1, dl (dev0 (nI j))) : va_E)))
theorem devW_s (i : Nat) (ad : Nat → Nat) (q : Nat) : devW (i + 1) (fun j => if j = i then q else ad j) = devW i ad ++ [(q, .inr (1, dl (dev0 (nI i))))] := by
  unfold devW
  rw [List.range_succ, List.map_append, List.map_singleton]
  congr 1
  · apply List.map_congr_left
    intro j hj
    have := List.mem_range.mp hj
    show ((if j = i then q else ad j), _) = (ad j, _)
    rw [if_neg (by omega)]
  · show [((if i = i then q else ad i), _)] = _
    rw [if_pos rfl]
def camW (i : Nat) (ad : Nat → Nat) : va_W := (List.range i).map (fun j => (ad j, (.inr (0, kl (cam0 (nI j))) : va_E)))
theorem camW_s (i : Nat) (ad : Nat → Nat) (q : Nat) : camW (i + 1) (fun j => if j = i then q else ad j) = camW i ad ++ [(q, .inr (0, kl (cam0 (nI i))))] := by
  unfold camW
  rw [List.range_succ, List.map_append, List.map_singleton]
  congr 1
  · apply List.map_congr_left
    intro j hj
    have := List.mem_range.mp hj
    show ((if j = i then q else ad j), _) = (ad j, _)
    rw [if_neg (by omega)]
  · show [((if i = i then q else ad i), _)] = _
    rw [if_pos rfl]
def refI (i : Nat) (ad : Nat → Nat) : Nat → Option Nat := fun j => if j < i then some (ad j) else none
theorem refI_s (i : Nat) (ad : Nat → Nat) (q : Nat) : va_up (refI i ad) i (some q) = refI (i + 1) (fun j => if j = i then q else ad j) := by
  funext j
  unfold va_up refI
  by_cases h : j = i
  · subst h; simp
  · by_cases h2 : j < i
    · simp [h, h2, show j < i + 1 by omega]
    · simp [h, h2, show ¬ j < i + 1 by omega]
def rB (cy : Nat → ClassId) (a : Nat → Nat) (q q1 q3 q4 : Nat) (f g : Nat → Option Nat) : va_W := (q, .inr (3, [.ref q1, .ref (a 2), .ref q3, .ref q4, .int 0, .int 0, .int 0])) :: (q1, .inl (cy 0, 8, .inl (fillF (fun _ => 0) 15 8))) :: (wLm cy a (measV w0) ++ [(q3, .inl (cy 1, 10, .inr (.inr (.inr (.inr f))))), (q4, .inl (cy 2, 6, .inr (.inr (.inr (.inr g)))))])
theorem wL_9 : ∀ p ∈ wL, p = 2 ∨ (5 ≤ p ∧ p < 9) ∨ 25 ≤ p := by decide
theorem wLm_eq (cy : Nat → ClassId) (a a' : Nat → Nat) (ha : ∀ p, (p = 2 ∨ (5 ≤ p ∧ p < 9) ∨ 25 ≤ p) → a' p = a p) : wLm cy a (measV w0) = wLm cy a' v0 := by
  unfold wLm
  apply List.map_congr_left
  intro p hp
  have h9 := wL_9 p hp
  have h41 := wL_lt p hp
  show (a p, cF cy a p (measV w0 p)) = (a' p, cF cy a' p (v0 p))
  rw [ha p h9, v0_m (by omega)]
  congr 1
  by_cases h2 : p = 2
  · subst h2
    rw [cF_W, cF_W]
    unfold wl
    rw [ha 5 (by omega), ha 6 (by omega), ha 7 (by omega), ha 8 (by omega)]
  · by_cases h6 : p = 6
    · subst h6
      have e : (fun i => some (a' (25 + i))) = fun i => some (a (25 + i)) := funext fun i => by rw [ha _ (by omega)]
      show (.inl (cy 3, 8, .inr (.inr (.inr (.inr (fun i => some (a (25 + i))))))) : va_E) = .inl (cy 3, 8, .inr (.inr (.inr (.inr (fun i => some (a' (25 + i)))))))
      rw [e]
    · by_cases h7 : p = 7
      · subst h7
        have e : (fun i => some (a' (33 + i))) = fun i => some (a (33 + i)) := funext fun i => by rw [ha _ (by omega)]
        show (.inl (cy 3, 8, .inr (.inr (.inr (.inr (fun i => some (a (33 + i))))))) : va_E) = .inl (cy 3, 8, .inr (.inr (.inr (.inr (fun i => some (a' (33 + i)))))))
        rw [e]
      · rw [cF_I cy a _ (by unfold cI; omega), cF_I cy a' _ (by unfold cI; omega)]
theorem rO_map (F : Nat → Nat × va_E) : rO.map F = ((((F 0 :: F 1 :: (wL.map F ++ [F 3, F 4])) ++ (List.range 10).map (fun j => F (9 + j))) ++ (List.range 6).map (fun j => F (19 + j)))) := rfl
def aR0 (q q1 q3 q4 : Nat) (a ad ad2 : Nat → Nat) (p : Nat) : Nat := if p = 0 then q else if p = 1 then q1 else if p = 3 then q3 else if p = 4 then q4 else if 9 ≤ p ∧ p < 19 then ad (p - 9) else if 19 ≤ p ∧ p < 25 then ad2 (p - 19) else a p
theorem aR0_o {q q1 q3 q4 : Nat} {a ad ad2 : Nat → Nat} {p : Nat} (h : p = 2 ∨ (5 ≤ p ∧ p < 9) ∨ 25 ≤ p) : aR0 q q1 q3 q4 a ad ad2 p = a p := by
  unfold aR0
  rw [if_neg (by omega), if_neg (by omega), if_neg (by omega), if_neg (by omega), if_neg (by omega), if_neg (by omega)]
theorem aR0_d {q q1 q3 q4 : Nat} {a ad ad2 : Nat → Nat} {j : Nat} (h : j < 10) : aR0 q q1 q3 q4 a ad ad2 (9 + j) = ad j := by
  unfold aR0
  rw [if_neg (by omega), if_neg (by omega), if_neg (by omega), if_neg (by omega), if_pos (by omega), Nat.add_sub_cancel_left]
theorem aR0_c {q q1 q3 q4 : Nat} {a ad ad2 : Nat → Nat} {j : Nat} (h : j < 6) : aR0 q q1 q3 q4 a ad ad2 (19 + j) = ad2 j := by
  unfold aR0
  rw [if_neg (by omega), if_neg (by omega), if_neg (by omega), if_neg (by omega), if_neg (by omega), if_pos (by omega), Nat.add_sub_cancel_left]
theorem rW_eq (cy : Nat → ClassId) (q q1 q3 q4 : Nat) (a ad ad2 : Nat → Nat) : (rB cy a q q1 q3 q4 (fun i => some (aR0 q q1 q3 q4 a ad ad2 (9 + i))) (fun i => some (aR0 q q1 q3 q4 a ad ad2 (19 + i))) ++ devW 10 ad) ++ camW 6 ad2 = rO.map (fun p => (aR0 q q1 q3 q4 a ad ad2 p, cF cy (aR0 q q1 q3 q4 a ad ad2) p (v0 p))) := by
  rw [rO_map]
  have hb : rB cy a q q1 q3 q4 (fun i => some (aR0 q q1 q3 q4 a ad ad2 (9 + i))) (fun i => some (aR0 q q1 q3 q4 a ad ad2 (19 + i))) = (fun p => ((aR0 q q1 q3 q4 a ad ad2 p, cF cy (aR0 q q1 q3 q4 a ad ad2) p (v0 p)) : Nat × va_E)) 0 :: (fun p => ((aR0 q q1 q3 q4 a ad ad2 p, cF cy (aR0 q q1 q3 q4 a ad ad2) p (v0 p)) : Nat × va_E)) 1 :: (wL.map (fun p => ((aR0 q q1 q3 q4 a ad ad2 p, cF cy (aR0 q q1 q3 q4 a ad ad2) p (v0 p)) : Nat × va_E)) ++ [(fun p => ((aR0 q q1 q3 q4 a ad ad2 p, cF cy (aR0 q q1 q3 q4 a ad ad2) p (v0 p)) : Nat × va_E)) 3, (fun p => ((aR0 q q1 q3 q4 a ad ad2 p, cF cy (aR0 q q1 q3 q4 a ad ad2) p (v0 p)) : Nat × va_E)) 4]) := by
    unfold rB
    rw [wLm_eq cy a (aR0 q q1 q3 q4 a ad ad2) (fun p hp => aR0_o hp), ← v0_1]
    have e2 : a 2 = aR0 q q1 q3 q4 a ad ad2 2 := (aR0_o (by omega)).symm
    have e0 : (.inr (3, [.ref q1, .ref (a 2), .ref q3, .ref q4, .int 0, .int 0, .int 0]) : va_E) = cF cy (aR0 q q1 q3 q4 a ad ad2) 0 (v0 0) := by
      rw [cF_R]
      unfold rl
      rw [v0_0, v0_0, v0_0, e2]
      rfl
    rw [e0]
    rfl
  have hd : devW 10 ad = (List.range 10).map (fun j => (fun p => ((aR0 q q1 q3 q4 a ad ad2 p, cF cy (aR0 q q1 q3 q4 a ad ad2) p (v0 p)) : Nat × va_E)) (9 + j)) := by
    unfold devW
    apply List.map_congr_left
    intro j hj
    have hj := List.mem_range.mp hj
    have e : v0 (9 + j) = dev0 (nI j) := funext fun k => v0_d hj k
    show _ = (aR0 q q1 q3 q4 a ad ad2 (9 + j), cF cy (aR0 q q1 q3 q4 a ad ad2) (9 + j) (v0 (9 + j)))
    rw [cF_D cy _ _ (by omega), aR0_d hj, e]
  have hc : camW 6 ad2 = (List.range 6).map (fun j => (fun p => ((aR0 q q1 q3 q4 a ad ad2 p, cF cy (aR0 q q1 q3 q4 a ad ad2) p (v0 p)) : Nat × va_E)) (19 + j)) := by
    unfold camW
    apply List.map_congr_left
    intro j hj
    have hj := List.mem_range.mp hj
    have e : v0 (19 + j) = cam0 (nI j) := funext fun k => v0_c hj k
    show _ = (aR0 q q1 q3 q4 a ad ad2 (19 + j), cF cy (aR0 q q1 q3 q4 a ad ad2) (19 + j) (v0 (19 + j)))
    rw [cF_K cy _ _ (by omega), aR0_c hj, e]
  exact congr (congrArg HAppend.hAppend (congr (congrArg HAppend.hAppend hb) hd)) hc
def rmX3_init : Room := { frames := 6, cells := 40, slots := 356, locals := 200 }
set_option maxHeartbeats 8000000 in
set_option maxRecDepth 100000 in
theorem k_X3_init (l : Launch) (D : va_G) (cy : Nat → ClassId) (A : Nat → Prop) (X : va_W) (q : Nat) : Met l yX3_init wsX3_init rmX3_init (va_Pc [.ref q] (xPre D (tyC cy) A ((q, .inr (3, [.null, .null, .null, .null, .int 0, .int 0, .int 0])) :: X))) (va_Qv (fun (a : Nat → Nat) => a 0 = q) (fun a t => xPost D (tyC cy) A (cW cy a X v0) t) A) 40 356 A := by
  have hin : ∀ w ∈ wsX30, w ∈ wsX3_init := fun w h => List.mem_cons_of_mem _ (List.mem_append_left _ (List.mem_append_left _ (List.mem_append_left _ (List.mem_append_right _ h))))
  have hin2 : ∀ w ∈ wsX20, w ∈ wsX3_init := fun w h => List.mem_cons_of_mem _ (List.mem_append_left _ (List.mem_append_left _ (List.mem_append_right _ h)))
  have hin1 : ∀ w ∈ wsX10, w ∈ wsX3_init := fun w h => List.mem_cons_of_mem _ (List.mem_append_left _ (List.mem_append_right _ h))
  have hin0 : ∀ w ∈ wsX00, w ∈ wsX3_init := fun w h => List.mem_cons_of_mem _ (List.mem_append_right _ h)
  refine x_met (own := RX3) (by decide) rfl rfl (Nat.le_of_ble_eq_true rfl) rfl ?_
  intro p e s m below meth c hnm C hE
  refine x_ws (show ((q, .inr (3, [.null, .null, .null, .null, .int 0, .int 0, .int 0])) :: X : va_W) = (q, .inr (3, [.null, .null, .null, .null, .int 0, .int 0, .int 0])) :: ([] ++ X) from rfl) ?_
  refine x_aload_n (i := 0) C dX3_init_0 rfl rfl ?_
  refine x_objInit C (List.mem_of_getElem? (i := 1) rfl) (List.mem_of_getElem? (i := 2) rfl) (List.mem_of_getElem? (i := 3) rfl) dX3_init_1 (Nat.le_of_ble_eq_true rfl) (Nat.le_of_ble_eq_true rfl) ?_
  refine x_aload_n (i := 0) C dX3_init_4 rfl rfl ?_
  refine x_bipush (v := nI 8) C dX3_init_5 (by decide) ?_
  refine x_newaB C (by decide +kernel) (by decide) (nI_clamp (by omega)) (by omega) ⟨Nat.le_of_ble_eq_true rfl, Nat.le_of_ble_eq_true rfl⟩ dX3_init_7 (fun q1 => ?_)
  refine x_putOF C tyX3 tyX3_ok nmX3 rfl 0 (by decide) hin (by decide +kernel) rfl rfl hnm rfl (show tyX3 0 = .array .int from rfl) rfl rfl (Nat.le_of_ble_eq_true rfl) dX3_init_9 ?_
  refine x_aload_n (i := 0) C dX3_init_12 rfl rfl ?_
  refine x_newO C hin2 tyX2 tyX2_ok (by decide +kernel) (by decide +kernel) (by decide +kernel) (ci := 2) rfl (fs := [.null, .null, .null, .null]) (by decide) ⟨Nat.le_of_ble_eq_true rfl, Nat.le_of_ble_eq_true rfl⟩ dX3_init_13 (fun q2 => ?_)
  refine x_dup C dX3_init_16 rfl ?_
  refine x_callIv (ret' := none) C hE (k_X2_init l D cy A _ q2) ⟨x_cbI 0 C.2.2.2.2.1 gX3_init_X2_init rfl rfl rfl (by decide +kernel) (by decide +kernel) (by decide +kernel) ⟨Nat.le_of_ble_eq_true rfl, Nat.le_of_ble_eq_true rfl⟩, rfl, C.2.2.2.2.1 _ (by decide +kernel)⟩ rfl rfl (Nat.le_of_ble_eq_true rfl) dX3_init_17 ⟨Nat.le_of_ble_eq_true rfl, Nat.le_of_ble_eq_true rfl⟩ (fun a h => ?_)
  subst h
  refine x_ws (wW_eq cy a _ _) ?_
  refine x_blk ?_
  refine x_mid (B := (q, .inr (3, [.ref q1, .null, .null, .null, .int 0, .int 0, .int 0])) :: ([] ++ [(q1, .inl (cy 0, 8, .inl (fun _ => 0)))])) (X := X) (Z := wLm cy a (measV w0)) ?_
  refine x_ws (show _ = ((q, .inr (3, [.ref q1, .null, .null, .null, .int 0, .int 0, .int 0])) :: (((q1, .inl (cy 0, 8, .inl (fun _ => 0))) :: wLm cy a (measV w0)) ++ X) : va_W) from rfl) ?_
  refine x_putOF C tyX3 tyX3_ok nmX3 rfl 1 (by decide) hin (by decide +kernel) rfl rfl hnm rfl (show tyX3 1 = .object "Ringroll$Ways" from rfl) rfl rfl (Nat.le_of_ble_eq_true rfl) dX3_init_20 ?_
  refine x_aload_n (i := 0) C dX3_init_23 rfl rfl ?_
  refine x_bipush (v := nI 10) C dX3_init_24 (by decide) ?_
  refine x_newqB C (t0 := 1) (C0 := "Ringroll$Device") rfl (by decide +kernel) hE.2.2.2.2.2.1 (by decide) (nI_clamp (by omega)) (by omega) ⟨Nat.le_of_ble_eq_true rfl, Nat.le_of_ble_eq_true rfl⟩ dX3_init_26 (fun q3 => ?_)
  refine x_putOF C tyX3 tyX3_ok nmX3 rfl 2 (by decide) hin (by decide +kernel) rfl rfl hnm rfl (show tyX3 2 = .array (.object "Ringroll$Device") from rfl) rfl rfl (Nat.le_of_ble_eq_true rfl) dX3_init_29 ?_
  refine x_aload_n (i := 0) C dX3_init_32 rfl rfl ?_
  refine x_bipush (v := nI 6) C dX3_init_33 (by decide) ?_
  refine x_newqB C (t0 := 2) (C0 := "Ringroll$Campaign") rfl (by decide +kernel) hE.2.2.2.2.2.2.1 (by decide) (nI_clamp (by omega)) (by omega) ⟨Nat.le_of_ble_eq_true rfl, Nat.le_of_ble_eq_true rfl⟩ dX3_init_35 (fun q4 => ?_)
  refine x_putOF C tyX3 tyX3_ok nmX3 rfl 3 (by decide) hin (by decide +kernel) rfl rfl hnm rfl (show tyX3 3 = .array (.object "Ringroll$Campaign") from rfl) rfl rfl (Nat.le_of_ble_eq_true rfl) dX3_init_38 ?_
  refine x_aload_n (i := 0) C dX3_init_41 rfl rfl ?_
  refine x_iconst (v := 0) C dX3_init_42 (by decide) ?_
  refine x_putO C tyX3 tyX3_ok nmX3 rfl 4 (by decide) hin (by decide +kernel) rfl rfl (show tyX3 4 = .int from rfl) rfl rfl (Nat.le_of_ble_eq_true rfl) dX3_init_43 ?_
  refine x_aload_n (i := 0) C dX3_init_46 rfl rfl ?_
  refine x_iconst (v := 0) C dX3_init_47 (by decide) ?_
  refine x_putO C tyX3 tyX3_ok nmX3 rfl 5 (by decide) hin (by decide +kernel) rfl rfl (show tyX3 5 = .int from rfl) rfl rfl (Nat.le_of_ble_eq_true rfl) dX3_init_48 ?_
  refine x_aload_n (i := 0) C dX3_init_51 rfl rfl ?_
  refine x_iconst (v := 0) C dX3_init_52 (by decide) ?_
  refine x_putO C tyX3 tyX3_ok nmX3 rfl 6 (by decide) hin (by decide +kernel) rfl rfl (show tyX3 6 = .int from rfl) rfl rfl (Nat.le_of_ble_eq_true rfl) dX3_init_53 ?_
  refine x_aload_n (i := 0) C dX3_init_56 rfl rfl ?_
  refine x_getO C rfl 0 (by decide) hin (by decide +kernel) rfl rfl dX3_init_57 ?_
  refine x_bipush (v := 15) C dX3_init_60 (by decide) ?_
  refine x_callSv C hE (k_G7_fill l D (tyC cy) A _ (q0 := 1) (t0 := 0) (N := 8) (cA := cy 0) (by decide) rfl (fun _ => 0) rfl 15) (va_cwS 2 C.2.2.2.2.1 gX3_init_J7_fill_53178 rfl rfl rfl (by decide +kernel) ⟨Nat.le_of_ble_eq_true rfl, Nat.le_of_ble_eq_true rfl⟩) rfl rfl (Nat.le_of_ble_eq_true rfl) dX3_init_62 ⟨Nat.le_of_ble_eq_true rfl, Nat.le_of_ble_eq_true rfl⟩ (fun u h => ?_)
  refine x_ws (show _ = ((rB cy a q q1 q3 q4 (fun _ => none) (fun _ => none) ++ []) ++ X : va_W) from rfl) ?_
  refine x_iconst (v := 0) C dX3_init_65 (by decide) ?_
  refine x_istore_n (i := 1) C dX3_init_66 rfl (by decide) ?_
  refine x_subm (lv' := [(1, .int (nI 0)), (0, .ref q)]) ?_ rfl
  refine x_widen (k := 24) (n := 188) (Nat.le_of_ble_eq_true rfl) (Nat.le_of_ble_eq_true rfl) ?_
  refine x_count (N := 10) (fun i => ∀ ad : Nat → Nat, xA p l e rmX3_init s m _ below meth c D A 2 (24 + i) (188 + 9 * i) _ 67 [(1, .int (nI i)), (0, .ref q)] [] ((rB cy a q q1 q3 q4 (refI i ad) (fun _ => none) ++ devW i ad) ++ X)) ?_ ?_ (fun _ => 0)
  · intro ad
    refine x_iload_n (i := 1) C dX3_init_67 rfl rfl ?_
    refine x_bipush (v := nI 10) C dX3_init_68 (by decide) ?_
    refine x_icmp_ge C 93 dX3_init_70 (by decide) (fun c_5 => ?_) (fun c_5 => absurd (by decide : nI 10 ≤ nI 10) c_5)
    refine x_iconst (v := 0) C dX3_init_93 (by decide) ?_
    refine x_istore_n (i := 1) C dX3_init_94 rfl (by decide) ?_
    refine x_subm (lv' := [(1, .int (nI 0)), (0, .ref q)]) ?_ rfl
    refine x_widen (k := 34) (n := 278) (Nat.le_of_ble_eq_true rfl) (Nat.le_of_ble_eq_true rfl) ?_
    refine x_ws (show _ = (((rB cy a q q1 q3 q4 (refI 10 ad) (fun _ => none) ++ devW 10 ad) ++ []) ++ X : va_W) by rw [List.append_nil]) ?_
    refine x_count (N := 6) (fun i => ∀ ad2 : Nat → Nat, xA p l e rmX3_init s m _ below meth c D A 2 (34 + i) (278 + 13 * i) _ 95 [(1, .int (nI i)), (0, .ref q)] [] (((rB cy a q q1 q3 q4 (refI 10 ad) (refI i ad2) ++ devW 10 ad) ++ camW i ad2) ++ X)) ?_ ?_ (fun _ => 0)
    · intro ad2
      refine x_iload_n (i := 1) C dX3_init_95 rfl rfl ?_
      refine x_bipush (v := nI 6) C dX3_init_96 (by decide) ?_
      refine x_icmp_ge C 121 dX3_init_98 (by decide) (fun c_5 => ?_) (fun c_5 => absurd (by decide : nI 6 ≤ nI 6) c_5)
      refine x_ws (show _ = ((((q, .inr (3, [.ref q1, .ref (a 2), .ref q3, .ref q4, .int 0, .int 0, .int 0])) :: (q1, .inl (cy 0, 8, .inl (fillF (fun _ => 0) 15 8))) :: wLm cy a (measV w0)) ++ [(q3, .inl (cy 1, 10, .inr (.inr (.inr (.inr (refI 10 ad))))))]) ++ ((q4, .inl (cy 2, 6, .inr (.inr (.inr (.inr (refI 6 ad2)))))) :: (devW 10 ad ++ (camW 6 ad2 ++ X))) : va_W) from rfl) ?_
      refine x_refs (g := fun i => some (aR0 q q1 q3 q4 a ad ad2 (9 + i))) (fun j hj => by unfold refI; rw [if_pos hj, aR0_d hj]) ?_
      refine x_ws (show _ = ((((q, .inr (3, [.ref q1, .ref (a 2), .ref q3, .ref q4, .int 0, .int 0, .int 0])) :: (q1, .inl (cy 0, 8, .inl (fillF (fun _ => 0) 15 8))) :: (wLm cy a (measV w0) ++ [(q3, .inl (cy 1, 10, .inr (.inr (.inr (.inr (fun i => some (aR0 q q1 q3 q4 a ad ad2 (9 + i))))))))])) ++ [(q4, .inl (cy 2, 6, .inr (.inr (.inr (.inr (refI 6 ad2))))))]) ++ (devW 10 ad ++ (camW 6 ad2 ++ X)) : va_W) from rfl) ?_
      refine x_refs (g := fun i => some (aR0 q q1 q3 q4 a ad ad2 (19 + i))) (fun j hj => by unfold refI; rw [if_pos hj, aR0_c hj]) ?_
      refine x_ws (show _ = (((rB cy a q q1 q3 q4 (fun i => some (aR0 q q1 q3 q4 a ad ad2 (9 + i))) (fun i => some (aR0 q q1 q3 q4 a ad ad2 (19 + i))) ++ devW 10 ad) ++ camW 6 ad2) ++ X : va_W) from rfl) ?_
      rw [rW_eq]
      refine x_perm (ws' := cW cy (aR0 q q1 q3 q4 a ad ad2) X v0) ((rO_perm.map _).append_right X) ?_
      exact x_vret (σ := Nat → Nat) (Wf := fun (a : Nat → Nat) => cW cy a X v0) (u := aR0 q q1 q3 q4 a ad ad2) C dX3_init_121 ⟨Nat.le_of_ble_eq_true rfl, Nat.le_of_ble_eq_true rfl⟩ rfl
    · intro i hi kk ad2
      refine x_iload_n (i := 1) C dX3_init_95 rfl rfl ?_
      refine x_bipush (v := nI 6) C dX3_init_96 (by decide) ?_
      refine x_icmp_ge C 121 dX3_init_98 (by decide) (fun c_5 => absurd c_5 (nI_ge hi (by decide))) (fun c_5 => ?_)
      refine x_aload_n (i := 0) C dX3_init_101 rfl rfl ?_
      refine x_getO C rfl 3 (by decide) hin (by decide +kernel) rfl rfl dX3_init_102 ?_
      refine x_iload_n (i := 1) C dX3_init_105 rfl rfl ?_
      refine x_newO C hin0 tyX0 tyX0_ok (by decide +kernel) (by decide +kernel) (by decide +kernel) (ci := 0) rfl (fs := kl (fun _ => 0)) (by decide) ⟨by show 34 + i + 1 ≤ 40; omega, by show 278 + 13 * i + 13 ≤ 356; omega⟩ dX3_init_106 (fun qn => ?_)
      refine x_dup C dX3_init_109 rfl ?_
      refine x_iload_n (i := 1) C dX3_init_110 rfl rfl ?_
      refine x_callIv (ret' := none) (As := [.int (nI i)]) C hE (k_X0_init l D (tyC cy) A _ qn (nI i)) ⟨x_cbI 1 C.2.2.2.2.1 gX3_init_X0_init rfl rfl rfl (by decide +kernel) (by decide +kernel) (by decide +kernel) ⟨Nat.le_of_ble_eq_true rfl, Nat.le_of_ble_eq_true rfl⟩, rfl, C.2.2.2.2.1 _ (by decide +kernel)⟩ rfl rfl (Nat.le_of_ble_eq_true rfl) dX3_init_111 ⟨by show 34 + i + 1 + 0 ≤ 40; omega, by show 278 + 13 * i + 13 + 0 ≤ 356; omega⟩ (fun u h => ?_)
      refine x_aastG (q0 := 25) (t0 := 2) (qk := 0) (ci := 0) (cA := cy 2) (r := (RX0, TX0, 13)) (n := 6) (f := refI i ad2) C rfl rfl rfl rfl (vp_in_nI hi (by decide)) dX3_init_114 ?_
      refine x_ws (show _ = ((qn, .inr (0, kl (cam0 (nI i)))) :: (((rB cy a q q1 q3 q4 (refI 10 ad) (va_up (refI i ad2) (nI i).toNatClampNeg (some qn)) ++ devW 10 ad) ++ camW i ad2) ++ X) : va_W) from rfl) ?_
      refine x_back ?_
      rw [nI_clamp (by omega), refI_s, List.append_assoc (rB _ _ _ _ _ _ _ _ ++ devW 10 ad), ← camW_s]
      refine x_iinc (i := 1) (v := nI (i + 1)) C dX3_init_115 rfl (inc1 i) ?_
      refine x_goto C 95 dX3_init_118 (by decide) ?_
      exact x_subm (x_widen (k := 34 + (i + 1)) (n := 278 + 13 * (i + 1)) (by omega) (by omega) (kk _)) rfl
  · intro i hi kk ad
    refine x_iload_n (i := 1) C dX3_init_67 rfl rfl ?_
    refine x_bipush (v := nI 10) C dX3_init_68 (by decide) ?_
    refine x_icmp_ge C 93 dX3_init_70 (by decide) (fun c_5 => absurd c_5 (nI_ge hi (by decide))) (fun c_5 => ?_)
    refine x_aload_n (i := 0) C dX3_init_73 rfl rfl ?_
    refine x_getO C rfl 2 (by decide) hin (by decide +kernel) rfl rfl dX3_init_74 ?_
    refine x_iload_n (i := 1) C dX3_init_77 rfl rfl ?_
    refine x_newO C hin1 tyX1 tyX1_ok (by decide +kernel) (by decide +kernel) (by decide +kernel) (ci := 1) rfl (fs := dl (fun _ => 0)) (by decide) ⟨by show 24 + i + 1 ≤ 40; omega, by show 188 + 9 * i + 9 ≤ 356; omega⟩ dX3_init_78 (fun qn => ?_)
    refine x_dup C dX3_init_81 rfl ?_
    refine x_iload_n (i := 1) C dX3_init_82 rfl rfl ?_
    refine x_callIv (ret' := none) (As := [.int (nI i)]) C hE (k_X1_init l D (tyC cy) A _ qn (nI i)) ⟨x_cbI 1 C.2.2.2.2.1 gX3_init_X1_init rfl rfl rfl (by decide +kernel) (by decide +kernel) (by decide +kernel) ⟨Nat.le_of_ble_eq_true rfl, Nat.le_of_ble_eq_true rfl⟩, rfl, C.2.2.2.2.1 _ (by decide +kernel)⟩ rfl rfl (Nat.le_of_ble_eq_true rfl) dX3_init_83 ⟨by show 24 + i + 1 + 0 ≤ 40; omega, by show 188 + 9 * i + 9 + 0 ≤ 356; omega⟩ (fun u h => ?_)
    refine x_aastG (q0 := 24) (t0 := 1) (qk := 0) (ci := 1) (cA := cy 1) (r := (RX1, TX1, 9)) (n := 10) (f := refI i ad) C rfl rfl rfl rfl (vp_in_nI hi (by decide)) dX3_init_86 ?_
    refine x_ws (show _ = ((qn, .inr (1, dl (dev0 (nI i)))) :: ((rB cy a q q1 q3 q4 (va_up (refI i ad) (nI i).toNatClampNeg (some qn)) (fun _ => none) ++ devW i ad) ++ X) : va_W) from rfl) ?_
    refine x_back ?_
    rw [nI_clamp (by omega), refI_s, List.append_assoc (rB _ _ _ _ _ _ _ _), ← devW_s]
    refine x_iinc (i := 1) (v := nI (i + 1)) C dX3_init_87 rfl (inc1 i) ?_
    refine x_goto C 67 dX3_init_90 (by decide) ?_
    exact x_subm (x_widen (k := 24 + (i + 1)) (n := 188 + 9 * (i + 1)) (by omega) (by omega) (kk _)) rfl
/-! ===== END rinit ===== -/
