/-! ===== BEGIN wraps: the law's own small methods ===== -/
section LCN
variable {p : Program} {l : Launch} {e : Env} {R : Room} {s : State} {m : MethodId} {args : Array Value} {below : List Frame} {meth : Method} {c : Code} {cells slots : Nat} {Q : State → Prop} {cc : ByteArray} {nL : Nat} {own : String} {Ts : List Cond} {D : va_G} {A : Nat → Prop} {ret : Option FieldType} {pc : Nat} {lv : List (Nat × Value)} {st : List Value} {tys : List (ClassId × FieldType)} {ws : va_W}
theorem x_lconst (C : xC p s m args meth c cc nL own Ts D tys A ret) {n : Fin 2} {v : Int64} (hd : decode cc pc = .ok (.lconst n, 1)) (hv : Int64.ofNat (n : Nat) = v)
    (k : xA p l e R s m args below meth c D A nL cells slots Q (pc + 1) lv (.long v :: st) ws) : xA p l e R s m args below meth c D A nL cells slots Q pc lv st ws := fun H locs ls hP hD hS hl => lv_lconst C.1 C.2.1 hd hv (k H locs ls hP hD hS hl)
end LCN
def rmL_allow : Room := { frames := 8, cells := 2, slots := 12, locals := 154 }
set_option maxHeartbeats 4000000 in
set_option maxRecDepth 100000 in
theorem k_L_allow (l : Launch) (hfl : l.stackTraces = false) (D : va_G) (cy : Nat → ClassId) (a : Nat → Nat) (o : Nat) (A : Nat → Prop) (Y : va_W) (V : XV) (f : Nat → Int64) (v k : Int32)   (hex : exIn (allowX v k) tbIA) : Met l yL_allow wsL_allow rmL_allow (va_Pc [.ref (a 0), .int v, .int k, .ref o] (xPre D (tyC cy) A (oW cy a o Y V f))) (va_Qi (fun (r : Int32) (u : XV × (Nat → Int64)) => wP (allowX v k) (xs V 1 v.toNatClampNeg k) V (V 1 v.toNatClampNeg) tbIA r u) (fun u t => xPost D (tyC cy) A (oW cy a o Y u.1 u.2) t) A) 2 12 A := by
  have hk13 : Cond.classLink RL 13 xIO ∈ wsL_allow := by decide +kernel
  have hk15 : Cond.classLink RL 15 xIA ∈ wsL_allow := by decide +kernel
  refine x_metH (own := RL) (by decide) rfl rfl (Nat.le_of_ble_eq_true rfl) rfl ?_
  intro p e s m below meth c htab C hE
  refine x_aload_n (i := 3) C dL_allow_0 rfl rfl ?_
  refine x_iconst (v := 0) C dL_allow_1 (by decide) ?_
  refine x_aload_n (i := 0) C dL_allow_2 rfl rfl ?_
  refine x_iload_n (i := 1) C dL_allow_3 rfl rfl ?_
  refine x_iload_n (i := 2) C dL_allow_4 rfl rfl ?_
  refine x_callViK C hE (k_X3_allow l hfl D cy a A ((o, outF cy f) :: Y) V v k ) (cwV 2 C.2.2.2.2.1 gL_allow_X3_allow rfl rfl rfl (by decide +kernel) ⟨Nat.le_of_ble_eq_true rfl, Nat.le_of_ble_eq_true rfl⟩) 0 (cW_R cy a _ _) rfl rfl rfl rfl (Nat.le_of_ble_eq_true rfl) dL_allow_5 ⟨Nat.le_of_ble_eq_true rfl, Nat.le_of_ble_eq_true rfl⟩ (fun E hx H locs ls q9 ce hP hD hS hl hce hcv hcl => ?_) (fun r u h => ?_)
  · obtain ⟨k9, hk9⟩ := hex E hx
    simp only [tbIA, List.mem_cons, List.not_mem_nil, or_false, Prod.mk.injEq] at hk9
    rcases hk9 with ⟨rfl, rfl⟩ | ⟨rfl, rfl⟩
    · refine x_hand C hE [] ⟨0, 10, 13, 13⟩ [⟨0, 10, 17, 15⟩] htab (fun z hz => absurd hz List.not_mem_nil) rfl (by decide) hk13 (by decide +kernel) rfl hP hD hS hl hce hcv hcl ?_
      refine x_astore (i := 4) C dL_allow_13 (by decide) ?_
      refine x_iconst (v := 1) C dL_allow_15 (by decide) ?_
      exact x_iret (Wf := fun u => oW cy a o Y u.1 u.2) (u := (V, f)) C dL_allow_16 ⟨Nat.le_of_ble_eq_true rfl, Nat.le_of_ble_eq_true rfl⟩ (Or.inr ⟨_, by decide +kernel, hx, rfl, rfl⟩)
    · refine x_hand C hE [⟨0, 10, 13, 13⟩] ⟨0, 10, 17, 15⟩ [] htab (fun z hz => by cases List.mem_singleton.mp hz; exact ⟨by decide, xIO, hk13, by decide +kernel⟩) rfl (by decide) hk15 (by decide +kernel) rfl hP hD hS hl hce hcv hcl ?_
      refine x_astore (i := 4) C dL_allow_17 (by decide) ?_
      refine x_iconst (v := 2) C dL_allow_19 (by decide) ?_
      exact x_iret (Wf := fun u => oW cy a o Y u.1 u.2) (u := (V, f)) C dL_allow_20 ⟨Nat.le_of_ble_eq_true rfl, Nat.le_of_ble_eq_true rfl⟩ (Or.inr ⟨_, by decide +kernel, hx, rfl, rfl⟩)
  · obtain ⟨h1, h2, h3⟩ := h
    subst h2; subst h3
    refine x_i2l C dL_allow_8 rfl ?_
    refine x_last0 C dL_allow_9 ?_
    refine x_goto 21 C dL_allow_10 (by decide) ?_
    refine x_iconst (v := 0) C dL_allow_21 (by decide) ?_
    exact x_iret (Wf := fun u => oW cy a o Y u.1 u.2) (u := (_, vp_updL f 0 _)) C dL_allow_22 ⟨Nat.le_of_ble_eq_true rfl, Nat.le_of_ble_eq_true rfl⟩ (Or.inl ⟨h1, rfl, rfl, if_pos rfl⟩)
/-! ===== END wraps ===== -/
