/-! ===== BEGIN model3: mayTake, eligible, take, isOpen, pass of the reference ===== -/
def drM (d c : Nat) : Int32 := (nI d * 37 + nI c * 11 + 13) - (nI d * 37 + nI c * 11 + 13) / 100 * 100
def forM (V : XV) (d c : Nat) : Bool := hasB (V 14 c) (V 5 d) && hasB (V 15 c) (V 6 d)
def canM (V : XV) (d c : Nat) : Bool := hasB (V 1 (V 13 c).toNatClampNeg) (V 5 d) && !decide (V 6 d = V 13 c)
def drwM (V : XV) (d c : Nat) : Bool := !decide (V 18 (3 * c + (V 17 c).toNatClampNeg) ≤ drM d c) && decide ((V 23 c >>> (nI d &&& 31)) &&& 1 = 0)
def preM (V : XV) (d c : Nat) : Bool := decide (V 10 d = 0) && (!decide (V 16 c = 0) && (forM V d c && (canM V d c && drwM V d c)))
noncomputable def mayTakeM (V : XV) (d c : Nat) : Bool := preM V d c && !decide (szI V (V 6 d) (V 13 c) = -1)
noncomputable def mtV (V : XV) (d c : Nat) : XV := if preM V d c = true then szV V (V 6 d) else V
noncomputable def meV (V : XV) (c : Nat) : Nat → XV
  | 0 => V
  | d + 1 => mtV (meV V c d) d c
noncomputable def meI (V : XV) (c : Nat) : Nat → Int32
  | 0 => 0
  | d + 1 => meI V c d ||| (if mayTakeM (meV V c d) d c = true then 1 <<< (nI d &&& 31) else 0)
noncomputable def tk1 (V : XV) (d c : Nat) : XV := xs (mtV V d c) 11 d (nI c)
noncomputable def tk2 (V : XV) (d c : Nat) : XV := xs (xs (szV (tk1 V d c) (tk1 V d c 6 d)) 12 d (szI (tk1 V d c) (tk1 V d c 6 d) (tk1 V d c 13 c))) 10 d 1
noncomputable def tkStep (V : XV) (d c : Nat) : XV := if mayTakeM V d c = true then tk2 V d c else mtV V d c
noncomputable def tkV (V : XV) (d : Nat) : Nat → XV
  | 0 => V
  | c + 1 => tkStep (tkV V d c) d c
def openM (V : XV) (d : Nat) : Bool := if V 9 d < V 8 d then (decide (V 8 d ≤ V 0 1 - V 0 1 / 24 * 24) || !decide (V 9 d < V 0 1 - V 0 1 / 24 * 24)) else inB (V 0 1 - V 0 1 / 24 * 24) (V 8 d) (V 9 d)
def ldM (V : XV) (d : Nat) : Bool := decide (V 10 d = 1) && (openM V d && !decide (V 7 d < 20))
def ld1 (V : XV) (d : Nat) : XV := xs V 12 d (if V 12 d ≤ 100 then 0 else V 12 d - 100)
def ld2 (V : XV) (d : Nat) : XV := xs (ld1 V d) 7 d (ld1 V d 7 d - 1)
def ld3 (V : XV) (d : Nat) : XV := xs (ld2 V d) 10 d (if ld2 V d 12 d = 0 then 2 else 1)
noncomputable def pmStep (V : XV) (m d : Nat) : XV := if ldM (tkV V d m) d = true then ld3 (tkV V d m) d else tkV V d m
noncomputable def pmTs (V : XV) (m d : Nat) (z : Int32) : Int32 := if ldM (tkV V d m) d = true then z + (if ld3 (tkV V d m) d 12 d = 0 then 1 else 0) else z
noncomputable def pmV (V : XV) (m : Nat) : Nat → XV
  | 0 => V
  | d + 1 => pmStep (pmV V m d) m d
noncomputable def pmT (V : XV) (m : Nat) (z : Int32) : Nat → Int32
  | 0 => z
  | d + 1 => pmTs (pmV V m d) m d (pmT V m z d)
noncomputable def hrM (V : XV) (n m : Nat) : XV := xs (pmV V m n) 0 1 (pmV V m n 0 1 + 1)
noncomputable def paM (V : XV) (n m : Nat) : Nat → XV
  | 0 => V
  | k + 1 => hrM (paM V n m k) n m
noncomputable def paN (V : XV) (n m : Nat) : Nat → Int32
  | 0 => 0
  | k + 1 => pmT (paM V n m k) m (paN V n m k) n
/-- the places that an index rests on -/
def safeM (V : XV) : Prop := (∀ c, c < 6 → vp_in (V 13 c) 8) ∧ ∀ c, c < 6 → ∃ z : Nat, z ≤ 2 ∧ V 17 c = nI z
/-- a state that differs in scratch, the devices' loads, batteries, states, campaigns, and the clock alone -/
def keepM (V U : XV) : Prop := ∀ p k, p ≠ 4 ∧ p ≠ 7 ∧ p ≠ 10 ∧ p ≠ 11 ∧ p ≠ 12 → (p = 0 → k ≠ 1) → U p k = V p k
theorem keepM.rf (V : XV) : keepM V V := fun _ _ _ _ => rfl
theorem keepM.tr {V U Z : XV} (h : keepM V U) (h2 : keepM U Z) : keepM V Z := fun p k hk h0 => (h2 p k hk h0).trans (h p k hk h0)
theorem xs_keepM (V : XV) {p k : Nat} (v : Int32) (hp : p = 4 ∨ p = 7 ∨ p = 10 ∨ p = 11 ∨ p = 12 ∨ (p = 0 ∧ k = 1)) : keepM V (xs V p k v) := fun q j hj h0 => xs_get V v (by omega)
theorem s0_4 (V : XV) (f : Int32) : ∀ k p j, p ≠ 4 → s0 V f k p j = V p j
  | 0, _, _, _ => rfl
  | k + 1, p, j, h => (xs_get _ _ (by omega)).trans (s0_4 V f k p j h)
theorem sStep_4 (U : XV) (k p j : Nat) (h : p ≠ 4) : sStep U k p j = U p j := by
  unfold sStep
  by_cases h1 : U 3 k = -1
  · rw [if_pos h1]
  · rw [if_neg h1]
    by_cases h2 : U 4 (k % 8) ≤ U 4 (k / 8) + U 3 k
    · rw [if_pos h2]
    · rw [if_neg h2]; exact xs_get _ _ (by omega)
theorem sIn_4 (V : XV) : ∀ k p j, p ≠ 4 → sIn V k p j = V p j
  | 0, _, _, _ => rfl
  | k + 1, p, j, h => (sStep_4 _ _ _ _ h).trans (sIn_4 V k p j h)
theorem sOut_4 (V : XV) : ∀ k p j, p ≠ 4 → sOut V k p j = V p j
  | 0, _, _, _ => rfl
  | k + 1, p, j, h => (sIn_4 _ 64 _ _ h).trans (sOut_4 V k p j h)
theorem szV_4 (V : XV) (f : Int32) (p j : Nat) (h : p ≠ 4) : szV V f p j = V p j := by
  rw [szV_eq]
  exact (sOut_4 _ 8 _ _ h).trans (s0_4 V f 8 p j h)
theorem szV_keep (V : XV) (f : Int32) : keepM V (szV V f) := fun p k hk _ => szV_4 V f p k hk.1
theorem mtV_4 (V : XV) (d c p j : Nat) (h : p ≠ 4) : mtV V d c p j = V p j := by
  unfold mtV
  by_cases h1 : preM V d c = true
  · rw [if_pos h1]; exact szV_4 V _ p j h
  · rw [if_neg h1]
theorem mtV_keep (V : XV) (d c : Nat) : keepM V (mtV V d c) := fun p k hk _ => mtV_4 V d c p k hk.1
theorem meV_4 (V : XV) (c : Nat) : ∀ d p j, p ≠ 4 → meV V c d p j = V p j
  | 0, _, _, _ => rfl
  | d + 1, p, j, h => (mtV_4 _ _ _ _ _ h).trans (meV_4 V c d p j h)
theorem tkStep_keep (V : XV) (d c : Nat) : keepM V (tkStep V d c) := by
  unfold tkStep
  by_cases h : mayTakeM V d c = true
  · rw [if_pos h]
    exact (((mtV_keep V d c).tr (xs_keepM _ _ (by omega))).tr (szV_keep _ _)).tr ((xs_keepM _ _ (by omega)).tr (xs_keepM _ _ (by omega)))
  · rw [if_neg h]; exact mtV_keep V d c
theorem tkV_keep (V : XV) (d : Nat) : ∀ c, keepM V (tkV V d c)
  | 0 => keepM.rf V
  | c + 1 => (tkV_keep V d c).tr (tkStep_keep _ d c)
theorem ld3_keep (V : XV) (d : Nat) : keepM V (ld3 V d) := ((xs_keepM V _ (by omega)).tr (xs_keepM _ _ (by omega))).tr (xs_keepM _ _ (by omega))
theorem pmStep_keep (V : XV) (m d : Nat) : keepM V (pmStep V m d) := by
  unfold pmStep
  by_cases h : ldM (tkV V d m) d = true
  · rw [if_pos h]; exact (tkV_keep V d m).tr (ld3_keep _ d)
  · rw [if_neg h]; exact tkV_keep V d m
theorem pmV_keep (V : XV) (m : Nat) : ∀ d, keepM V (pmV V m d)
  | 0 => keepM.rf V
  | d + 1 => (pmV_keep V m d).tr (pmStep_keep _ m d)
theorem hrM_keep (V : XV) (n m : Nat) : keepM V (hrM V n m) := (pmV_keep V m n).tr (xs_keepM _ _ (by omega))
theorem paM_keep (V : XV) (n m : Nat) : ∀ k, keepM V (paM V n m k)
  | 0 => keepM.rf V
  | k + 1 => (paM_keep V n m k).tr (hrM_keep _ n m)
theorem safeM.keep {V U : XV} (h : safeM V) (hk : keepM V U) : safeM U := ⟨fun c hc => by rw [hk 13 c (by omega) (by omega)]; exact h.1 c hc, fun c hc => by rw [hk 17 c (by omega) (by omega)]; exact h.2 c hc⟩
theorem idxr {V : XV} {c : Nat} (hc : c < 6) (hs : safeM V) : (3 * nI c + V 17 c).toNatClampNeg = 3 * c + (V 17 c).toNatClampNeg ∧ vp_in (3 * nI c + V 17 c) 18 := by
  obtain ⟨z, hz, e⟩ := hs.2 c hc
  have e3 : (3 : Int32) = nI 3 := rfl
  have f : 3 * nI c + V 17 c = nI (3 * c + z) := by rw [e, e3, pk_mul, nI_add]
  rw [f, e, nI_clamp (show z < 2 ^ 31 by omega)]
  exact ⟨nI_clamp (by omega), vp_in_nI (by omega) (by decide)⟩
theorem hinX4_mayTake_X4 : ∀ w ∈ wsX40, w ∈ wsX4_mayTake := by decide +kernel
def rmX4_mayTake : Room := { frames := 1, cells := 0, slots := 0, locals := 24 }
set_option maxHeartbeats 4000000 in
set_option maxRecDepth 100000 in
theorem k_X4_mayTake (l : Launch) (D : va_G) (cy : Nat → ClassId) (b : Nat → Nat) (A : Nat → Prop) (X : va_W) (V : XV) {d9 c9 : Nat} (hd : d9 < 10) (hc : c9 < 6) (hs : safeM V) : Met l yX4_mayTake wsX4_mayTake rmX4_mayTake (va_Pc [.ref (b 0), .int (nI d9), .int (nI c9)] (xPre D (tyC cy) A (mW cy b X V))) (va_Qi (fun (r : Int32) (u : XV) => r = b2i (mayTakeM V d9 c9) ∧ u = mtV V d9 c9) (fun u t => xPost D (tyC cy) A (mW cy b X u) t) A) 0 0 A := by
  refine x_met (own := RX4) (by decide) rfl rfl (Nat.le_of_ble_eq_true rfl) rfl ?_
  intro p e s m below meth c hnm C hE
  refine x_iload_n (i := 1) C dX4_mayTake_0 rfl rfl ?_
  refine x_bipush (v := 37) C dX4_mayTake_1 (by decide) ?_
  refine x_imul C dX4_mayTake_3 ?_
  refine x_iload_n (i := 2) C dX4_mayTake_4 rfl rfl ?_
  refine x_bipush (v := 11) C dX4_mayTake_5 (by decide) ?_
  refine x_imul C dX4_mayTake_7 ?_
  refine x_iadd C dX4_mayTake_8 ?_
  refine x_bipush (v := 13) C dX4_mayTake_9 (by decide) ?_
  refine x_iadd C dX4_mayTake_11 ?_
  refine x_bipush (v := 100) C dX4_mayTake_12 (by decide) ?_
  refine x_irem C dX4_mayTake_14 (by decide) ?_
  refine x_istore_n (i := 3) C dX4_mayTake_15 rfl (by decide) ?_
  refine x_aload_n (i := 0) C dX4_mayTake_16 rfl rfl ?_
  refine x_getMr C 16 13 (fun _ _ => rfl) (by decide) hinX4_mayTake_X4 (by decide +kernel) dX4_mayTake_17 ?_
  refine x_iload_n (i := 2) C dX4_mayTake_20 rfl rfl ?_
  refine x_ialdM C (by decide) (vp_in_nI hc (by decide)) (nI_clamp (by omega)) dX4_mayTake_21 ?_
  refine x_istore (i := 4) C dX4_mayTake_22 (by decide) ?_
  refine x_aload_n (i := 0) C dX4_mayTake_24 rfl rfl ?_
  refine x_getMr C 17 14 (fun _ _ => rfl) (by decide) hinX4_mayTake_X4 (by decide +kernel) dX4_mayTake_25 ?_
  refine x_iload_n (i := 2) C dX4_mayTake_28 rfl rfl ?_
  refine x_ialdM C (by decide) (vp_in_nI hc (by decide)) (nI_clamp (by omega)) dX4_mayTake_29 ?_
  refine x_aload_n (i := 0) C dX4_mayTake_30 rfl rfl ?_
  refine x_getMr C 7 5 (fun _ _ => rfl) (by decide) hinX4_mayTake_X4 (by decide +kernel) dX4_mayTake_31 ?_
  refine x_iload_n (i := 1) C dX4_mayTake_34 rfl rfl ?_
  refine x_ialdM C (by decide) (vp_in_nI hd (by decide)) (nI_clamp (by omega)) dX4_mayTake_35 ?_
  refine x_ishr C dX4_mayTake_36 ?_
  refine x_iconst (v := 1) C dX4_mayTake_37 (by decide) ?_
  refine x_iand C dX4_mayTake_38 ?_
  refine x_iconst (v := 1) C dX4_mayTake_39 (by decide) ?_
  refine x_join (J := 67) (st' := []) (fun z => z = b2i (forM V d9 c9)) (fun w_67 e_67 => ?_) (fun j_67 => ?_)
  · subst e_67
    refine x_istore (i := 5) C dX4_mayTake_67 (by decide) ?_
    refine x_aload_n (i := 0) C dX4_mayTake_69 rfl rfl ?_
    refine x_getMr C 2 1 (fun _ _ => rfl) (by decide) hinX4_mayTake_X4 (by decide +kernel) dX4_mayTake_70 ?_
    refine x_iload (i := 4) C dX4_mayTake_73 rfl ?_
    refine x_ialdM C (by decide) (hs.1 _ hc) rfl dX4_mayTake_75 ?_
    refine x_aload_n (i := 0) C dX4_mayTake_76 rfl rfl ?_
    refine x_getMr C 7 5 (fun _ _ => rfl) (by decide) hinX4_mayTake_X4 (by decide +kernel) dX4_mayTake_77 ?_
    refine x_iload_n (i := 1) C dX4_mayTake_80 rfl rfl ?_
    refine x_ialdM C (by decide) (vp_in_nI hd (by decide)) (nI_clamp (by omega)) dX4_mayTake_81 ?_
    refine x_ishr C dX4_mayTake_82 ?_
    refine x_iconst (v := 1) C dX4_mayTake_83 (by decide) ?_
    refine x_iand C dX4_mayTake_84 ?_
    refine x_iconst (v := 1) C dX4_mayTake_85 (by decide) ?_
    refine x_join (J := 105) (st' := []) (fun z => z = b2i (canM V d9 c9)) (fun w_105 e_105 => ?_) (fun j_105 => ?_)
    · subst e_105
      refine x_istore (i := 6) C dX4_mayTake_105 (by decide) ?_
      refine x_iload_n (i := 3) C dX4_mayTake_107 rfl rfl ?_
      refine x_aload_n (i := 0) C dX4_mayTake_108 rfl rfl ?_
      refine x_getMr C 21 18 (fun _ _ => rfl) (by decide) hinX4_mayTake_X4 (by decide +kernel) dX4_mayTake_109 ?_
      refine x_iconst (v := 3) C dX4_mayTake_112 (by decide) ?_
      refine x_iload_n (i := 2) C dX4_mayTake_113 rfl rfl ?_
      refine x_imul C dX4_mayTake_114 ?_
      refine x_aload_n (i := 0) C dX4_mayTake_115 rfl rfl ?_
      refine x_getMr C 20 17 (fun _ _ => rfl) (by decide) hinX4_mayTake_X4 (by decide +kernel) dX4_mayTake_116 ?_
      refine x_iload_n (i := 2) C dX4_mayTake_119 rfl rfl ?_
      refine x_ialdM C (by decide) (vp_in_nI hc (by decide)) (nI_clamp (by omega)) dX4_mayTake_120 ?_
      refine x_iadd C dX4_mayTake_121 ?_
      refine x_ialdM C (by decide) (idxr hc hs).2 (idxr hc hs).1 dX4_mayTake_122 ?_
      refine x_join (J := 144) (st' := []) (fun z => z = b2i (drwM V d9 c9)) (fun w_144 e_144 => ?_) (fun j_144 => ?_)
      · subst e_144
        refine x_istore (i := 7) C dX4_mayTake_144 (by decide) ?_
        refine x_aload_n (i := 0) C dX4_mayTake_146 rfl rfl ?_
        refine x_getMr C 12 10 (fun _ _ => rfl) (by decide) hinX4_mayTake_X4 (by decide +kernel) dX4_mayTake_147 ?_
        refine x_iload_n (i := 1) C dX4_mayTake_150 rfl rfl ?_
        refine x_ialdM C (by decide) (vp_in_nI hd (by decide)) (nI_clamp (by omega)) dX4_mayTake_151 ?_
        refine x_if_ne C 199 dX4_mayTake_152 (by decide) (fun c_152 => ?_) (fun c_152 => ?_)
        · have z9f : preM V d9 c9 = false := by simp [preM, c_152]
          refine x_iconst (v := 0) C dX4_mayTake_199 (by decide) ?_
          exact x_zret  C dX4_mayTake_200 ⟨Nat.le_of_ble_eq_true rfl, Nat.le_of_ble_eq_true rfl⟩ rfl ⟨by unfold mayTakeM; rw [z9f]; rfl, by unfold mtV; rw [z9f]; rfl⟩
        refine x_aload_n (i := 0) C dX4_mayTake_155 rfl rfl ?_
        refine x_getMr C 19 16 (fun _ _ => rfl) (by decide) hinX4_mayTake_X4 (by decide +kernel) dX4_mayTake_156 ?_
        refine x_iload_n (i := 2) C dX4_mayTake_159 rfl rfl ?_
        refine x_zaldM C (vp_in_nI hc (by decide)) (nI_clamp (by omega)) dX4_mayTake_160 ?_
        refine x_if_eq C 199 dX4_mayTake_161 (by decide) (fun c_161 => ?_) (fun c_161 => ?_)
        · have z9f : preM V d9 c9 = false := by simp [preM, show V 16 c9 = 0 from c_161]
          refine x_iconst (v := 0) C dX4_mayTake_199 (by decide) ?_
          exact x_zret  C dX4_mayTake_200 ⟨Nat.le_of_ble_eq_true rfl, Nat.le_of_ble_eq_true rfl⟩ rfl ⟨by unfold mayTakeM; rw [z9f]; rfl, by unfold mtV; rw [z9f]; rfl⟩
        refine x_iload (i := 5) C dX4_mayTake_164 rfl ?_
        refine x_if_eq C 199 dX4_mayTake_166 (by decide) (fun c_166 => ?_) (fun c_166 => ?_)
        · have z9f : preM V d9 c9 = false := by simp [preM, show forM V d9 c9 = false from (b2i_0 _).mp c_166]
          refine x_iconst (v := 0) C dX4_mayTake_199 (by decide) ?_
          exact x_zret  C dX4_mayTake_200 ⟨Nat.le_of_ble_eq_true rfl, Nat.le_of_ble_eq_true rfl⟩ rfl ⟨by unfold mayTakeM; rw [z9f]; rfl, by unfold mtV; rw [z9f]; rfl⟩
        refine x_iload (i := 6) C dX4_mayTake_169 rfl ?_
        refine x_if_eq C 199 dX4_mayTake_171 (by decide) (fun c_171 => ?_) (fun c_171 => ?_)
        · have z9f : preM V d9 c9 = false := by simp [preM, show canM V d9 c9 = false from (b2i_0 _).mp c_171]
          refine x_iconst (v := 0) C dX4_mayTake_199 (by decide) ?_
          exact x_zret  C dX4_mayTake_200 ⟨Nat.le_of_ble_eq_true rfl, Nat.le_of_ble_eq_true rfl⟩ rfl ⟨by unfold mayTakeM; rw [z9f]; rfl, by unfold mtV; rw [z9f]; rfl⟩
        refine x_iload (i := 7) C dX4_mayTake_174 rfl ?_
        refine x_if_eq C 199 dX4_mayTake_176 (by decide) (fun c_176 => ?_) (fun c_176 => ?_)
        · have z9f : preM V d9 c9 = false := by simp [preM, show drwM V d9 c9 = false from (b2i_0 _).mp c_176]
          refine x_iconst (v := 0) C dX4_mayTake_199 (by decide) ?_
          exact x_zret  C dX4_mayTake_200 ⟨Nat.le_of_ble_eq_true rfl, Nat.le_of_ble_eq_true rfl⟩ rfl ⟨by unfold mayTakeM; rw [z9f]; rfl, by unfold mtV; rw [z9f]; rfl⟩
        refine x_aload_n (i := 0) C dX4_mayTake_179 rfl rfl ?_
        refine x_aload_n (i := 0) C dX4_mayTake_180 rfl rfl ?_
        refine x_getMr C 8 6 (fun _ _ => rfl) (by decide) hinX4_mayTake_X4 (by decide +kernel) dX4_mayTake_181 ?_
        refine x_iload_n (i := 1) C dX4_mayTake_184 rfl rfl ?_
        refine x_ialdM C (by decide) (vp_in_nI hd (by decide)) (nI_clamp (by omega)) dX4_mayTake_185 ?_
        refine x_iload (i := 4) C dX4_mayTake_186 rfl ?_
        have z9 : preM V d9 c9 = true := by
          simp only [preM, Bool.and_eq_true, Bool.not_eq_true', decide_eq_false_iff_not, decide_eq_true_eq]
          exact ⟨c_152, c_161, b2i_n0 c_166, b2i_n0 c_171, b2i_n0 c_176⟩
        refine x_callVi C hE (k_X4_sizeOf l D cy b A X _ _ _ (hs.1 _ hc)) (cwV 2 C.2.2.2.2.1 gX4_mayTake_X4_sizeOf rfl rfl rfl (by decide +kernel) ⟨Nat.le_of_ble_eq_true rfl, Nat.le_of_ble_eq_true rfl⟩) 0 (mW_M cy b X _) rfl rfl rfl rfl (Nat.le_of_ble_eq_true rfl) dX4_mayTake_188 ⟨Nat.le_of_ble_eq_true rfl, Nat.le_of_ble_eq_true rfl⟩ (fun r_188 u_188 h_188 => ?_)
        obtain ⟨e8_188, e9_188⟩ := h_188
        rw [e8_188, e9_188]
        refine x_iconst (v := (-1)) C dX4_mayTake_191 (by decide) ?_
        refine x_icmp_eq C 199 dX4_mayTake_192 (by decide) (fun c_192 => ?_) (fun c_192 => ?_)
        · skip
          refine x_iconst (v := 0) C dX4_mayTake_199 (by decide) ?_
          exact x_zret  C dX4_mayTake_200 ⟨Nat.le_of_ble_eq_true rfl, Nat.le_of_ble_eq_true rfl⟩ rfl ⟨by unfold mayTakeM; rw [z9]; simp [b2i, c_192], by unfold mtV; rw [if_pos z9]⟩
        refine x_iconst (v := 1) C dX4_mayTake_195 (by decide) ?_
        refine x_goto C 200 dX4_mayTake_196 (by decide) ?_
        exact x_zret  C dX4_mayTake_200 ⟨Nat.le_of_ble_eq_true rfl, Nat.le_of_ble_eq_true rfl⟩ rfl ⟨by unfold mayTakeM; rw [z9]; simp [b2i, c_192], by unfold mtV; rw [if_pos z9]⟩
      refine x_icmp_ge C 143 dX4_mayTake_123 (by decide) (fun c_123 => ?_) (fun c_123 => ?_)
      · refine x_iconst (v := 0) C dX4_mayTake_143 (by decide) ?_
        exact j_144 _ (by simp [b2i, drwM, show V 18 (3 * c9 + (V 17 c9).toNatClampNeg) ≤ drM d9 c9 from c_123])
      refine x_aload_n (i := 0) C dX4_mayTake_126 rfl rfl ?_
      refine x_getMr C 26 23 (fun _ _ => rfl) (by decide) hinX4_mayTake_X4 (by decide +kernel) dX4_mayTake_127 ?_
      refine x_iload_n (i := 2) C dX4_mayTake_130 rfl rfl ?_
      refine x_ialdM C (by decide) (vp_in_nI hc (by decide)) (nI_clamp (by omega)) dX4_mayTake_131 ?_
      refine x_iload_n (i := 1) C dX4_mayTake_132 rfl rfl ?_
      refine x_ishr C dX4_mayTake_133 ?_
      refine x_iconst (v := 1) C dX4_mayTake_134 (by decide) ?_
      refine x_iand C dX4_mayTake_135 ?_
      refine x_if_ne C 143 dX4_mayTake_136 (by decide) (fun c_136 => ?_) (fun c_136 => ?_)
      · refine x_iconst (v := 0) C dX4_mayTake_143 (by decide) ?_
        exact j_144 _ (by simp [b2i, drwM, show ¬ V 18 (3 * c9 + (V 17 c9).toNatClampNeg) ≤ drM d9 c9 from c_123, show ¬ (V 23 c9 >>> (nI d9 &&& 31)) &&& 1 = 0 from c_136])
      refine x_iconst (v := 1) C dX4_mayTake_139 (by decide) ?_
      refine x_goto C 144 dX4_mayTake_140 (by decide) ?_
      exact j_144 _ (by simp [b2i, drwM, show ¬ V 18 (3 * c9 + (V 17 c9).toNatClampNeg) ≤ drM d9 c9 from c_123, show (V 23 c9 >>> (nI d9 &&& 31)) &&& 1 = 0 from c_136])
    refine x_icmp_ne C 104 dX4_mayTake_86 (by decide) (fun c_86 => ?_) (fun c_86 => ?_)
    · refine x_iconst (v := 0) C dX4_mayTake_104 (by decide) ?_
      exact j_105 _ (by (try simp only [b2i_0, Bool.not_eq_false] at c_86); simp [b2i, canM, hasB, c_86])
    refine x_aload_n (i := 0) C dX4_mayTake_89 rfl rfl ?_
    refine x_getMr C 8 6 (fun _ _ => rfl) (by decide) hinX4_mayTake_X4 (by decide +kernel) dX4_mayTake_90 ?_
    refine x_iload_n (i := 1) C dX4_mayTake_93 rfl rfl ?_
    refine x_ialdM C (by decide) (vp_in_nI hd (by decide)) (nI_clamp (by omega)) dX4_mayTake_94 ?_
    refine x_iload (i := 4) C dX4_mayTake_95 rfl ?_
    refine x_icmp_eq C 104 dX4_mayTake_97 (by decide) (fun c_97 => ?_) (fun c_97 => ?_)
    · refine x_iconst (v := 0) C dX4_mayTake_104 (by decide) ?_
      exact j_105 _ (by (try simp only [b2i_0, Bool.not_eq_false] at c_86 c_97); simp [b2i, canM, hasB, c_86, c_97])
    refine x_iconst (v := 1) C dX4_mayTake_100 (by decide) ?_
    refine x_goto C 105 dX4_mayTake_101 (by decide) ?_
    exact j_105 _ (by (try simp only [b2i_0, Bool.not_eq_false] at c_86 c_97); simp [b2i, canM, hasB, c_86, c_97])
  refine x_icmp_ne C 66 dX4_mayTake_40 (by decide) (fun c_40 => ?_) (fun c_40 => ?_)
  · refine x_iconst (v := 0) C dX4_mayTake_66 (by decide) ?_
    exact j_67 _ (by (try simp only [b2i_0, Bool.not_eq_false] at c_40); simp [b2i, forM, hasB, c_40])
  refine x_aload_n (i := 0) C dX4_mayTake_43 rfl rfl ?_
  refine x_getMr C 18 15 (fun _ _ => rfl) (by decide) hinX4_mayTake_X4 (by decide +kernel) dX4_mayTake_44 ?_
  refine x_iload_n (i := 2) C dX4_mayTake_47 rfl rfl ?_
  refine x_ialdM C (by decide) (vp_in_nI hc (by decide)) (nI_clamp (by omega)) dX4_mayTake_48 ?_
  refine x_aload_n (i := 0) C dX4_mayTake_49 rfl rfl ?_
  refine x_getMr C 8 6 (fun _ _ => rfl) (by decide) hinX4_mayTake_X4 (by decide +kernel) dX4_mayTake_50 ?_
  refine x_iload_n (i := 1) C dX4_mayTake_53 rfl rfl ?_
  refine x_ialdM C (by decide) (vp_in_nI hd (by decide)) (nI_clamp (by omega)) dX4_mayTake_54 ?_
  refine x_ishr C dX4_mayTake_55 ?_
  refine x_iconst (v := 1) C dX4_mayTake_56 (by decide) ?_
  refine x_iand C dX4_mayTake_57 ?_
  refine x_iconst (v := 1) C dX4_mayTake_58 (by decide) ?_
  refine x_icmp_ne C 66 dX4_mayTake_59 (by decide) (fun c_59 => ?_) (fun c_59 => ?_)
  · refine x_iconst (v := 0) C dX4_mayTake_66 (by decide) ?_
    exact j_67 _ (by (try simp only [b2i_0, Bool.not_eq_false] at c_40 c_59); simp [b2i, forM, hasB, c_40, c_59])
  refine x_iconst (v := 1) C dX4_mayTake_62 (by decide) ?_
  refine x_goto C 67 dX4_mayTake_63 (by decide) ?_
  exact j_67 _ (by (try simp only [b2i_0, Bool.not_eq_false] at c_40 c_59); simp [b2i, forM, hasB, c_40, c_59])
theorem hinX4_eligible_X4 : ∀ w ∈ wsX40, w ∈ wsX4_eligible := by decide +kernel
def rmX4_eligible : Room := { frames := 3, cells := 0, slots := 0, locals := 64 }
set_option maxHeartbeats 4000000 in
set_option maxRecDepth 100000 in
theorem k_X4_eligible (l : Launch) (D : va_G) (cy : Nat → ClassId) (b : Nat → Nat) (A : Nat → Prop) (X : va_W) (V : XV) (q : Int32) {n m9 : Nat} (hn : V 0 6 = nI n) (hn10 : n ≤ 10) (hm : V 0 15 = nI m9) (hm6 : m9 ≤ 6) (hs : safeM V) : Met l yX4_eligible wsX4_eligible rmX4_eligible (va_Pc [.ref (b 0), .int q] (xPre D (tyC cy) A (mW cy b X V))) (va_Qi (fun (r : Int32) (u : XV) => (¬ codeCam V q = 0 → r = 0 ∧ u = xs V 0 0 (codeCam V q)) ∧ (codeCam V q = 0 → r = meI (xs V 0 0 (codeCam V q)) q.toNatClampNeg n ∧ u = meV (xs V 0 0 (codeCam V q)) q.toNatClampNeg n)) (fun u t => xPost D (tyC cy) A (mW cy b X u) t) A) 0 0 A := by
  refine x_met (own := RX4) (by decide) rfl rfl (Nat.le_of_ble_eq_true rfl) rfl ?_
  intro p e s m below meth c hnm C hE
  refine x_aload_n (i := 0) C dX4_eligible_0 rfl rfl ?_
  refine x_iload_n (i := 1) C dX4_eligible_1 rfl rfl ?_
  refine x_callVi C hE (k_X4_noCampaign l D cy b A X _ _) (cwV 1 C.2.2.2.2.1 gX4_eligible_X4_noCampaign rfl rfl rfl (by decide +kernel) ⟨Nat.le_of_ble_eq_true rfl, Nat.le_of_ble_eq_true rfl⟩) 0 (mW_M cy b X _) rfl rfl rfl rfl (Nat.le_of_ble_eq_true rfl) dX4_eligible_2 ⟨Nat.le_of_ble_eq_true rfl, Nat.le_of_ble_eq_true rfl⟩ (fun r_2 u_2 h_2 => ?_)
  obtain ⟨e8_2, e9_2⟩ := h_2
  rw [e8_2, e9_2]
  refine x_if_eq C 10 dX4_eligible_5 (by decide) (fun c_5 => ?_) (fun c_5 => ?_)
  · have hq9 := codeCam_in (cod0 c_5) hm hm6
    have eq9 := nI_of_in hq9 (by decide)
    have hs1 : safeM (xs V 0 0 (codeCam V q)) := ⟨fun c hc => by rw [xs_get _ _ (by omega)]; exact hs.1 c hc, fun c hc => by rw [xs_get _ _ (by omega)]; exact hs.2 c hc⟩
    refine x_iconst (v := 0) C dX4_eligible_10 (by decide) ?_
    refine x_istore_n (i := 2) C dX4_eligible_11 rfl (by decide) ?_
    refine x_iconst (v := 0) C dX4_eligible_12 (by decide) ?_
    refine x_istore_n (i := 3) C dX4_eligible_13 rfl (by decide) ?_
    refine x_subm (lv' := [(3, .int (nI 0)), (2, .int (meI (xs V 0 0 (codeCam V q)) q.toNatClampNeg 0)), (0, .ref (b 0)), (1, .int q)]) ?_ rfl
    refine x_count (N := n) (fun d => xA p l e rmX4_eligible s m _ below meth c D A 4 0 0 _ 14 [(3, .int (nI d)), (2, .int (meI (xs V 0 0 (codeCam V q)) q.toNatClampNeg d)), (0, .ref (b 0)), (1, .int q)] [] (mW cy b X (meV (xs V 0 0 (codeCam V q)) q.toNatClampNeg d))) ?_ ?_
    · refine x_iload_n (i := 3) C dX4_eligible_14 rfl rfl ?_
      refine x_aload_n (i := 0) C dX4_eligible_15 rfl rfl ?_
      refine x_getM C 6 mI_6 hinX4_eligible_X4 (by decide +kernel) dX4_eligible_16 ?_
      refine x_icmp_ge C 47 dX4_eligible_19 (by decide) (fun c_19 => ?_) (fun c_19 => absurd (by rw [(show meV (xs V 0 0 (codeCam V q)) q.toNatClampNeg n 0 6 = nI n by rw [meV_4 _ _ _ _ _ (by decide), xs_get _ _ (by omega), hn])]; exact nI_le (Nat.le_refl _) (by omega)) c_19)
      refine x_iload_n (i := 2) C dX4_eligible_47 rfl rfl ?_
      exact x_iret  C dX4_eligible_48 ⟨Nat.le_of_ble_eq_true rfl, Nat.le_of_ble_eq_true rfl⟩ ⟨fun h9 => absurd (cod0 c_5) h9, fun _ => ⟨rfl, rfl⟩⟩
    intro d hd ihd
    refine x_iload_n (i := 3) C dX4_eligible_14 rfl rfl ?_
    refine x_aload_n (i := 0) C dX4_eligible_15 rfl rfl ?_
    refine x_getM C 6 mI_6 hinX4_eligible_X4 (by decide +kernel) dX4_eligible_16 ?_
    refine x_icmp_ge C 47 dX4_eligible_19 (by decide) (fun c_19 => absurd c_19 (by rw [(show (meV (xs V 0 0 (codeCam V q)) q.toNatClampNeg d) 0 6 = nI n by rw [meV_4 _ _ _ _ _ (by decide), xs_get _ _ (by omega), hn])]; exact nI_ge hd (by omega))) (fun c_19 => ?_)
    refine x_iload_n (i := 2) C dX4_eligible_22 rfl rfl ?_
    refine x_aload_n (i := 0) C dX4_eligible_23 rfl rfl ?_
    refine x_iload_n (i := 3) C dX4_eligible_24 rfl rfl ?_
    refine x_iload_n (i := 1) C dX4_eligible_25 rfl rfl ?_
    refine x_st (st' := [.int (nI q.toNatClampNeg), .int (nI d), .ref (b 0), .int (meI (xs V 0 0 (codeCam V q)) q.toNatClampNeg d)]) (by rw [← eq9]) ?_
    refine x_callVi C hE (k_X4_mayTake l D cy b A X _ (show d < 10 by omega) (vp_at hq9) ⟨fun c hc => by rw [meV_4 _ _ _ _ _ (by decide)]; exact hs1.1 c hc, fun c hc => by rw [meV_4 _ _ _ _ _ (by decide)]; exact hs1.2 c hc⟩) (cwV 2 C.2.2.2.2.1 gX4_eligible_X4_mayTake rfl rfl rfl (by decide +kernel) ⟨Nat.le_of_ble_eq_true rfl, Nat.le_of_ble_eq_true rfl⟩) 0 (mW_M cy b X _) rfl rfl rfl rfl (Nat.le_of_ble_eq_true rfl) dX4_eligible_26 ⟨Nat.le_of_ble_eq_true rfl, Nat.le_of_ble_eq_true rfl⟩ (fun r_26 u_26 h_26 => ?_)
    obtain ⟨e8_26, e9_26⟩ := h_26
    rw [e8_26, e9_26]
    refine x_if_eq C 38 dX4_eligible_29 (by decide) (fun c_29 => ?_) (fun c_29 => ?_)
    · refine x_iconst (v := 0) C dX4_eligible_38 (by decide) ?_
      refine x_ior C dX4_eligible_39 ?_
      refine x_istore_n (i := 2) C dX4_eligible_40 rfl (by decide) ?_
      refine x_iinc (v := nI (d + 1)) C dX4_eligible_41 rfl (inc1 d) ?_
      refine x_goto C 14 dX4_eligible_44 (by decide) ?_
      first | (have e8 : meI (xs V 0 0 (codeCam V q)) q.toNatClampNeg (d + 1) = meI (xs V 0 0 (codeCam V q)) q.toNatClampNeg d ||| 0 := congrArg (fun y => meI (xs V 0 0 (codeCam V q)) q.toNatClampNeg d ||| y) (if_neg (b2i_z c_29)); rw [e8] at ihd; exact x_subm ihd rfl) | (have e8 : meI (xs V 0 0 (codeCam V q)) q.toNatClampNeg (d + 1) = meI (xs V 0 0 (codeCam V q)) q.toNatClampNeg d ||| (1 <<< (nI d &&& 31)) := congrArg (fun y => meI (xs V 0 0 (codeCam V q)) q.toNatClampNeg d ||| y) (if_pos (b2i_n0 c_29)); rw [e8] at ihd; exact x_subm ihd rfl)
    refine x_iconst (v := 1) C dX4_eligible_32 (by decide) ?_
    refine x_iload_n (i := 3) C dX4_eligible_33 rfl rfl ?_
    refine x_ishl C dX4_eligible_34 ?_
    refine x_goto C 39 dX4_eligible_35 (by decide) ?_
    refine x_ior C dX4_eligible_39 ?_
    refine x_istore_n (i := 2) C dX4_eligible_40 rfl (by decide) ?_
    refine x_iinc (v := nI (d + 1)) C dX4_eligible_41 rfl (inc1 d) ?_
    refine x_goto C 14 dX4_eligible_44 (by decide) ?_
    first | (have e8 : meI (xs V 0 0 (codeCam V q)) q.toNatClampNeg (d + 1) = meI (xs V 0 0 (codeCam V q)) q.toNatClampNeg d ||| 0 := congrArg (fun y => meI (xs V 0 0 (codeCam V q)) q.toNatClampNeg d ||| y) (if_neg (b2i_z c_29)); rw [e8] at ihd; exact x_subm ihd rfl) | (have e8 : meI (xs V 0 0 (codeCam V q)) q.toNatClampNeg (d + 1) = meI (xs V 0 0 (codeCam V q)) q.toNatClampNeg d ||| (1 <<< (nI d &&& 31)) := congrArg (fun y => meI (xs V 0 0 (codeCam V q)) q.toNatClampNeg d ||| y) (if_pos (b2i_n0 c_29)); rw [e8] at ihd; exact x_subm ihd rfl)
  refine x_iconst (v := 0) C dX4_eligible_8 (by decide) ?_
  exact x_iret  C dX4_eligible_9 ⟨Nat.le_of_ble_eq_true rfl, Nat.le_of_ble_eq_true rfl⟩ ⟨fun _ => ⟨rfl, rfl⟩, fun h9 => absurd h9 (cod1 c_5)⟩
theorem hinX4_take_X4 : ∀ w ∈ wsX40, w ∈ wsX4_take := by decide +kernel
def rmX4_take : Room := { frames := 2, cells := 0, slots := 0, locals := 51 }
set_option maxHeartbeats 4000000 in
set_option maxRecDepth 100000 in
theorem k_X4_take (l : Launch) (D : va_G) (cy : Nat → ClassId) (b : Nat → Nat) (A : Nat → Prop) (X : va_W) (V : XV) {d9 : Nat} (hd : d9 < 10) {m9 : Nat} (hm : V 0 15 = nI m9) (hm6 : m9 ≤ 6) (hs : safeM V) : Met l yX4_take wsX4_take rmX4_take (va_Pc [.ref (b 0), .int (nI d9)] (xPre D (tyC cy) A (mW cy b X V))) (va_Qv (fun (u : XV) => u = tkV V d9 m9) (fun u t => xPost D (tyC cy) A (mW cy b X u) t) A) 0 0 A := by
  refine x_met (own := RX4) (by decide) rfl rfl (Nat.le_of_ble_eq_true rfl) rfl ?_
  intro p e s m below meth c hnm C hE
  refine x_iconst (v := 0) C dX4_take_0 (by decide) ?_
  refine x_istore_n (i := 2) C dX4_take_1 rfl (by decide) ?_
  refine x_subm (lv' := [(2, .int (nI 0)), (0, .ref (b 0)), (1, .int (nI d9))]) ?_ rfl
  refine x_count (N := m9) (fun c9 => xA p l e rmX4_take s m _ below meth c D A 3 0 0 _ 2 [(2, .int (nI c9)), (0, .ref (b 0)), (1, .int (nI d9))] [] (mW cy b X (tkV V d9 c9))) ?_ ?_
  · refine x_iload_n (i := 2) C dX4_take_2 rfl rfl ?_
    refine x_aload_n (i := 0) C dX4_take_3 rfl rfl ?_
    refine x_getM C 15 mI_15 hinX4_take_X4 (by decide +kernel) dX4_take_4 ?_
    refine x_icmp_ge C 61 dX4_take_7 (by decide) (fun c_7 => ?_) (fun c_7 => absurd (by rw [tkV_keep V d9 m9 0 15 (by omega) (by omega), hm]; exact nI_le (Nat.le_refl _) (by omega)) c_7)
    exact x_vret  C dX4_take_61 ⟨Nat.le_of_ble_eq_true rfl, Nat.le_of_ble_eq_true rfl⟩ rfl
  intro c9 hc9 ihc9
  refine x_iload_n (i := 2) C dX4_take_2 rfl rfl ?_
  refine x_aload_n (i := 0) C dX4_take_3 rfl rfl ?_
  refine x_getM C 15 mI_15 hinX4_take_X4 (by decide +kernel) dX4_take_4 ?_
  refine x_icmp_ge C 61 dX4_take_7 (by decide) (fun c_7 => absurd c_7 (by rw [(tkV_keep V d9 c9) 0 15 (by omega) (by omega), hm]; exact nI_ge hc9 (by omega))) (fun c_7 => ?_)
  refine x_aload_n (i := 0) C dX4_take_10 rfl rfl ?_
  refine x_iload_n (i := 1) C dX4_take_11 rfl rfl ?_
  refine x_iload_n (i := 2) C dX4_take_12 rfl rfl ?_
  refine x_callVi C hE (k_X4_mayTake l D cy b A X _ hd (show c9 < 6 by omega) (hs.keep (tkV_keep V d9 c9))) (cwV 2 C.2.2.2.2.1 gX4_take_X4_mayTake rfl rfl rfl (by decide +kernel) ⟨Nat.le_of_ble_eq_true rfl, Nat.le_of_ble_eq_true rfl⟩) 0 (mW_M cy b X _) rfl rfl rfl rfl (Nat.le_of_ble_eq_true rfl) dX4_take_13 ⟨Nat.le_of_ble_eq_true rfl, Nat.le_of_ble_eq_true rfl⟩ (fun r_13 u_13 h_13 => ?_)
  obtain ⟨e8_13, e9_13⟩ := h_13
  rw [e8_13, e9_13]
  refine x_if_eq C 55 dX4_take_16 (by decide) (fun c_16 => ?_) (fun c_16 => ?_)
  · refine x_iinc (v := nI (c9 + 1)) C dX4_take_55 rfl (inc1 c9) ?_
    refine x_goto C 2 dX4_take_58 (by decide) ?_
    first | (have e8 : tkV V d9 (c9 + 1) = mtV (tkV V d9 c9) d9 c9 := if_neg (b2i_z c_16); rw [e8] at ihc9; exact x_subm ihc9 rfl) | (have e8 : tkV V d9 (c9 + 1) = tk2 (tkV V d9 c9) d9 c9 := if_pos (b2i_n0 c_16); rw [e8] at ihc9; exact x_subm ihc9 rfl)
  refine x_aload_n (i := 0) C dX4_take_19 rfl rfl ?_
  refine x_getMr C 13 11 (fun _ _ => rfl) (by decide) hinX4_take_X4 (by decide +kernel) dX4_take_20 ?_
  refine x_iload_n (i := 1) C dX4_take_23 rfl rfl ?_
  refine x_iload_n (i := 2) C dX4_take_24 rfl rfl ?_
  refine x_iastM C (by decide) (vp_in_nI hd (by decide)) (nI_clamp (by omega)) dX4_take_25 ?_
  refine x_aload_n (i := 0) C dX4_take_26 rfl rfl ?_
  refine x_getMr C 14 12 (fun _ _ => rfl) (by decide) hinX4_take_X4 (by decide +kernel) dX4_take_27 ?_
  refine x_iload_n (i := 1) C dX4_take_30 rfl rfl ?_
  refine x_aload_n (i := 0) C dX4_take_31 rfl rfl ?_
  refine x_aload_n (i := 0) C dX4_take_32 rfl rfl ?_
  refine x_getMr C 8 6 (fun _ _ => rfl) (by decide) hinX4_take_X4 (by decide +kernel) dX4_take_33 ?_
  refine x_iload_n (i := 1) C dX4_take_36 rfl rfl ?_
  refine x_ialdM C (by decide) (vp_in_nI hd (by decide)) (nI_clamp (by omega)) dX4_take_37 ?_
  refine x_aload_n (i := 0) C dX4_take_38 rfl rfl ?_
  refine x_getMr C 16 13 (fun _ _ => rfl) (by decide) hinX4_take_X4 (by decide +kernel) dX4_take_39 ?_
  refine x_iload_n (i := 2) C dX4_take_42 rfl rfl ?_
  refine x_ialdM C (by decide) (vp_in_nI (show c9 < 6 by omega) (by decide)) (nI_clamp (by omega)) dX4_take_43 ?_
  refine x_callVi C hE (k_X4_sizeOf l D cy b A X _ _ _ (by rw [xs_get _ _ (by omega), mtV_4 _ _ _ _ _ (by decide)]; exact (hs.keep (tkV_keep V d9 c9)).1 c9 (by omega))) (cwV 2 C.2.2.2.2.1 gX4_take_X4_sizeOf rfl rfl rfl (by decide +kernel) ⟨Nat.le_of_ble_eq_true rfl, Nat.le_of_ble_eq_true rfl⟩) 0 (mW_M cy b X _) rfl rfl rfl rfl (Nat.le_of_ble_eq_true rfl) dX4_take_44 ⟨Nat.le_of_ble_eq_true rfl, Nat.le_of_ble_eq_true rfl⟩ (fun r_44 u_44 h_44 => ?_)
  obtain ⟨e8_44, e9_44⟩ := h_44
  rw [e8_44, e9_44]
  refine x_iastM C (by decide) (vp_in_nI hd (by decide)) (nI_clamp (by omega)) dX4_take_47 ?_
  refine x_aload_n (i := 0) C dX4_take_48 rfl rfl ?_
  refine x_getMr C 12 10 (fun _ _ => rfl) (by decide) hinX4_take_X4 (by decide +kernel) dX4_take_49 ?_
  refine x_iload_n (i := 1) C dX4_take_52 rfl rfl ?_
  refine x_iconst (v := 1) C dX4_take_53 (by decide) ?_
  refine x_iastM C (by decide) (vp_in_nI hd (by decide)) (nI_clamp (by omega)) dX4_take_54 ?_
  refine x_iinc (v := nI (c9 + 1)) C dX4_take_55 rfl (inc1 c9) ?_
  refine x_goto C 2 dX4_take_58 (by decide) ?_
  first | (have e8 : tkV V d9 (c9 + 1) = mtV (tkV V d9 c9) d9 c9 := if_neg (b2i_z c_16); rw [e8] at ihc9; exact x_subm ihc9 rfl) | (have e8 : tkV V d9 (c9 + 1) = tk2 (tkV V d9 c9) d9 c9 := if_pos (b2i_n0 c_16); rw [e8] at ihc9; exact x_subm ihc9 rfl)
theorem hinX4_isOpen_X4 : ∀ w ∈ wsX40, w ∈ wsX4_isOpen := by decide +kernel
def rmX4_isOpen : Room := { frames := 1, cells := 0, slots := 0, locals := 22 }
set_option maxHeartbeats 4000000 in
set_option maxRecDepth 100000 in
theorem k_X4_isOpen (l : Launch) (D : va_G) (cy : Nat → ClassId) (b : Nat → Nat) (A : Nat → Prop) (X : va_W) (V : XV) {d9 : Nat} (hd : d9 < 10) : Met l yX4_isOpen wsX4_isOpen rmX4_isOpen (va_Pc [.ref (b 0), .int (nI d9)] (xPre D (tyC cy) A (mW cy b X V))) (va_Qi (fun (r : Int32) (u : XV) => r = b2i (openM V d9) ∧ u = V) (fun u t => xPost D (tyC cy) A (mW cy b X u) t) A) 0 0 A := by
  refine x_met (own := RX4) (by decide) rfl rfl (Nat.le_of_ble_eq_true rfl) rfl ?_
  intro p e s m below meth c hnm C hE
  refine x_aload_n (i := 0) C dX4_isOpen_0 rfl rfl ?_
  refine x_getM C 1 mI_1 hinX4_isOpen_X4 (by decide +kernel) dX4_isOpen_1 ?_
  refine x_bipush (v := 24) C dX4_isOpen_4 (by decide) ?_
  refine x_irem C dX4_isOpen_6 (by decide) ?_
  refine x_istore_n (i := 2) C dX4_isOpen_7 rfl (by decide) ?_
  refine x_aload_n (i := 0) C dX4_isOpen_8 rfl rfl ?_
  refine x_getMr C 10 8 (fun _ _ => rfl) (by decide) hinX4_isOpen_X4 (by decide +kernel) dX4_isOpen_9 ?_
  refine x_iload_n (i := 1) C dX4_isOpen_12 rfl rfl ?_
  refine x_ialdM C (by decide) (vp_in_nI hd (by decide)) (nI_clamp (by omega)) dX4_isOpen_13 ?_
  refine x_istore_n (i := 3) C dX4_isOpen_14 rfl (by decide) ?_
  refine x_aload_n (i := 0) C dX4_isOpen_15 rfl rfl ?_
  refine x_getMr C 11 9 (fun _ _ => rfl) (by decide) hinX4_isOpen_X4 (by decide +kernel) dX4_isOpen_16 ?_
  refine x_iload_n (i := 1) C dX4_isOpen_19 rfl rfl ?_
  refine x_ialdM C (by decide) (vp_in_nI hd (by decide)) (nI_clamp (by omega)) dX4_isOpen_20 ?_
  refine x_istore (i := 4) C dX4_isOpen_21 (by decide) ?_
  refine x_iload_n (i := 3) C dX4_isOpen_23 rfl rfl ?_
  refine x_iload (i := 4) C dX4_isOpen_24 rfl ?_
  refine x_icmp_gt C 39 dX4_isOpen_26 (by decide) (fun c_26 => ?_) (fun c_26 => ?_)
  · refine x_iload_n (i := 2) C dX4_isOpen_39 rfl rfl ?_
    refine x_iload_n (i := 3) C dX4_isOpen_40 rfl rfl ?_
    refine x_icmp_ge C 50 dX4_isOpen_41 (by decide) (fun c_41 => ?_) (fun c_41 => ?_)
    · refine x_iconst (v := 1) C dX4_isOpen_50 (by decide) ?_
      refine x_goto C 55 dX4_isOpen_51 (by decide) ?_
      exact x_zret  C dX4_isOpen_55 ⟨Nat.le_of_ble_eq_true rfl, Nat.le_of_ble_eq_true rfl⟩ rfl ⟨by unfold openM; rw [if_pos (show V 9 d9 < V 8 d9 from c_26)]; simp [b2i, show V 8 d9 ≤ V 0 1 - V 0 1 / 24 * 24 from c_41], rfl⟩
    refine x_iload_n (i := 2) C dX4_isOpen_44 rfl rfl ?_
    refine x_iload (i := 4) C dX4_isOpen_45 rfl ?_
    refine x_icmp_gt C 54 dX4_isOpen_47 (by decide) (fun c_47 => ?_) (fun c_47 => ?_)
    · refine x_iconst (v := 0) C dX4_isOpen_54 (by decide) ?_
      exact x_zret  C dX4_isOpen_55 ⟨Nat.le_of_ble_eq_true rfl, Nat.le_of_ble_eq_true rfl⟩ rfl ⟨by unfold openM; rw [if_pos (show V 9 d9 < V 8 d9 from c_26)]; simp [b2i, show ¬ V 8 d9 ≤ V 0 1 - V 0 1 / 24 * 24 from c_41, show V 9 d9 < V 0 1 - V 0 1 / 24 * 24 from c_47], rfl⟩
    refine x_iconst (v := 1) C dX4_isOpen_50 (by decide) ?_
    refine x_goto C 55 dX4_isOpen_51 (by decide) ?_
    exact x_zret  C dX4_isOpen_55 ⟨Nat.le_of_ble_eq_true rfl, Nat.le_of_ble_eq_true rfl⟩ rfl ⟨by unfold openM; rw [if_pos (show V 9 d9 < V 8 d9 from c_26)]; simp [b2i, show ¬ V 8 d9 ≤ V 0 1 - V 0 1 / 24 * 24 from c_41, show ¬ V 9 d9 < V 0 1 - V 0 1 / 24 * 24 from c_47], rfl⟩
  refine x_iload_n (i := 2) C dX4_isOpen_29 rfl rfl ?_
  refine x_iload_n (i := 3) C dX4_isOpen_30 rfl rfl ?_
  refine x_iload (i := 4) C dX4_isOpen_31 rfl ?_
  refine x_callSi C hE (k_X4_in l D _ A _ _ _ _) (va_cwS 3 C.2.2.2.2.1 gX4_isOpen_X4_in rfl rfl rfl (by decide +kernel) ⟨Nat.le_of_ble_eq_true rfl, Nat.le_of_ble_eq_true rfl⟩)  rfl rfl (Nat.le_of_ble_eq_true rfl) dX4_isOpen_33 ⟨Nat.le_of_ble_eq_true rfl, Nat.le_of_ble_eq_true rfl⟩ (fun r_33 u_33 h_33 => ?_)
  subst h_33
  refine x_goto C 55 dX4_isOpen_36 (by decide) ?_
  exact x_zret  C dX4_isOpen_55 ⟨Nat.le_of_ble_eq_true rfl, Nat.le_of_ble_eq_true rfl⟩ (nz (b2i_01 _)) ⟨by unfold openM; rw [if_neg c_26], rfl⟩
theorem codePass_h {h : Int32} (e : codePass h = 0) : ∃ N : Nat, N < 101 ∧ h = nI N := by
  have h1 := (ite_ne e (by decide)).1
  obtain ⟨h2, h3⟩ := inB_lt h1
  refine nRx_h (h := h) ?_
  unfold nRx
  rw [if_neg h2, if_pos ?_]
  rw [Int32.le_iff_toInt_le]
  have a2 : ¬ (100 : Int32).toInt < h.toInt := fun z => h3 (Int32.lt_iff_toInt_lt.mpr z)
  omega
theorem hinX4_pass_X4 : ∀ w ∈ wsX40, w ∈ wsX4_pass := by decide +kernel
def rmX4_pass : Room := { frames := 3, cells := 0, slots := 0, locals := 73 }
set_option maxHeartbeats 4000000 in
set_option maxRecDepth 100000 in
theorem k_X4_pass (l : Launch) (D : va_G) (cy : Nat → ClassId) (b : Nat → Nat) (A : Nat → Prop) (X : va_W) (V : XV) (h9 : Int32) {n m9 : Nat} (hn : V 0 6 = nI n) (hn10 : n ≤ 10) (hm : V 0 15 = nI m9) (hm6 : m9 ≤ 6) (hs : safeM V) : Met l yX4_pass wsX4_pass rmX4_pass (va_Pc [.ref (b 0), .int h9] (xPre D (tyC cy) A (mW cy b X V))) (va_Qi (fun (r : Int32) (u : XV) => (¬ codePass h9 = 0 → r = 0 ∧ u = xs V 0 0 (codePass h9)) ∧ (codePass h9 = 0 → r = paN (xs V 0 0 (codePass h9)) n m9 h9.toNatClampNeg ∧ u = paM (xs V 0 0 (codePass h9)) n m9 h9.toNatClampNeg)) (fun u t => xPost D (tyC cy) A (mW cy b X u) t) A) 0 0 A := by
  refine x_met (own := RX4) (by decide) rfl rfl (Nat.le_of_ble_eq_true rfl) rfl ?_
  intro p e s m below meth c hnm C hE
  refine x_aload_n (i := 0) C dX4_pass_0 rfl rfl ?_
  refine x_iload_n (i := 1) C dX4_pass_1 rfl rfl ?_
  refine x_iconst (v := 1) C dX4_pass_2 (by decide) ?_
  refine x_bipush (v := 100) C dX4_pass_3 (by decide) ?_
  refine x_callSi C hE (k_X4_in l D _ A _ _ _ _) (va_cwS 3 C.2.2.2.2.1 gX4_pass_X4_in rfl rfl rfl (by decide +kernel) ⟨Nat.le_of_ble_eq_true rfl, Nat.le_of_ble_eq_true rfl⟩)  rfl rfl (Nat.le_of_ble_eq_true rfl) dX4_pass_5 ⟨Nat.le_of_ble_eq_true rfl, Nat.le_of_ble_eq_true rfl⟩ (fun r_5 u_5 h_5 => ?_)
  subst h_5
  refine x_join (J := 16) (st' := [.ref (b 0)]) (fun z => z = codePass h9) (fun w_16 e_16 => ?_) (fun j_16 => ?_)
  · subst e_16
    refine x_callVi C hE (k_X4_refused l D cy b A X _ _) (cwV 1 C.2.2.2.2.1 gX4_pass_X4_refused rfl rfl rfl (by decide +kernel) ⟨Nat.le_of_ble_eq_true rfl, Nat.le_of_ble_eq_true rfl⟩) 0 (mW_M cy b X _) rfl rfl rfl rfl (Nat.le_of_ble_eq_true rfl) dX4_pass_16 ⟨Nat.le_of_ble_eq_true rfl, Nat.le_of_ble_eq_true rfl⟩ (fun r_16 u_16 h_16 => ?_)
    obtain ⟨e8_16, e9_16⟩ := h_16
    rw [e8_16, e9_16]
    refine x_if_eq C 24 dX4_pass_19 (by decide) (fun c_19 => ?_) (fun c_19 => ?_)
    · obtain ⟨N, hN, eh⟩ := codePass_h (cod0 c_19)
      have hs1 : safeM (xs V 0 0 (codePass h9)) := ⟨fun c hc => by rw [xs_get _ _ (by omega)]; exact hs.1 c hc, fun c hc => by rw [xs_get _ _ (by omega)]; exact hs.2 c hc⟩
      have hn1 : (xs V 0 0 (codePass h9)) 0 6 = nI n := by rw [xs_get _ _ (by omega), hn]
      have hm1 : (xs V 0 0 (codePass h9)) 0 15 = nI m9 := by rw [xs_get _ _ (by omega), hm]
      refine x_iconst (v := 0) C dX4_pass_24 (by decide) ?_
      refine x_istore_n (i := 2) C dX4_pass_25 rfl (by decide) ?_
      refine x_iconst (v := 0) C dX4_pass_26 (by decide) ?_
      refine x_istore_n (i := 3) C dX4_pass_27 rfl (by decide) ?_
      refine x_subm (lv' := [(3, .int (nI 0)), (2, .int (paN (xs V 0 0 (codePass h9)) n m9 0)), (0, .ref (b 0)), (1, .int h9)]) ?_ rfl
      refine x_count (N := N) (fun k => xA p l e rmX4_pass s m _ below meth c D A 5 0 0 _ 28 [(3, .int (nI k)), (2, .int (paN (xs V 0 0 (codePass h9)) n m9 k)), (0, .ref (b 0)), (1, .int h9)] [] (mW cy b X (paM (xs V 0 0 (codePass h9)) n m9 k))) ?_ ?_
      · refine x_iload_n (i := 3) C dX4_pass_28 rfl rfl ?_
        refine x_iload_n (i := 1) C dX4_pass_29 rfl rfl ?_
        refine x_icmp_ge C 189 dX4_pass_30 (by decide) (fun c_30 => ?_) (fun c_30 => absurd (by rw [eh]; exact nI_le (Nat.le_refl _) (by omega)) c_30)
        refine x_iload_n (i := 2) C dX4_pass_189 rfl rfl ?_
        exact x_iret  C dX4_pass_190 ⟨Nat.le_of_ble_eq_true rfl, Nat.le_of_ble_eq_true rfl⟩ ⟨fun h9 => absurd (cod0 c_19) h9, fun _ => ⟨by rw [eh, nI_clamp (by omega)], by rw [eh, nI_clamp (by omega)]⟩⟩
      intro k hk ihk
      refine x_iload_n (i := 3) C dX4_pass_28 rfl rfl ?_
      refine x_iload_n (i := 1) C dX4_pass_29 rfl rfl ?_
      refine x_icmp_ge C 189 dX4_pass_30 (by decide) (fun c_30 => absurd c_30 (by rw [eh]; exact nI_ge hk (by omega))) (fun c_30 => ?_)
      refine x_iconst (v := 0) C dX4_pass_33 (by decide) ?_
      refine x_istore (i := 4) C dX4_pass_34 (by decide) ?_
      refine x_subm (lv' := [(4, .int (nI 0)), (3, .int (nI k)), (2, .int (pmT (paM (xs V 0 0 (codePass h9)) n m9 k) m9 (paN (xs V 0 0 (codePass h9)) n m9 k) 0)), (0, .ref (b 0)), (1, .int h9)]) ?_ rfl
      refine x_count (N := n) (fun d => xA p l e rmX4_pass s m _ below meth c D A 5 0 0 _ 36 [(4, .int (nI d)), (3, .int (nI k)), (2, .int (pmT (paM (xs V 0 0 (codePass h9)) n m9 k) m9 (paN (xs V 0 0 (codePass h9)) n m9 k) d)), (0, .ref (b 0)), (1, .int h9)] [] (mW cy b X (pmV (paM (xs V 0 0 (codePass h9)) n m9 k) m9 d))) ?_ ?_
      · refine x_iload (i := 4) C dX4_pass_36 rfl ?_
        refine x_aload_n (i := 0) C dX4_pass_38 rfl rfl ?_
        refine x_getM C 6 mI_6 hinX4_pass_X4 (by decide +kernel) dX4_pass_39 ?_
        refine x_icmp_ge C 173 dX4_pass_42 (by decide) (fun c_42 => ?_) (fun c_42 => absurd (by rw [(show pmV (paM (xs V 0 0 (codePass h9)) n m9 k) m9 n 0 6 = nI n from (pmV_keep (paM (xs V 0 0 (codePass h9)) n m9 k) m9 n 0 6 (by omega) (by omega)).trans ((paM_keep (xs V 0 0 (codePass h9)) n m9 k 0 6 (by omega) (by omega)).trans hn1))]; exact nI_le (Nat.le_refl _) (by omega)) c_42)
        refine x_aload_n (i := 0) C dX4_pass_173 rfl rfl ?_
        refine x_dup C dX4_pass_174 rfl ?_
        refine x_getM C 1 mI_1 hinX4_pass_X4 (by decide +kernel) dX4_pass_175 ?_
        refine x_iconst (v := 1) C dX4_pass_178 (by decide) ?_
        refine x_iadd C dX4_pass_179 ?_
        refine x_putM C 1 mI_1 hinX4_pass_X4 (by decide +kernel) dX4_pass_180 ?_
        refine x_iinc (v := nI (k + 1)) C dX4_pass_183 rfl (inc1 k) ?_
        refine x_goto C 28 dX4_pass_186 (by decide) ?_
        refine x_subm (lv' := [(3, .int (nI (k + 1))), (2, .int (paN (xs V 0 0 (codePass h9)) n m9 (k + 1))), (0, .ref (b 0)), (1, .int h9)]) ?_ rfl
        exact ihk
      intro d hd ihd
      refine x_iload (i := 4) C dX4_pass_36 rfl ?_
      refine x_aload_n (i := 0) C dX4_pass_38 rfl rfl ?_
      refine x_getM C 6 mI_6 hinX4_pass_X4 (by decide +kernel) dX4_pass_39 ?_
      refine x_icmp_ge C 173 dX4_pass_42 (by decide) (fun c_42 => absurd c_42 (by rw [(show pmV (paM (xs V 0 0 (codePass h9)) n m9 k) m9 d 0 6 = nI n from (pmV_keep (paM (xs V 0 0 (codePass h9)) n m9 k) m9 d 0 6 (by omega) (by omega)).trans ((paM_keep (xs V 0 0 (codePass h9)) n m9 k 0 6 (by omega) (by omega)).trans hn1))]; exact nI_ge hd (by omega))) (fun c_42 => ?_)
      refine x_aload_n (i := 0) C dX4_pass_45 rfl rfl ?_
      refine x_iload (i := 4) C dX4_pass_46 rfl ?_
      refine x_callVv C hE (k_X4_take l D cy b A X _ (show d < 10 by omega) (((pmV_keep (paM (xs V 0 0 (codePass h9)) n m9 k) m9 d).tr (keepM.rf _) 0 15 (by omega) (by omega)).trans ((paM_keep (xs V 0 0 (codePass h9)) n m9 k 0 15 (by omega) (by omega)).trans hm1)) hm6 ((hs1.keep (paM_keep (xs V 0 0 (codePass h9)) n m9 k)).keep (pmV_keep (paM (xs V 0 0 (codePass h9)) n m9 k) m9 d))) (cwV 1 C.2.2.2.2.1 gX4_pass_X4_take rfl rfl rfl (by decide +kernel) ⟨Nat.le_of_ble_eq_true rfl, Nat.le_of_ble_eq_true rfl⟩) 0 (mW_M cy b X _) rfl rfl rfl rfl (Nat.le_of_ble_eq_true rfl) dX4_pass_48 ⟨Nat.le_of_ble_eq_true rfl, Nat.le_of_ble_eq_true rfl⟩ (fun u_48 h_48 => ?_)
      rw [h_48]
      refine x_aload_n (i := 0) C dX4_pass_51 rfl rfl ?_
      refine x_getMr C 12 10 (fun _ _ => rfl) (by decide) hinX4_pass_X4 (by decide +kernel) dX4_pass_52 ?_
      refine x_iload (i := 4) C dX4_pass_55 rfl ?_
      refine x_ialdM C (by decide) (vp_in_nI (show d < 10 by omega) (by decide)) (nI_clamp (by omega)) dX4_pass_57 ?_
      refine x_iconst (v := 1) C dX4_pass_58 (by decide) ?_
      refine x_icmp_ne C 167 dX4_pass_59 (by decide) (fun c_59 => ?_) (fun c_59 => ?_)
      · refine x_iinc (v := nI (d + 1)) C dX4_pass_167 rfl (inc1 d) ?_
        refine x_goto C 36 dX4_pass_170 (by decide) ?_
        have z9 : ¬ ldM (tkV (pmV (paM (xs V 0 0 (codePass h9)) n m9 k) m9 d) d m9) d = true := (by simp [ldM, show ¬ (tkV (pmV (paM (xs V 0 0 (codePass h9)) n m9 k) m9 d) d m9) 10 d = 1 from c_59])
        have e8 : pmV (paM (xs V 0 0 (codePass h9)) n m9 k) m9 (d + 1) = (tkV (pmV (paM (xs V 0 0 (codePass h9)) n m9 k) m9 d) d m9) := if_neg z9
        have e9 : pmT (paM (xs V 0 0 (codePass h9)) n m9 k) m9 (paN (xs V 0 0 (codePass h9)) n m9 k) (d + 1) = (pmT (paM (xs V 0 0 (codePass h9)) n m9 k) m9 (paN (xs V 0 0 (codePass h9)) n m9 k) d) := if_neg z9
        rw [e8, e9] at ihd
        exact x_subm ihd rfl
      refine x_aload_n (i := 0) C dX4_pass_62 rfl rfl ?_
      refine x_iload (i := 4) C dX4_pass_63 rfl ?_
      refine x_callVi C hE (k_X4_isOpen l D cy b A X _ (show d < 10 by omega)) (cwV 1 C.2.2.2.2.1 gX4_pass_X4_isOpen rfl rfl rfl (by decide +kernel) ⟨Nat.le_of_ble_eq_true rfl, Nat.le_of_ble_eq_true rfl⟩) 0 (mW_M cy b X _) rfl rfl rfl rfl (Nat.le_of_ble_eq_true rfl) dX4_pass_65 ⟨Nat.le_of_ble_eq_true rfl, Nat.le_of_ble_eq_true rfl⟩ (fun r_65 u_65 h_65 => ?_)
      obtain ⟨e8_65, e9_65⟩ := h_65
      rw [e8_65, e9_65]
      refine x_if_eq C 167 dX4_pass_68 (by decide) (fun c_68 => ?_) (fun c_68 => ?_)
      · refine x_iinc (v := nI (d + 1)) C dX4_pass_167 rfl (inc1 d) ?_
        refine x_goto C 36 dX4_pass_170 (by decide) ?_
        have z9 : ¬ ldM (tkV (pmV (paM (xs V 0 0 (codePass h9)) n m9 k) m9 d) d m9) d = true := (by simp [ldM, show openM (tkV (pmV (paM (xs V 0 0 (codePass h9)) n m9 k) m9 d) d m9) d = false from (b2i_0 _).mp c_68])
        have e8 : pmV (paM (xs V 0 0 (codePass h9)) n m9 k) m9 (d + 1) = (tkV (pmV (paM (xs V 0 0 (codePass h9)) n m9 k) m9 d) d m9) := if_neg z9
        have e9 : pmT (paM (xs V 0 0 (codePass h9)) n m9 k) m9 (paN (xs V 0 0 (codePass h9)) n m9 k) (d + 1) = (pmT (paM (xs V 0 0 (codePass h9)) n m9 k) m9 (paN (xs V 0 0 (codePass h9)) n m9 k) d) := if_neg z9
        rw [e8, e9] at ihd
        exact x_subm ihd rfl
      refine x_aload_n (i := 0) C dX4_pass_71 rfl rfl ?_
      refine x_getMr C 9 7 (fun _ _ => rfl) (by decide) hinX4_pass_X4 (by decide +kernel) dX4_pass_72 ?_
      refine x_iload (i := 4) C dX4_pass_75 rfl ?_
      refine x_ialdM C (by decide) (vp_in_nI (show d < 10 by omega) (by decide)) (nI_clamp (by omega)) dX4_pass_77 ?_
      refine x_bipush (v := 20) C dX4_pass_78 (by decide) ?_
      refine x_icmp_lt C 167 dX4_pass_80 (by decide) (fun c_80 => ?_) (fun c_80 => ?_)
      · refine x_iinc (v := nI (d + 1)) C dX4_pass_167 rfl (inc1 d) ?_
        refine x_goto C 36 dX4_pass_170 (by decide) ?_
        have z9 : ¬ ldM (tkV (pmV (paM (xs V 0 0 (codePass h9)) n m9 k) m9 d) d m9) d = true := (by simp [ldM, show (tkV (pmV (paM (xs V 0 0 (codePass h9)) n m9 k) m9 d) d m9) 7 d < 20 from c_80])
        have e8 : pmV (paM (xs V 0 0 (codePass h9)) n m9 k) m9 (d + 1) = (tkV (pmV (paM (xs V 0 0 (codePass h9)) n m9 k) m9 d) d m9) := if_neg z9
        have e9 : pmT (paM (xs V 0 0 (codePass h9)) n m9 k) m9 (paN (xs V 0 0 (codePass h9)) n m9 k) (d + 1) = (pmT (paM (xs V 0 0 (codePass h9)) n m9 k) m9 (paN (xs V 0 0 (codePass h9)) n m9 k) d) := if_neg z9
        rw [e8, e9] at ihd
        exact x_subm ihd rfl
      refine x_aload_n (i := 0) C dX4_pass_83 rfl rfl ?_
      refine x_getMr C 14 12 (fun _ _ => rfl) (by decide) hinX4_pass_X4 (by decide +kernel) dX4_pass_84 ?_
      refine x_iload (i := 4) C dX4_pass_87 rfl ?_
      refine x_aload_n (i := 0) C dX4_pass_89 rfl rfl ?_
      refine x_getMr C 14 12 (fun _ _ => rfl) (by decide) hinX4_pass_X4 (by decide +kernel) dX4_pass_90 ?_
      refine x_iload (i := 4) C dX4_pass_93 rfl ?_
      refine x_ialdM C (by decide) (vp_in_nI (show d < 10 by omega) (by decide)) (nI_clamp (by omega)) dX4_pass_95 ?_
      refine x_bipush (v := 100) C dX4_pass_96 (by decide) ?_
      refine x_join (J := 115) (st' := [.int (nI d), .ref (b 12)]) (fun z => z = (if (tkV (pmV (paM (xs V 0 0 (codePass h9)) n m9 k) m9 d) d m9) 12 d ≤ 100 then 0 else (tkV (pmV (paM (xs V 0 0 (codePass h9)) n m9 k) m9 d) d m9) 12 d - 100)) (fun w_115 e_115 => ?_) (fun j_115 => ?_)
      · subst e_115
        refine x_iastM C (by decide) (vp_in_nI (show d < 10 by omega) (by decide)) (nI_clamp (by omega)) dX4_pass_115 ?_
        refine x_aload_n (i := 0) C dX4_pass_116 rfl rfl ?_
        refine x_getMr C 9 7 (fun _ _ => rfl) (by decide) hinX4_pass_X4 (by decide +kernel) dX4_pass_117 ?_
        refine x_iload (i := 4) C dX4_pass_120 rfl ?_
        refine x_dup2_11 C dX4_pass_122 rfl rfl ?_
        refine x_ialdM C (by decide) (vp_in_nI (show d < 10 by omega) (by decide)) (nI_clamp (by omega)) dX4_pass_123 ?_
        refine x_iconst (v := 1) C dX4_pass_124 (by decide) ?_
        refine x_isub C dX4_pass_125 ?_
        refine x_iastM C (by decide) (vp_in_nI (show d < 10 by omega) (by decide)) (nI_clamp (by omega)) dX4_pass_126 ?_
        refine x_aload_n (i := 0) C dX4_pass_127 rfl rfl ?_
        refine x_getMr C 12 10 (fun _ _ => rfl) (by decide) hinX4_pass_X4 (by decide +kernel) dX4_pass_128 ?_
        refine x_iload (i := 4) C dX4_pass_131 rfl ?_
        refine x_aload_n (i := 0) C dX4_pass_133 rfl rfl ?_
        refine x_getMr C 14 12 (fun _ _ => rfl) (by decide) hinX4_pass_X4 (by decide +kernel) dX4_pass_134 ?_
        refine x_iload (i := 4) C dX4_pass_137 rfl ?_
        refine x_ialdM C (by decide) (vp_in_nI (show d < 10 by omega) (by decide)) (nI_clamp (by omega)) dX4_pass_139 ?_
        refine x_join (J := 148) (st' := [.int (nI d), .ref (b 10)]) (fun z => z = (if ld2 (tkV (pmV (paM (xs V 0 0 (codePass h9)) n m9 k) m9 d) d m9) d 12 d = 0 then 2 else 1)) (fun w_148 e_148 => ?_) (fun j_148 => ?_)
        · subst e_148
          refine x_iastM C (by decide) (vp_in_nI (show d < 10 by omega) (by decide)) (nI_clamp (by omega)) dX4_pass_148 ?_
          refine x_iload_n (i := 2) C dX4_pass_149 rfl rfl ?_
          refine x_aload_n (i := 0) C dX4_pass_150 rfl rfl ?_
          refine x_getMr C 14 12 (fun _ _ => rfl) (by decide) hinX4_pass_X4 (by decide +kernel) dX4_pass_151 ?_
          refine x_iload (i := 4) C dX4_pass_154 rfl ?_
          refine x_ialdM C (by decide) (vp_in_nI (show d < 10 by omega) (by decide)) (nI_clamp (by omega)) dX4_pass_156 ?_
          refine x_join (J := 165) (st' := [.int (pmT (paM (xs V 0 0 (codePass h9)) n m9 k) m9 (paN (xs V 0 0 (codePass h9)) n m9 k) d)]) (fun z => z = (if ld3 (tkV (pmV (paM (xs V 0 0 (codePass h9)) n m9 k) m9 d) d m9) d 12 d = 0 then 1 else 0)) (fun w_165 e_165 => ?_) (fun j_165 => ?_)
          · subst e_165
            refine x_iadd C dX4_pass_165 ?_
            refine x_istore_n (i := 2) C dX4_pass_166 rfl (by decide) ?_
            refine x_iinc (v := nI (d + 1)) C dX4_pass_167 rfl (inc1 d) ?_
            refine x_goto C 36 dX4_pass_170 (by decide) ?_
            have z9 : ldM (tkV (pmV (paM (xs V 0 0 (codePass h9)) n m9 k) m9 d) d m9) d = true := (by simp only [ldM, Bool.and_eq_true, Bool.not_eq_true', decide_eq_false_iff_not, decide_eq_true_eq]; exact ⟨c_59, b2i_n0 c_68, c_80⟩)
            have e8 : pmV (paM (xs V 0 0 (codePass h9)) n m9 k) m9 (d + 1) = ld3 (tkV (pmV (paM (xs V 0 0 (codePass h9)) n m9 k) m9 d) d m9) d := if_pos z9
            have e9 : pmT (paM (xs V 0 0 (codePass h9)) n m9 k) m9 (paN (xs V 0 0 (codePass h9)) n m9 k) (d + 1) = (pmT (paM (xs V 0 0 (codePass h9)) n m9 k) m9 (paN (xs V 0 0 (codePass h9)) n m9 k) d) + (if ld3 (tkV (pmV (paM (xs V 0 0 (codePass h9)) n m9 k) m9 d) d m9) d 12 d = 0 then 1 else 0) := if_pos z9
            rw [e8, e9] at ihd
            exact x_subm ihd rfl
          refine x_if_ne C 164 dX4_pass_157 (by decide) (fun c_157 => ?_) (fun c_157 => ?_)
          · refine x_iconst (v := 0) C dX4_pass_164 (by decide) ?_
            exact j_165 _ (if_neg c_157).symm
          refine x_iconst (v := 1) C dX4_pass_160 (by decide) ?_
          refine x_goto C 165 dX4_pass_161 (by decide) ?_
          exact j_165 _ (if_pos c_157).symm
        refine x_if_ne C 147 dX4_pass_140 (by decide) (fun c_140 => ?_) (fun c_140 => ?_)
        · refine x_iconst (v := 1) C dX4_pass_147 (by decide) ?_
          exact j_148 _ (if_neg c_140).symm
        refine x_iconst (v := 2) C dX4_pass_143 (by decide) ?_
        refine x_goto C 148 dX4_pass_144 (by decide) ?_
        exact j_148 _ (if_pos c_140).symm
      refine x_icmp_le C 114 dX4_pass_98 (by decide) (fun c_98 => ?_) (fun c_98 => ?_)
      · refine x_iconst (v := 0) C dX4_pass_114 (by decide) ?_
        exact j_115 _ (if_pos c_98).symm
      refine x_aload_n (i := 0) C dX4_pass_101 rfl rfl ?_
      refine x_getMr C 14 12 (fun _ _ => rfl) (by decide) hinX4_pass_X4 (by decide +kernel) dX4_pass_102 ?_
      refine x_iload (i := 4) C dX4_pass_105 rfl ?_
      refine x_ialdM C (by decide) (vp_in_nI (show d < 10 by omega) (by decide)) (nI_clamp (by omega)) dX4_pass_107 ?_
      refine x_bipush (v := 100) C dX4_pass_108 (by decide) ?_
      refine x_isub C dX4_pass_110 ?_
      refine x_goto C 115 dX4_pass_111 (by decide) ?_
      exact j_115 _ (if_neg c_98).symm
    refine x_iconst (v := 0) C dX4_pass_22 (by decide) ?_
    exact x_iret  C dX4_pass_23 ⟨Nat.le_of_ble_eq_true rfl, Nat.le_of_ble_eq_true rfl⟩ ⟨fun _ => ⟨rfl, rfl⟩, fun h9 => absurd h9 (cod1 c_19)⟩
  refine x_if_eq C 15 dX4_pass_8 (by decide) (fun c_8 => ?_) (fun c_8 => ?_)
  · refine x_iconst (v := 1) C dX4_pass_15 (by decide) ?_
    exact j_16 _ (by (try simp only [b2i_0, Bool.not_eq_false] at c_8); simp [codePass, c_8])
  refine x_iconst (v := 0) C dX4_pass_11 (by decide) ?_
  refine x_goto C 16 dX4_pass_12 (by decide) ?_
  exact j_16 _ (by (try simp only [b2i_0, Bool.not_eq_false] at c_8); simp [codePass, c_8])
