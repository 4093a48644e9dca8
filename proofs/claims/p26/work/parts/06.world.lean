/-! ===== BEGIN world: the class's cells cW (0 the fleet, 1 kindsOfVersion, 2 the ways, 3 fleet, 4 campaigns, 5 images, 6 deltas, 7 leastByDeltas, 8 leastByImage, 9.. devices, 19.. campaigns, 25.. rows of deltas, 33.. rows of leastByDeltas), the reference's mW ===== -/
def dl (g : Nat → Int32) : List Value := [.int (g 0), .int (g 1), .int (g 2), .int (g 3), .int (g 4), .int (g 5), .int (g 6), .int (g 7), .int (g 8)]
def kl (g : Nat → Int32) : List Value := [.int (g 0), .int (g 1), .int (g 2), .int (g 3), .int (g 4), .int (g 5), .int (g 6), .int (g 7), .int (g 8), .int (g 9), .int (g 10), .int (g 11), .int (g 12)]
def rl (a : Nat → Nat) (g : Nat → Int32) : List Value := [.ref (a 1), .ref (a 2), .ref (a 3), .ref (a 4), .int (g 4), .int (g 5), .int (g 6)]
def wl (a : Nat → Nat) : List Value := [.ref (a 5), .ref (a 6), .ref (a 7), .ref (a 8)]
def tyC (cy : Nat → ClassId) : List (ClassId × FieldType) := [(cy 0, .int), (cy 1, .object "Ringroll$Device"), (cy 2, .object "Ringroll$Campaign"), (cy 3, .array .int)]
def cF (cy : Nat → ClassId) (a : Nat → Nat) (p : Nat) (g : Nat → Int32) : va_E :=
  if p = 0 then .inr (3, rl a g) else if p = 2 then .inr (2, wl a)
  else if p = 3 then .inl (cy 1, 10, .inr (.inr (.inr (.inr (fun i => some (a (9 + i)))))))
  else if p = 4 then .inl (cy 2, 6, .inr (.inr (.inr (.inr (fun i => some (a (19 + i)))))))
  else if p = 6 then .inl (cy 3, 8, .inr (.inr (.inr (.inr (fun i => some (a (25 + i)))))))
  else if p = 7 then .inl (cy 3, 8, .inr (.inr (.inr (.inr (fun i => some (a (33 + i)))))))
  else if 9 ≤ p ∧ p < 19 then .inr (1, dl g) else if 19 ≤ p ∧ p < 25 then .inr (0, kl g) else .inl (cy 0, 8, .inl g)
def cW (cy : Nat → ClassId) (a : Nat → Nat) (X : va_W) (V : XV) : va_W := xw 41 a (fun p => cF cy a p (V p)) ++ X
theorem cF_R (cy : Nat → ClassId) (a : Nat → Nat) (g : Nat → Int32) : cF cy a 0 g = .inr (3, rl a g) := rfl
theorem cF_W (cy : Nat → ClassId) (a : Nat → Nat) (g : Nat → Int32) : cF cy a 2 g = .inr (2, wl a) := rfl
theorem cF_D (cy : Nat → ClassId) (a : Nat → Nat) (g : Nat → Int32) {p : Nat} (h : 9 ≤ p ∧ p < 19) : cF cy a p g = .inr (1, dl g) := by
  unfold cF
  rw [if_neg (by omega), if_neg (by omega), if_neg (by omega), if_neg (by omega), if_neg (by omega), if_neg (by omega), if_pos h]
theorem cF_K (cy : Nat → ClassId) (a : Nat → Nat) (g : Nat → Int32) {p : Nat} (h : 19 ≤ p ∧ p < 25) : cF cy a p g = .inr (0, kl g) := by
  unfold cF
  rw [if_neg (by omega), if_neg (by omega), if_neg (by omega), if_neg (by omega), if_neg (by omega), if_neg (by omega), if_neg (by omega), if_pos h]
def cI (p : Nat) : Prop := p = 1 ∨ p = 5 ∨ p = 8 ∨ (25 ≤ p ∧ p < 41)
theorem cF_I (cy : Nat → ClassId) (a : Nat → Nat) (g : Nat → Int32) {p : Nat} (h : cI p) : cF cy a p g = .inl (cy 0, 8, .inl g) := by
  unfold cI at h
  unfold cF
  rw [if_neg (by omega), if_neg (by omega), if_neg (by omega), if_neg (by omega), if_neg (by omega), if_neg (by omega), if_neg (by omega), if_neg (by omega)]
theorem cW_R (cy : Nat → ClassId) (a : Nat → Nat) (X : va_W) (V : XV) : (cW cy a X V)[0]? = some (a 0, .inr (3, rl a (V 0))) := xw_get (by decide)
theorem cW_W (cy : Nat → ClassId) (a : Nat → Nat) (X : va_W) (V : XV) : (cW cy a X V)[2]? = some (a 2, .inr (2, wl a)) := xw_get (by decide)
theorem cW_D (cy : Nat → ClassId) (a : Nat → Nat) (X : va_W) (V : XV) {p : Nat} (h : 9 ≤ p ∧ p < 19) : (cW cy a X V)[p]? = some (a p, .inr (1, dl (V p))) := (xw_get (by omega)).trans (by rw [cF_D cy a (V p) h])
theorem cW_K (cy : Nat → ClassId) (a : Nat → Nat) (X : va_W) (V : XV) {p : Nat} (h : 19 ≤ p ∧ p < 25) : (cW cy a X V)[p]? = some (a p, .inr (0, kl (V p))) := (xw_get (by omega)).trans (by rw [cF_K cy a (V p) h])
theorem xs_cell (F : Nat → (Nat → Int32) → va_E) (V : XV) (p k : Nat) (v : Int32) : (fun q => F q (xs V p k v q)) p = F p (upd (V p) k v) := by
  show F p (xs V p k v p) = _
  rw [xs_at]
theorem xs_rest (F : Nat → (Nat → Int32) → va_E) (V : XV) (p k : Nat) (v : Int32) : ∀ q, q ≠ p → (fun q => F q (xs V p k v q)) q = (fun q => F q (V q)) q := fun q h => by
  show F q (xs V p k v q) = F q (V q)
  rw [xs_off V k v h]

theorem dl_get  (g : Nat → Int32) : ∀ k, k < 9 → (dl g)[k]? = some (.int (g k))
  | 0, _ => rfl
  | 1, _ => rfl
  | 2, _ => rfl
  | 3, _ => rfl
  | 4, _ => rfl
  | 5, _ => rfl
  | 6, _ => rfl
  | 7, _ => rfl
  | 8, _ => rfl
  | k + 9, h => absurd h (by omega)
theorem dl_set  (g : Nat → Int32) (v : Int32) : ∀ k, k < 9 → (dl g).set k (.int v) = dl (upd g k v)
  | 0, _ => rfl
  | 1, _ => rfl
  | 2, _ => rfl
  | 3, _ => rfl
  | 4, _ => rfl
  | 5, _ => rfl
  | 6, _ => rfl
  | 7, _ => rfl
  | 8, _ => rfl
  | k + 9, h => absurd h (by omega)
theorem kl_get  (g : Nat → Int32) : ∀ k, k < 13 → (kl g)[k]? = some (.int (g k))
  | 0, _ => rfl
  | 1, _ => rfl
  | 2, _ => rfl
  | 3, _ => rfl
  | 4, _ => rfl
  | 5, _ => rfl
  | 6, _ => rfl
  | 7, _ => rfl
  | 8, _ => rfl
  | 9, _ => rfl
  | 10, _ => rfl
  | 11, _ => rfl
  | 12, _ => rfl
  | k + 13, h => absurd h (by omega)
theorem kl_set  (g : Nat → Int32) (v : Int32) : ∀ k, k < 13 → (kl g).set k (.int v) = kl (upd g k v)
  | 0, _ => rfl
  | 1, _ => rfl
  | 2, _ => rfl
  | 3, _ => rfl
  | 4, _ => rfl
  | 5, _ => rfl
  | 6, _ => rfl
  | 7, _ => rfl
  | 8, _ => rfl
  | 9, _ => rfl
  | 10, _ => rfl
  | 11, _ => rfl
  | 12, _ => rfl
  | k + 13, h => absurd h (by omega)
theorem rl_get (a : Nat → Nat) (g : Nat → Int32) : ∀ k, 4 ≤ k ∧ k < 7 → (rl a g)[k]? = some (.int (g k))
  | 4, _ => rfl
  | 5, _ => rfl
  | 6, _ => rfl
  | 0, h => absurd h (by omega)
  | 1, h => absurd h (by omega)
  | 2, h => absurd h (by omega)
  | 3, h => absurd h (by omega)
  | k + 7, h => absurd h (by omega)
theorem rl_set (a : Nat → Nat) (g : Nat → Int32) (v : Int32) : ∀ k, 4 ≤ k ∧ k < 7 → (rl a g).set k (.int v) = rl a (upd g k v)
  | 4, _ => rfl
  | 5, _ => rfl
  | 6, _ => rfl
  | 0, h => absurd h (by omega)
  | 1, h => absurd h (by omega)
  | 2, h => absurd h (by omega)
  | 3, h => absurd h (by omega)
  | k + 7, h => absurd h (by omega)
theorem tF1 : ∀ k, k < 9 → (TX1 k).1 = "Ringroll$Device" ∧ tyX1 k = .int := by decide +kernel
theorem tF0 : ∀ k, k < 13 → (TX0 k).1 = "Ringroll$Campaign" := by decide +kernel
theorem tF0i : ∀ k, k < 13 → k ≠ 8 → tyX0 k = .int := by decide +kernel
theorem tF0f : ∀ k, k < 13 → k ≠ 0 → (TX0 k).2.2.2 = false := by decide +kernel
theorem tF1f : ∀ k, k < 9 → k ≠ 0 → (TX1 k).2.2.2 = false := by decide +kernel
theorem tF3 : ∀ k, k < 7 → (TX3 k).1 = "Ringroll" := by decide +kernel
theorem tF2 : ∀ k, k < 4 → (TX2 k).1 = "Ringroll$Ways" := by decide +kernel
section XW
variable {p : Program} {l : Launch} {e : Env} {R : Room} {s : State} {m : MethodId} {args : Array Value} {below : List Frame} {meth : Method} {c : Code} {cells slots : Nat} {Q : State → Prop} {cc : ByteArray} {nL : Nat} {own : String} {Ts : List Cond} {D : va_G} {A : Nat → Prop} {ret : Option FieldType} {pc : Nat} {lv : List (Nat × Value)} {st : List Value} {cy : Nat → ClassId} {a b : Nat → Nat} {X : va_W} {V : XV} {index : Nat}

theorem x_getD (C : xC p s m args meth c cc nL own Ts D (tyC cy) A ret) {p0 : Nat} (k : Nat) (hp : 9 ≤ p0 ∧ p0 < 19) (hk : k < 9) (hin : ∀ w ∈ wsX10, w ∈ Ts) (hlink : Cond.fieldLink own index "Ringroll$Device" (TX1 k).2.1 (TX1 k).2.2.1 ∈ Ts) (hd : decode cc pc = .ok (.getfield index, 3))
    (kk : xA p l e R s m args below meth c D A nL cells slots Q (pc + 3) lv (.int (V p0 k) :: st) (cW cy a X V)) : xA p l e R s m args below meth c D A nL cells slots Q pc lv (.ref (a p0) :: st) (cW cy a X V) :=
  x_get (E := fun q => cF cy a q (V q)) C (by omega) (cF_D cy a (V p0) hp) rfl k hk hin hlink (tF1 k hk).1 (dl_get _ k hk) hd kk
theorem x_putD (C : xC p s m args meth c cc nL own Ts D (tyC cy) A ret) {p0 : Nat} {v : Int32} (k : Nat) (hp : 9 ≤ p0 ∧ p0 < 19) (hk : k < 9) (hk0 : k ≠ 0) (hin : ∀ w ∈ wsX10, w ∈ Ts) (hlink : Cond.fieldLink own index "Ringroll$Device" (TX1 k).2.1 (TX1 k).2.2.1 ∈ Ts) (hd : decode cc pc = .ok (.putfield index, 3))
    (kk : xA p l e R s m args below meth c D A nL cells slots Q (pc + 3) lv st (cW cy a X (xs V p0 k v))) : xA p l e R s m args below meth c D A nL cells slots Q pc lv (.int v :: .ref (a p0) :: st) (cW cy a X V) :=
  x_put (E := fun q => cF cy a q (V q)) (E' := fun q => cF cy a q (xs V p0 k v q)) C tyX1 tyX1_ok nmX1 (by omega) (cF_D cy a (V p0) hp) rfl k hk hin hlink (tF1 k hk).1 (tF1f k hk hk0) (tF1 k hk).2 rfl rfl hk hd ((xs_cell (cF cy a) V p0 k v).trans (by rw [cF_D cy a _ hp, dl_set _ v k hk])) (xs_rest (cF cy a) V p0 k v) kk
theorem x_getK (C : xC p s m args meth c cc nL own Ts D (tyC cy) A ret) {p0 : Nat} (k : Nat) (hp : 19 ≤ p0 ∧ p0 < 25) (hk : k < 13) (hin : ∀ w ∈ wsX00, w ∈ Ts) (hlink : Cond.fieldLink own index "Ringroll$Campaign" (TX0 k).2.1 (TX0 k).2.2.1 ∈ Ts) (hd : decode cc pc = .ok (.getfield index, 3))
    (kk : xA p l e R s m args below meth c D A nL cells slots Q (pc + 3) lv (.int (V p0 k) :: st) (cW cy a X V)) : xA p l e R s m args below meth c D A nL cells slots Q pc lv (.ref (a p0) :: st) (cW cy a X V) :=
  x_get (E := fun q => cF cy a q (V q)) C (by omega) (cF_K cy a (V p0) hp) rfl k hk hin hlink (tF0 k hk) (kl_get _ k hk) hd kk
theorem x_putK (C : xC p s m args meth c cc nL own Ts D (tyC cy) A ret) {p0 : Nat} {v : Int32} (k : Nat) (hp : 19 ≤ p0 ∧ p0 < 25) (hk : k < 13) (hk0 : k ≠ 0 ∧ k ≠ 8) (hin : ∀ w ∈ wsX00, w ∈ Ts) (hlink : Cond.fieldLink own index "Ringroll$Campaign" (TX0 k).2.1 (TX0 k).2.2.1 ∈ Ts) (hd : decode cc pc = .ok (.putfield index, 3))
    (kk : xA p l e R s m args below meth c D A nL cells slots Q (pc + 3) lv st (cW cy a X (xs V p0 k v))) : xA p l e R s m args below meth c D A nL cells slots Q pc lv (.int v :: .ref (a p0) :: st) (cW cy a X V) :=
  x_put (E := fun q => cF cy a q (V q)) (E' := fun q => cF cy a q (xs V p0 k v q)) C tyX0 tyX0_ok nmX0 (by omega) (cF_K cy a (V p0) hp) rfl k hk hin hlink (tF0 k hk) (tF0f k hk hk0.1) (tF0i k hk hk0.2) rfl rfl hk hd ((xs_cell (cF cy a) V p0 k v).trans (by rw [cF_K cy a _ hp, kl_set _ v k hk])) (xs_rest (cF cy a) V p0 k v) kk
theorem x_putKz (C : xC p s m args meth c cc nL own Ts D (tyC cy) A ret) {p0 : Nat} {v : Int32} (hp : 19 ≤ p0 ∧ p0 < 25) (hn : narrow .boolean (.int v) = .int v) (hf : fits .boolean (.int v) = true) (hin : ∀ w ∈ wsX00, w ∈ Ts) (hlink : Cond.fieldLink own index "Ringroll$Campaign" (TX0 8).2.1 (TX0 8).2.2.1 ∈ Ts) (hd : decode cc pc = .ok (.putfield index, 3))
    (kk : xA p l e R s m args below meth c D A nL cells slots Q (pc + 3) lv st (cW cy a X (xs V p0 8 v))) : xA p l e R s m args below meth c D A nL cells slots Q pc lv (.int v :: .ref (a p0) :: st) (cW cy a X V) :=
  x_put (E := fun q => cF cy a q (V q)) (E' := fun q => cF cy a q (xs V p0 8 v q)) C tyX0 tyX0_ok nmX0 (by omega) (cF_K cy a (V p0) hp) rfl 8 (by decide) hin hlink (tF0 8 (by decide)) (tF0f 8 (by decide) (by decide)) (show tyX0 8 = .boolean from rfl) hn hf (by decide : 8 < 13) hd ((xs_cell (cF cy a) V p0 8 v).trans (by rw [cF_K cy a _ hp, kl_set _ v 8 (by decide)])) (xs_rest (cF cy a) V p0 8 v) kk
theorem x_getR (C : xC p s m args meth c cc nL own Ts D (tyC cy) A ret)  (k : Nat)  (hk : 4 ≤ k ∧ k < 7) (hin : ∀ w ∈ wsX30, w ∈ Ts) (hlink : Cond.fieldLink own index "Ringroll" (TX3 k).2.1 (TX3 k).2.2.1 ∈ Ts) (hd : decode cc pc = .ok (.getfield index, 3))
    (kk : xA p l e R s m args below meth c D A nL cells slots Q (pc + 3) lv (.int (V 0 k) :: st) (cW cy a X V)) : xA p l e R s m args below meth c D A nL cells slots Q pc lv (.ref (a 0) :: st) (cW cy a X V) :=
  x_get (E := fun q => cF cy a q (V q)) C (by decide) (cF_R cy a (V 0)) rfl k hk.2 hin hlink (tF3 k hk.2) (rl_get _ _ k hk) hd kk
theorem x_putR (C : xC p s m args meth c cc nL own Ts D (tyC cy) A ret)  {v : Int32} (k : Nat)  (hk : 4 ≤ k ∧ k < 7)  (hin : ∀ w ∈ wsX30, w ∈ Ts) (hlink : Cond.fieldLink own index "Ringroll" (TX3 k).2.1 (TX3 k).2.2.1 ∈ Ts) (hd : decode cc pc = .ok (.putfield index, 3))
    (kk : xA p l e R s m args below meth c D A nL cells slots Q (pc + 3) lv st (cW cy a X (xs V 0 k v))) : xA p l e R s m args below meth c D A nL cells slots Q pc lv (.int v :: .ref (a 0) :: st) (cW cy a X V) :=
  x_put (E := fun q => cF cy a q (V q)) (E' := fun q => cF cy a q (xs V 0 k v q)) C tyX3 tyX3_ok nmX3 (by decide) (cF_R cy a (V 0)) rfl k hk.2 hin hlink (tF3 k hk.2) (by obtain ⟨h1, h2⟩ := hk; rcases (show k = 4 ∨ k = 5 ∨ k = 6 by omega) with rfl | rfl | rfl <;> rfl) (by obtain ⟨h1, h2⟩ := hk; rcases (show k = 4 ∨ k = 5 ∨ k = 6 by omega) with rfl | rfl | rfl <;> rfl) rfl rfl hk.2 hd ((xs_cell (cF cy a) V 0 k v).trans (by rw [cF_R, rl_set _ _ v k hk])) (xs_rest (cF cy a) V 0 k v) kk
theorem x_getRr (C : xC p s m args meth c cc nL own Ts D (tyC cy) A ret) (k : Nat) (hk : k < 4) (hin : ∀ w ∈ wsX30, w ∈ Ts) (hlink : Cond.fieldLink own index "Ringroll" (TX3 k).2.1 (TX3 k).2.2.1 ∈ Ts) (hd : decode cc pc = .ok (.getfield index, 3))
    (kk : xA p l e R s m args below meth c D A nL cells slots Q (pc + 3) lv (.ref (a (k + 1)) :: st) (cW cy a X V)) : xA p l e R s m args below meth c D A nL cells slots Q pc lv (.ref (a 0) :: st) (cW cy a X V) :=
  x_get (E := fun q => cF cy a q (V q)) C (by decide) (cF_R cy a (V 0)) rfl k (by omega) hin hlink (tF3 k (by omega)) (by rcases (show k = 0 ∨ k = 1 ∨ k = 2 ∨ k = 3 by omega) with rfl | rfl | rfl | rfl <;> rfl) hd kk
theorem x_getWr (C : xC p s m args meth c cc nL own Ts D (tyC cy) A ret) (k : Nat) (hk : k < 4) (hin : ∀ w ∈ wsX20, w ∈ Ts) (hlink : Cond.fieldLink own index "Ringroll$Ways" (TX2 k).2.1 (TX2 k).2.2.1 ∈ Ts) (hd : decode cc pc = .ok (.getfield index, 3))
    (kk : xA p l e R s m args below meth c D A nL cells slots Q (pc + 3) lv (.ref (a (k + 5)) :: st) (cW cy a X V)) : xA p l e R s m args below meth c D A nL cells slots Q pc lv (.ref (a 2) :: st) (cW cy a X V) :=
  x_get (E := fun q => cF cy a q (V q)) C (by decide) (cF_W cy a (V 2)) rfl k hk hin hlink (tF2 k hk) (by rcases (show k = 0 ∨ k = 1 ∨ k = 2 ∨ k = 3 by omega) with rfl | rfl | rfl | rfl <;> rfl) hd kk
theorem x_ialdC (C : xC p s m args meth c cc nL own Ts D (tyC cy) A ret) {p0 j : Nat} {i : Int32} (hp : cI p0) (hi : vp_in i 8) (hj : i.toNatClampNeg = j) (hd : decode cc pc = .ok (.iaload, 1))
    (kk : xA p l e R s m args below meth c D A nL cells slots Q (pc + 1) lv (.int (V p0 j) :: st) (cW cy a X V)) : xA p l e R s m args below meth c D A nL cells slots Q pc lv (.int i :: .ref (a p0) :: st) (cW cy a X V) :=
  x_iald (E := fun q => cF cy a q (V q)) (t0 := 0) C (by unfold cI at hp; omega) (cF_I cy a (V p0) hp) rfl hi (by rw [hj]) hd kk
theorem x_iastC (C : xC p s m args meth c cc nL own Ts D (tyC cy) A ret) {p0 j : Nat} {i v : Int32} (hp : cI p0) (hi : vp_in i 8) (hj : i.toNatClampNeg = j) (hd : decode cc pc = .ok (.iastore, 1))
    (kk : xA p l e R s m args below meth c D A nL cells slots Q (pc + 1) lv st (cW cy a X (xs V p0 j v))) : xA p l e R s m args below meth c D A nL cells slots Q pc lv (.int v :: .int i :: .ref (a p0) :: st) (cW cy a X V) :=
  x_iast (E := fun q => cF cy a q (V q)) (E' := fun q => cF cy a q (xs V p0 j v q)) (t0 := 0) C (by unfold cI at hp; omega) (cF_I cy a (V p0) hp) rfl hi hd ((xs_cell (cF cy a) V p0 j v).trans (by rw [cF_I cy a _ hp, hj])) (xs_rest (cF cy a) V p0 j v) kk
theorem x_aaldF (C : xC p s m args meth c cc nL own Ts D (tyC cy) A ret) {j : Nat} {i : Int32} (hi : vp_in i 10) (hj : i.toNatClampNeg = j) (hd : decode cc pc = .ok (.aaload, 1))
    (kk : xA p l e R s m args below meth c D A nL cells slots Q (pc + 1) lv (.ref (a (9 + j)) :: st) (cW cy a X V)) : xA p l e R s m args below meth c D A nL cells slots Q pc lv (.int i :: .ref (a 3) :: st) (cW cy a X V) :=
  x_aald (E := fun q => cF cy a q (V q)) (ty := .object "Ringroll$Device") (t0 := 1) C (by decide) (show cF cy a 3 (V 3) = _ from rfl) rfl rfl hi (by rw [hj]) hd kk
theorem x_aaldQ (C : xC p s m args meth c cc nL own Ts D (tyC cy) A ret) {j : Nat} {i : Int32} (hi : vp_in i 6) (hj : i.toNatClampNeg = j) (hd : decode cc pc = .ok (.aaload, 1))
    (kk : xA p l e R s m args below meth c D A nL cells slots Q (pc + 1) lv (.ref (a (19 + j)) :: st) (cW cy a X V)) : xA p l e R s m args below meth c D A nL cells slots Q pc lv (.int i :: .ref (a 4) :: st) (cW cy a X V) :=
  x_aald (E := fun q => cF cy a q (V q)) (ty := .object "Ringroll$Campaign") (t0 := 2) C (by decide) (show cF cy a 4 (V 4) = _ from rfl) rfl rfl hi (by rw [hj]) hd kk
theorem x_aaldDe (C : xC p s m args meth c cc nL own Ts D (tyC cy) A ret) {j : Nat} {i : Int32} (hi : vp_in i 8) (hj : i.toNatClampNeg = j) (hd : decode cc pc = .ok (.aaload, 1))
    (kk : xA p l e R s m args below meth c D A nL cells slots Q (pc + 1) lv (.ref (a (25 + j)) :: st) (cW cy a X V)) : xA p l e R s m args below meth c D A nL cells slots Q pc lv (.int i :: .ref (a 6) :: st) (cW cy a X V) :=
  x_aald (E := fun q => cF cy a q (V q)) (ty := .array .int) (t0 := 3) C (by decide) (show cF cy a 6 (V 6) = _ from rfl) rfl rfl hi (by rw [hj]) hd kk
theorem x_aaldLb (C : xC p s m args meth c cc nL own Ts D (tyC cy) A ret) {j : Nat} {i : Int32} (hi : vp_in i 8) (hj : i.toNatClampNeg = j) (hd : decode cc pc = .ok (.aaload, 1))
    (kk : xA p l e R s m args below meth c D A nL cells slots Q (pc + 1) lv (.ref (a (33 + j)) :: st) (cW cy a X V)) : xA p l e R s m args below meth c D A nL cells slots Q pc lv (.int i :: .ref (a 7) :: st) (cW cy a X V) :=
  x_aald (E := fun q => cF cy a q (V q)) (ty := .array .int) (t0 := 3) C (by decide) (show cF cy a 7 (V 7) = _ from rfl) rfl rfl hi (by rw [hj]) hd kk
end XW
/-! ===== END world ===== -/
