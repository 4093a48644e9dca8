/-! ===== BEGIN inv: what holds of a fleet's contents between calls, of V alone ===== -/
theorem nI_s (n : Nat) : nI n + 1 = nI (n + 1) := nI_1 n
theorem xs_p (V : XV) {p q : Nat} (k j : Nat) (v : Int32) (h : q ≠ p) : xs V p k v q j = V q j := xs_get V v (fun z => h z.1)
theorem nI_ti {n : Nat} (h : n < 1000) : (nI n).toInt = (n : Int) := nI_toInt (by omega)
theorem nI_inj {a b : Nat} (ha : a < 1000) (hb : b < 1000) (h : nI a = nI b) : a = b := by
  have := congrArg Int32.toInt h
  rw [nI_ti ha, nI_ti hb] at this
  omega
/-- bits of x among the first k -/
def cnt (x : Int32) : Nat → Nat
  | 0 => 0
  | k + 1 => cnt x k + (if hasB x (nI k) = true then 1 else 0)
theorem cnt_le (x : Int32) : ∀ k, cnt x k ≤ k := by
  intro k
  induction k with
  | zero => exact Nat.le_refl 0
  | succ k ih =>
    show cnt x k + _ ≤ k + 1
    split <;> omega
theorem cnt_or (x : Int32) {d : Nat} (hd : d < 32) (h : hasB x (nI d) = false) : ∀ k, k ≤ 32 → cnt (x ||| ((1 : Int32) <<< (nI d &&& 31))) k = cnt x k + (if d < k then 1 else 0) := by
  intro k
  induction k with
  | zero => intro _; rfl
  | succ k ih =>
    intro hk
    show cnt _ k + _ = cnt x k + _ + _
    rw [ih (by omega), hasB_or x hd (show k < 32 by omega)]
    by_cases e : k = d
    · subst e
      rw [h, if_neg (show ¬ k < k by omega), if_pos (show k < k + 1 by omega)]
      simp
    · rw [decide_eq_false e, Bool.or_false]
      by_cases q : d < k
      · rw [if_pos q, if_pos (show d < k + 1 by omega)]; omega
      · rw [if_neg q, if_neg (show ¬ d < k + 1 by omega), Nat.add_zero, Nat.add_zero]
def gW (V : XV) : Prop := gE (cE V) ∧ gI (cIm V) ∧ tOK V
def gD (V : XV) (n m d : Nat) : Prop := V (9 + d) 0 = nI d ∧ vp_in (V (9 + d) 2) 8 ∧ (∃ b, b ≤ 100 ∧ V (9 + d) 3 = nI b) ∧ (n ≤ d → V (9 + d) 6 = 0) ∧ ((V (9 + d) 6 = 0 ∧ V (9 + d) 7 = -1 ∧ V (9 + d) 8 = 0) ∨ ∃ c, c < m ∧ V (9 + d) 7 = nI c ∧ V (9 + d) 2 ≠ V (19 + c) 1 ∧ hasB (V (19 + c) 12) (nI d) = false ∧ ((V (9 + d) 6 = 1 ∧ 0 < (V (9 + d) 8).toInt) ∨ (V (9 + d) 6 = 2 ∧ V (9 + d) 8 = 0)))
def gC (V : XV) (c : Nat) : Prop := V (19 + c) 0 = nI c ∧ vp_in (V (19 + c) 1) 8 ∧ (V (19 + c) 8 = 0 ∨ V (19 + c) 8 = 1) ∧ (∃ z, z ≤ 2 ∧ V (19 + c) 9 = nI z) ∧ ∃ r, r ≤ cnt (V (19 + c) 12) 10 ∧ V (19 + c) 10 = nI r
def gJ (V : XV) (n m : Nat) : Prop := V 0 4 = nI n ∧ n ≤ 10 ∧ V 0 5 = nI m ∧ m ≤ 6 ∧ gW V ∧ (∀ d, d < 10 → gD V n m d) ∧ ∀ c, c < 6 → gC V c
theorem tOK_cg {V U : XV} (hU : ∀ p k, k < 8 → p = 5 ∨ p = 8 ∨ 25 ≤ p → U p k = V p k) (h : tOK V) : tOK U := by
  obtain ⟨h1, h2, h3⟩ := h
  have eE : cE U = cE V := cE_same fun p k ha hb hc => hU p k hc (by omega)
  have eI : cIm U = cIm V := cIm_same fun k hk => hU 5 k hk (by omega)
  have ef : ∀ i j, j < 8 → fT U i j = fT V i j := fun i j hj => by unfold fT; rw [hU _ _ hj (by omega)]
  unfold tOK
  rw [eE, eI]
  refine ⟨fun i j hi hj => ?_, fun i j c hi hj hr => ?_, fun j hj => ?_⟩
  · rw [ef i j hj]; exact h1 i j hi hj
  · rw [ef i j hj]; exact h2 i j c hi hj hr
  · obtain ⟨a0, a1, a2, a3⟩ := h3 j hj
    rw [hU 8 j hj (by omega)]
    refine ⟨a0, a1, ?_, fun v hv hvi => by rw [ef v j hj]; exact a3 v hv hvi⟩
    rcases a2 with a2 | ⟨v, hv, hvi, hl, he⟩
    · exact Or.inl a2
    · exact Or.inr ⟨v, hv, hvi, by rw [ef v j hj]; exact hl, by rw [ef v j hj]; exact he⟩
theorem gW_cg {V U : XV} (hU : ∀ p k, k < 8 → p = 5 ∨ p = 8 ∨ 25 ≤ p → U p k = V p k) (h : gW V) : gW U := by
  obtain ⟨h1, h2, h3⟩ := h
  have eE : cE U = cE V := cE_same fun p k ha hb hc => hU p k hc (by omega)
  have eI : cIm U = cIm V := cIm_same fun k hk => hU 5 k hk (by omega)
  exact ⟨by rw [eE]; exact h1, by rw [eI]; exact h2, tOK_cg hU h3⟩
theorem gD_cg {V U : XV} {n m d : Nat} (hU : ∀ k, k = 0 ∨ k = 2 ∨ k = 3 ∨ k = 6 ∨ k = 7 ∨ k = 8 → U (9 + d) k = V (9 + d) k) (hC : ∀ c, c < m → U (19 + c) 1 = V (19 + c) 1 ∧ (hasB (V (19 + c) 12) (nI d) = false → hasB (U (19 + c) 12) (nI d) = false)) (h : gD V n m d) : gD U n m d := by
  unfold gD at h ⊢
  rw [hU 0 (by omega), hU 2 (by omega), hU 3 (by omega), hU 6 (by omega), hU 7 (by omega), hU 8 (by omega)]
  obtain ⟨h1, h2, h3, h4, h5⟩ := h
  refine ⟨h1, h2, h3, h4, ?_⟩
  rcases h5 with h5 | ⟨c, hc, q1, q2, q3, q4⟩
  · exact Or.inl h5
  · exact Or.inr ⟨c, hc, q1, by rw [(hC c hc).1]; exact q2, (hC c hc).2 q3, q4⟩
theorem gC_cg {V U : XV} {c : Nat} (hU : ∀ k, k = 0 ∨ k = 1 ∨ k = 8 ∨ k = 9 ∨ k = 10 ∨ k = 12 → U (19 + c) k = V (19 + c) k) (h : gC V c) : gC U c := by
  unfold gC at h ⊢
  rw [hU 0 (by omega), hU 1 (by omega), hU 8 (by omega), hU 9 (by omega), hU 10 (by omega), hU 12 (by omega)]
  exact h
theorem gD_m {V : XV} {n m d : Nat} (h : gD V n m d) : gD V n (m + 1) d := by
  obtain ⟨h1, h2, h3, h4, h5⟩ := h
  refine ⟨h1, h2, h3, h4, ?_⟩
  rcases h5 with h5 | ⟨c, hc, q⟩
  · exact Or.inl h5
  · exact Or.inr ⟨c, by omega, q⟩
theorem gD_n {V : XV} {n m d : Nat} (h : gD V n m d) : gD V (n + 1) m d := ⟨h.1, h.2.1, h.2.2.1, fun q => h.2.2.2.1 (by omega), h.2.2.2.2⟩
/-- cells that no promise of gJ speaks of -/
theorem gJ_cg {V U : XV} {n m : Nat} (h0 : U 0 4 = V 0 4 ∧ U 0 5 = V 0 5) (hw : ∀ p k, k < 8 → p = 5 ∨ p = 8 ∨ 25 ≤ p → U p k = V p k) (hd : ∀ d, d < 10 → ∀ k, k = 0 ∨ k = 2 ∨ k = 3 ∨ k = 6 ∨ k = 7 ∨ k = 8 → U (9 + d) k = V (9 + d) k) (hc : ∀ c, c < 6 → ∀ k, k = 0 ∨ k = 1 ∨ k = 8 ∨ k = 9 ∨ k = 10 ∨ k = 12 → U (19 + c) k = V (19 + c) k) (h : gJ V n m) : gJ U n m := by
  obtain ⟨a1, a2, a3, a4, a5, a6, a7⟩ := h
  exact ⟨by rw [h0.1]; exact a1, a2, by rw [h0.2]; exact a3, a4, gW_cg hw a5, fun d q => gD_cg (hd d q) (fun c hc9 => ⟨hc c (by omega) 1 (by omega), fun z => by rw [hc c (by omega) 12 (by omega)]; exact z⟩) (a6 d q), fun c q => gC_cg (hc c q) (a7 c q)⟩
/-- one device's cell is new -/
theorem gJ_dev {V U : XV} {n m d : Nat} (h : gJ V n m) (hU : ∀ p j, p ≠ 9 + d → U p j = V p j) (hd9 : d < 10) (hd : gD U n m d) : gJ U n m := by
  obtain ⟨a1, a2, a3, a4, a5, a6, a7⟩ := h
  refine ⟨by rw [hU 0 4 (by omega)]; exact a1, a2, by rw [hU 0 5 (by omega)]; exact a3, a4, gW_cg (fun p k _ _ => hU p k (by omega)) a5, fun e he => ?_, fun c hc => gC_cg (fun k _ => hU _ k (by omega)) (a7 c hc)⟩
  by_cases q : e = d
  · rw [q]; exact hd
  · exact gD_cg (fun k _ => hU _ k (by omega)) (fun c hc => ⟨hU _ 1 (by omega), fun z => by rw [hU _ 12 (by omega)]; exact z⟩) (a6 e he)
/-- one campaign's cell is new, its target and its reporters as before -/
theorem gJ_cam {V U : XV} {n m c : Nat} (h : gJ V n m) (hU : ∀ p j, p ≠ 19 + c → U p j = V p j) (h1 : U (19 + c) 1 = V (19 + c) 1) (h12 : U (19 + c) 12 = V (19 + c) 12) (hc6 : c < 6) (hc : gC U c) : gJ U n m := by
  obtain ⟨a1, a2, a3, a4, a5, a6, a7⟩ := h
  refine ⟨by rw [hU 0 4 (by omega)]; exact a1, a2, by rw [hU 0 5 (by omega)]; exact a3, a4, gW_cg (fun p k _ hp => by by_cases q : p = 19 + c <;> first | omega | exact hU p k q) a5, fun d hd => gD_cg (fun k _ => hU _ k (by omega)) (fun e he => ?_) (a6 d hd), fun e he => ?_⟩
  · by_cases q : e = c
    · subst q; exact ⟨h1, fun z => by rw [h12]; exact z⟩
    · exact ⟨hU _ 1 (by omega), fun z => by rw [hU _ 12 (by omega)]; exact z⟩
  · by_cases q : e = c
    · rw [q]; exact hc
    · exact gC_cg (fun k _ => hU _ k (by omega)) (a7 e he)
theorem gJ_n {V : XV} {n m : Nat} (h : gJ V n m) : V 0 4 = nI n ∧ n ≤ 10 ∧ (V 0 4).toInt ≤ 10 := ⟨h.1, h.2.1, by rw [h.1, nI_ti (by have := h.2.1; omega)]; have := h.2.1; omega⟩
theorem gJ_m {V : XV} {n m : Nat} (h : gJ V n m) : V 0 5 = nI m ∧ m ≤ 6 ∧ (V 0 5).toInt ≤ 6 := ⟨h.2.2.1, h.2.2.2.1, by rw [h.2.2.1, nI_ti (by have := h.2.2.2.1; omega)]; have := h.2.2.2.1; omega⟩
theorem gJ_d {V : XV} {n m : Nat} (h : gJ V n m) {d : Nat} (hd : d < 10) : gD V n m d := h.2.2.2.2.2.1 d hd
theorem gJ_c {V : XV} {n m : Nat} (h : gJ V n m) {c : Nat} (hc : c < 6) : gC V c := h.2.2.2.2.2.2 c hc
theorem gJ_safe {V : XV} {n m : Nat} (h : gJ V n m) : safeV V := by
  constructor
  · intro p hp
    have q := (gJ_d h (d := p - 9) (by omega)).2.1
    rw [show 9 + (p - 9) = p by omega] at q; exact q
  · intro p hp
    have q := (gJ_c h (c := p - 19) (by omega)).2.1
    rw [show 19 + (p - 19) = p by omega] at q; exact q
theorem gJ_act {V : XV} {n m : Nat} (h : gJ V n m) : ∀ q, 19 ≤ q ∧ q < 25 → V q 8 = 0 ∨ V q 8 = 1 := by
  intro p hp
  have q := (gJ_c h (c := p - 19) (by omega)).2.2.1
  rw [show 19 + (p - 19) = p by omega] at q; exact q
/-- a number is refused, or is one of N -/
theorem up_T (v : Int32) {x : Int32} {N : Nat} (E : String) (hx : x = nI N) (hN : N < 1000) : ((if v < 0 then some E else if v < x then none else some E) = none ∧ ∃ j, j < N ∧ v = nI j) ∨ ((if v < 0 then some E else if v < x then none else some E) = some E ∧ ∀ j, j < N → v ≠ nI j) := by
  subst hx
  by_cases h0 : v < 0
  · right
    rw [if_pos h0]
    refine ⟨rfl, fun j hj e => ?_⟩
    rw [e, ti_lt, nI_ti (by omega), ti_0] at h0
    omega
  · rw [if_neg h0]
    by_cases h1 : v < nI N
    · left
      rw [if_pos h1]
      have h2 : vp_in v N := vp_lt h0 h1 (by rw [nI_ti hN]; omega)
      exact ⟨rfl, vp_in_of h2 (by omega)⟩
    · right
      rw [if_neg h1]
      refine ⟨rfl, fun j hj e => h1 ?_⟩
      rw [e, ti_lt, nI_ti (by omega), nI_ti hN]
      omega
theorem nVx_T (v : Int32) : (nVx v = none ∧ ∃ j, j < 8 ∧ v = nI j) ∨ (nVx v = some xIO ∧ ∀ j, j < 8 → v ≠ nI j) := up_T v xIO (show (8 : Int32) = nI 8 from rfl) (by omega)
theorem nKx_T (v : Int32) : (nKx v = none ∧ ∃ j, j < 4 ∧ v = nI j) ∨ (nKx v = some xIO ∧ ∀ j, j < 4 → v ≠ nI j) := up_T v xIO (show (4 : Int32) = nI 4 from rfl) (by omega)
theorem nDx_T {V : XV} {n m : Nat} (h : gJ V n m) (v : Int32) : (nDx V v = none ∧ ∃ j, j < n ∧ v = nI j) ∨ (nDx V v = some xIO ∧ ∀ j, j < n → v ≠ nI j) := up_T v xIO h.1 (by have := h.2.1; omega)
theorem nCx_T {V : XV} {n m : Nat} (h : gJ V n m) (v : Int32) : (nCx V v = none ∧ ∃ j, j < m ∧ v = nI j) ∨ (nCx V v = some xIO ∧ ∀ j, j < m → v ≠ nI j) := up_T v xIO h.2.2.1 (by have := h.2.2.2.1; omega)
theorem nRx_T (v lo hi : Int32) : (nRx v lo hi = none ∧ lo.toInt ≤ v.toInt ∧ v.toInt ≤ hi.toInt) ∨ (nRx v lo hi = some xIA ∧ ¬ (lo.toInt ≤ v.toInt ∧ v.toInt ≤ hi.toInt)) := by
  unfold nRx
  by_cases h0 : v < lo
  · right
    rw [if_pos h0]
    rw [ti_lt] at h0
    exact ⟨rfl, by omega⟩
  · rw [if_neg h0]
    rw [ti_lt] at h0
    by_cases h1 : v ≤ hi
    · left
      rw [if_pos h1]
      rw [ti_le] at h1
      exact ⟨rfl, by omega, h1⟩
    · right
      rw [if_neg h1]
      rw [ti_le] at h1
      exact ⟨rfl, by omega⟩
theorem nDx_at {V : XV} {n m : Nat} (h : gJ V n m) {j : Nat} (hj : j < n) : nDx V (nI j) = none := (nDx_T h (nI j)).elim (fun q => q.1) (fun q => absurd rfl (q.2 j hj))
theorem nCx_at {V : XV} {n m : Nat} (h : gJ V n m) {j : Nat} (hj : j < m) : nCx V (nI j) = none := (nCx_T h (nI j)).elim (fun q => q.1) (fun q => absurd rfl (q.2 j hj))
theorem nVx_at {j : Nat} (hj : j < 8) : nVx (nI j) = none := (nVx_T (nI j)).elim (fun q => q.1) (fun q => absurd rfl (q.2 j hj))
/-! the writers -/
theorem gJ_allow {V : XV} {n m v : Nat} (z : Int32) (h : gJ V n m) : gJ (xs V 1 v z) n m :=
  gJ_cg ⟨xs_p _ _ _ _ (by omega), xs_p _ _ _ _ (by omega)⟩ (fun p k _ hp => xs_p _ _ _ _ (by omega)) (fun d _ k _ => xs_p _ _ _ _ (by omega)) (fun c _ k _ => xs_p _ _ _ _ (by omega)) h
theorem gJ_meas {V U : XV} {n m : Nat} (h : gJ V n m) (hU : ∀ p j, p ≠ 5 → ¬ (25 ≤ p ∧ p < 33) → U p j = V p j) (hE : gE (cE U)) (hI : gI (cIm U)) : gJ (measV U) n m := by
  have hm : ∀ p j, p ≠ 8 → p < 33 → measV U p j = U p j := fun p j h8 h33 => measV_fr U h33 h8 j
  obtain ⟨a1, a2, a3, a4, a5, a6, a7⟩ := h
  refine ⟨by rw [hm 0 4 (by omega) (by omega), hU 0 4 (by omega) (by omega)]; exact a1, a2, by rw [hm 0 5 (by omega) (by omega), hU 0 5 (by omega) (by omega)]; exact a3, a4, ⟨?_, ?_, tOK_meas U hE hI⟩, fun d hd => gD_cg (fun j _ => (hm _ j (by omega) (by omega)).trans (hU _ j (by omega) (by omega))) (fun c hc => ⟨(hm _ 1 (by omega) (by omega)).trans (hU _ 1 (by omega) (by omega)), fun z => by rw [hm _ 12 (by omega) (by omega), hU _ 12 (by omega) (by omega)]; exact z⟩) (a6 d hd), fun c hc => gC_cg (fun j _ => (hm _ j (by omega) (by omega)).trans (hU _ j (by omega) (by omega))) (a7 c hc)⟩
  · rw [cE_same (V := U) (fun p j _ _ _ => hm p j (by omega) (by omega))]; exact hE
  · rw [cIm_same (V := U) (fun j _ => hm 5 j (by omega) (by omega))]; exact hI
theorem nBx_z {z : Int32} (h : nBx z = none) : z.toInt = -1 ∨ (1 ≤ z.toInt ∧ z.toInt ≤ 100000) := by
  unfold nBx at h
  by_cases q : z = -1
  · exact Or.inl ((ti_ne1 z).mp q)
  · rw [if_neg q] at h
    rcases nRx_T z 1 100000 with ⟨_, h1, h2⟩ | ⟨h1, _⟩
    · have e1 : (1 : Int32).toInt = 1 := by decide
      have e2 : (100000 : Int32).toInt = 100000 := by decide
      omega
    · rw [h1] at h; cases h
theorem gJ_image {V : XV} {n m v : Nat} (hv : v < 8) {z : Int32} (hz : nBx z = none) (h : gJ V n m) : gJ (measV (xs V 5 v z)) n m := by
  obtain ⟨a4, a5, a6⟩ := h.2.2.2.2.1
  refine gJ_meas h (fun p j h5 _ => xs_p _ _ _ _ h5) ?_ ?_
  · rw [cE_same (V := V) (fun p k _ _ _ => xs_p _ _ _ _ (by omega))]; exact a4
  · intro u
    by_cases q : u = v
    · have e : cIm (xs V 5 v z) u = z.toInt := by
        unfold cIm; rw [if_pos (by omega), q, xs_self]
      rw [e]
      have := nBx_z hz
      omega
    · have e : cIm (xs V 5 v z) u = cIm V u := by
        unfold cIm; rw [xs_get V (p := 5) (k := v) (q := 5) (j := u) z (fun w => q w.2)]
      rw [e]; exact a5 u
theorem gJ_delta {V : XV} {n m f t : Nat} (hf : f < 8) (ht : t < 8) {z : Int32} (hz : nBx z = none) (h : gJ V n m) : gJ (measV (xs V (25 + f) t z)) n m := by
  obtain ⟨a4, a5, a6⟩ := h.2.2.2.2.1
  refine gJ_meas h (fun p j h5 h25 => xs_p _ _ _ _ (by omega)) ?_ ?_
  · intro i j
    by_cases q : i = f ∧ j = t
    · have e : cE (xs V (25 + f) t z) i j = z.toInt := by
        unfold cE; rw [if_pos (by omega), q.1, q.2, xs_self]
      rw [e]
      have := nBx_z hz
      omega
    · have e : cE (xs V (25 + f) t z) i j = cE V i j := by
        unfold cE; rw [xs_get V (p := 25 + f) (k := t) (q := 25 + i) (j := j) z (by omega)]
      rw [e]; exact a4 i j
  · rw [cIm_same (V := V) (fun k _ => xs_p _ _ _ _ (by omega))]; exact a5
theorem in_nI {z : Int32} {N : Nat} (h0 : 0 ≤ z.toInt) (h1 : z.toInt ≤ N) (hN : N < 1000) : ∃ b, b ≤ N ∧ z = nI b := by
  refine ⟨z.toInt.toNat, by omega, ?_⟩
  rw [ti_eq, nI_ti (by omega)]
  omega
theorem gJ_charge {V : XV} {n m d : Nat} (hd : d < 10) {z : Int32} (hz : nRx z 0 100 = none) (h : gJ V n m) : gJ (xs V (9 + d) 3 z) n m := by
  refine gJ_dev (d := d) h (fun p j hp => xs_p _ _ _ _ hp) hd ?_
  obtain ⟨h1, h2, h3, h4, h5⟩ := gJ_d h hd
  have hb : ∃ b, b ≤ 100 ∧ z = nI b := by
    rcases nRx_T z 0 100 with ⟨_, q1, q2⟩ | ⟨q, _⟩
    · have e2 : (100 : Int32).toInt = 100 := by decide
      rw [ti_0] at q1
      exact in_nI q1 (by omega) (by omega)
    · rw [q] at hz; cases hz
  have o : ∀ j, j ≠ 3 → xs V (9 + d) 3 z (9 + d) j = V (9 + d) j := fun j hj => xs_get _ _ (by omega)
  have oc : ∀ c j, xs V (9 + d) 3 z (19 + c) j = V (19 + c) j := fun c j => xs_p _ _ _ _ (by omega)
  unfold gD
  rw [o 0 (by omega), o 2 (by omega), o 6 (by omega), o 7 (by omega), o 8 (by omega), xs_self]
  refine ⟨h1, h2, hb, h4, ?_⟩
  rcases h5 with h5 | ⟨c, hc, q⟩
  · exact Or.inl h5
  · refine Or.inr ⟨c, hc, ?_⟩
    rw [oc, oc]; exact q
theorem gJ_window {V : XV} {n m d : Nat} (hd : d < 10) (f t : Int32) (h : gJ V n m) : gJ (xs (xs V (9 + d) 4 f) (9 + d) 5 t) n m := by
  have o : ∀ p j, ¬ (p = 9 + d ∧ (j = 4 ∨ j = 5)) → xs (xs V (9 + d) 4 f) (9 + d) 5 t p j = V p j := fun p j hj => by rw [xs_get _ _ (by omega), xs_get _ _ (by omega)]
  exact gJ_dev (d := d) h (fun p j hp => o p j (by omega)) hd (gD_cg (fun k hk => o _ k (by omega)) (fun c _ => ⟨o _ 1 (by omega), fun z => by rw [o _ 12 (by omega)]; exact z⟩) (gJ_d h hd))
theorem gJ_rules {V : XV} {n m c : Nat} (hc : c < 6) (f s n9 th : Int32) (h : gJ V n m) : gJ (rulesV V (19 + c) f s n9 th) n m := by
  have o : ∀ p j, ¬ (p = 19 + c ∧ (j = 4 ∨ j = 5 ∨ j = 6 ∨ j = 7)) → rulesV V (19 + c) f s n9 th p j = V p j := fun p j hj => by unfold rulesV; rw [xs_get _ _ (by omega), xs_get _ _ (by omega), xs_get _ _ (by omega), xs_get _ _ (by omega)]
  exact gJ_cam (c := c) h (fun p j hp => o p j (by omega)) (o _ _ (by omega)) (o _ _ (by omega)) hc (gC_cg (fun k hk => o _ k (by omega)) (gJ_c h hc))
theorem gJ_stop {V : XV} {n m c : Nat} (hc : c < 6) (h : gJ V n m) : gJ (xs V (19 + c) 8 0) n m := by
  have o : ∀ p j, ¬ (p = 19 + c ∧ j = 8) → xs V (19 + c) 8 0 p j = V p j := fun p j hj => xs_get _ _ hj
  refine gJ_cam (c := c) h (fun p j hp => o p j (by omega)) (o _ _ (by omega)) (o _ _ (by omega)) hc ?_
  obtain ⟨h1, h2, h3, h4, h5⟩ := gJ_c h hc
  unfold gC
  rw [o _ 0 (by omega), o _ 1 (by omega), o _ 9 (by omega), o _ 10 (by omega), o _ 12 (by omega), xs_self]
  exact ⟨h1, h2, Or.inl rfl, h4, h5⟩
/-- a ring begins -/
theorem gJ_ring {V : XV} {n m c : Nat} (hc : c < 6) {z : Int32} (hz : ∃ k, k ≤ 2 ∧ z = nI k) (h : gJ V n m) : gJ (ringV V (19 + c) z) n m := by
  have o : ∀ p j, ¬ (p = 19 + c ∧ (j = 9 ∨ j = 10 ∨ j = 11)) → ringV V (19 + c) z p j = V p j := fun p j hj => by unfold ringV; rw [xs_get _ _ (by omega), xs_get _ _ (by omega), xs_get _ _ (by omega)]
  refine gJ_cam (c := c) h (fun p j hp => o p j (by omega)) (o _ _ (by omega)) (o _ _ (by omega)) hc ?_
  obtain ⟨h1, h2, h3, h4, h5⟩ := gJ_c h hc
  have e9 : ringV V (19 + c) z (19 + c) 9 = z := by unfold ringV; rw [xs_get _ _ (by omega), xs_get _ _ (by omega), xs_self]
  have e10 : ringV V (19 + c) z (19 + c) 10 = 0 := by unfold ringV; rw [xs_get _ _ (by omega), xs_self]
  unfold gC
  rw [o _ 0 (by omega), o _ 1 (by omega), o _ 8 (by omega), o _ 12 (by omega), e9, e10]
  exact ⟨h1, h2, h3, hz, 0, Nat.zero_le _, rfl⟩
theorem gJ_toggle {V : XV} {n m c : Nat} (hc : c < 6) (h : gJ V n m) : gJ (toggleV V (19 + c)) n m := by
  unfold toggleV
  by_cases h0 : V (19 + c) 8 = 0
  · rw [if_pos h0]
    have o : ∀ p j, ¬ (p = 19 + c ∧ j = 8) → xs V (19 + c) 8 1 p j = V p j := fun p j hj => xs_get _ _ hj
    refine gJ_ring hc (by rw [o _ 9 (by omega)]; exact (gJ_c h hc).2.2.2.1) ?_
    refine gJ_cam (c := c) h (fun p j hp => o p j (by omega)) (o _ _ (by omega)) (o _ _ (by omega)) hc ?_
    obtain ⟨h1, h2, h3, h4, h5⟩ := gJ_c h hc
    unfold gC
    rw [o _ 0 (by omega), o _ 1 (by omega), o _ 9 (by omega), o _ 10 (by omega), o _ 12 (by omega), xs_self]
    exact ⟨h1, h2, Or.inr rfl, h4, h5⟩
  · rw [if_neg h0]; exact gJ_stop hc h
theorem toggle_01 {V : XV} (q : Nat) : toggleV V q q 8 = 0 ∨ toggleV V q q 8 = 1 := by
  unfold toggleV
  split
  · right; unfold ringV; rw [xs_get _ _ (by omega), xs_get _ _ (by omega), xs_get _ _ (by omega), xs_self]
  · left; exact xs_self _ _ _ _
theorem gJ_add {V : XV} {n m : Nat} (hn : n < 10) (k9 : Int32) {v : Int32} (hv : vp_in v 8) (h : gJ V n m) : gJ (addV V n k9 v) (n + 1) m ∧ addV V n k9 v (9 + n) 0 = nI n := by
  obtain ⟨a1, a2, a3, a4, a5, a6, a7⟩ := h
  have eV : addV0 V n k9 v 0 4 = nI n := by unfold addV0; rw [xs_p _ _ _ _ (by omega), xs_p _ _ _ _ (by omega)]; exact a1
  have oV : ∀ p j, ¬ (p = 9 + n ∧ (j = 1 ∨ j = 2)) → ¬ (p = 0 ∧ j = 4) → addV V n k9 v p j = V p j := fun p j hp h0 => by unfold addV addV0; rw [xs_get _ _ h0, xs_get _ _ (by omega), xs_get _ _ (by omega)]
  have e4 : addV V n k9 v 0 4 = nI (n + 1) := by unfold addV; rw [xs_self, eV, nI_s]
  have e2 : addV V n k9 v (9 + n) 2 = v := by unfold addV addV0; rw [xs_p _ _ _ _ (by omega), xs_self]
  obtain ⟨d1, d2, d3, d4, d5⟩ := a6 n hn
  refine ⟨⟨e4, by omega, by rw [oV 0 5 (by omega) (by omega)]; exact a3, a4, gW_cg (fun p k _ hp => oV _ _ (by omega) (by omega)) a5, fun d hd => ?_, fun c hc => gC_cg (fun k _ => oV _ _ (by omega) (by omega)) (a7 c hc)⟩, by rw [oV _ 0 (by omega) (by omega)]; exact d1⟩
  by_cases q : d = n
  · subst q
    unfold gD
    rw [oV _ 0 (by omega) (by omega), e2, oV _ 3 (by omega) (by omega), oV _ 6 (by omega) (by omega), oV _ 7 (by omega) (by omega), oV _ 8 (by omega) (by omega)]
    have h6 := d4 (Nat.le_refl d)
    refine ⟨d1, hv, d3, fun q => by omega, Or.inl ?_⟩
    rcases d5 with d5 | ⟨c, _, _, _, _, w | w⟩
    · exact d5
    · rw [h6] at w; exact absurd w.1 (by decide)
    · rw [h6] at w; exact absurd w.1 (by decide)
  · exact gD_n (gD_cg (fun k _ => oV _ _ (by omega) (by omega)) (fun c hc => ⟨oV _ _ (by omega) (by omega), fun z => by rw [oV _ 12 (by omega) (by omega)]; exact z⟩) (a6 d hd))
theorem gJ_begin0 {V : XV} {n m : Nat} {rep : Int32} (hr : rep = -1 ∨ ∃ r, r < m ∧ rep = nI r) (h : gJ V n m) : gJ (beginV0 V rep) n m := by
  have hm := h.2.2.2.1
  unfold beginV0
  by_cases h0 : rep = -1
  · rw [if_pos h0]; exact h
  · rw [if_neg h0]
    obtain ⟨r, hr, e⟩ := hr.resolve_left h0
    rw [cl_eq e (by omega)]
    exact gJ_stop (by omega) h
theorem gJ_begin {V : XV} {n m : Nat} (hm : m < 6) {t : Int32} (ht : vp_in t 8) (k9 vs : Int32) {rep : Int32} (hr : rep = -1 ∨ ∃ r, r < m ∧ rep = nI r) (h : gJ V n m) : gJ (beginV V m t k9 vs rep) n (m + 1) ∧ beginV V m t k9 vs rep (19 + m) 0 = nI m := by
  have h' := gJ_begin0 hr h
  unfold beginV beginV1
  generalize beginV0 V rep = U at h' ⊢
  obtain ⟨a1, a2, a3, a4, a5, a6, a7⟩ := h'
  have eV : xs (xs (xs U (19 + m) 1 t) (19 + m) 2 k9) (19 + m) 3 vs 0 5 = nI m := by rw [xs_p _ _ _ _ (by omega), xs_p _ _ _ _ (by omega), xs_p _ _ _ _ (by omega)]; exact a3
  rw [eV, nI_s]
  have oV : ∀ p j, ¬ (p = 19 + m ∧ (j = 1 ∨ j = 2 ∨ j = 3)) → ¬ (p = 0 ∧ j = 5) → xs (xs (xs (xs U (19 + m) 1 t) (19 + m) 2 k9) (19 + m) 3 vs) 0 5 (nI (m + 1)) p j = U p j := fun p j hp h0 => by rw [xs_get _ _ h0, xs_get _ _ (by omega), xs_get _ _ (by omega), xs_get _ _ (by omega)]
  have e1 : xs (xs (xs (xs U (19 + m) 1 t) (19 + m) 2 k9) (19 + m) 3 vs) 0 5 (nI (m + 1)) (19 + m) 1 = t := by rw [xs_p _ _ _ _ (by omega), xs_get _ _ (by omega), xs_get _ _ (by omega), xs_self]
  obtain ⟨c1, c2, c3, c4, c5⟩ := a7 m hm
  refine ⟨⟨by rw [oV 0 4 (by omega) (by omega)]; exact a1, a2, xs_self _ _ _ _, by omega, gW_cg (fun p k _ hp => oV _ _ (by omega) (by omega)) a5, fun d hd => gD_m (gD_cg (fun k _ => oV _ _ (by omega) (by omega)) (fun c hc => ⟨oV _ _ (by omega) (by omega), fun z => by rw [oV _ 12 (by omega) (by omega)]; exact z⟩) (a6 d hd)), fun c hc => ?_⟩, by rw [oV _ 0 (by omega) (by omega)]; exact c1⟩
  by_cases q : c = m
  · subst q
    unfold gC
    rw [e1, oV _ 0 (by omega) (by omega), oV _ 8 (by omega) (by omega), oV _ 9 (by omega) (by omega), oV _ 10 (by omega) (by omega), oV _ 12 (by omega) (by omega)]
    exact ⟨c1, ht, c3, c4, c5⟩
  · exact gC_cg (fun k _ => oV _ _ (by omega) (by omega)) (a7 c hc)
/-! ===== END inv ===== -/
