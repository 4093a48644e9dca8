/-! ===== BEGIN rel2: the writers keep the two contents together ===== -/
theorem xs_p (V : XV) {p q : Nat} (k j : Nat) (v : Int32) (h : q ≠ p) : xs V p k v q j = V q j := xs_get V v (fun z => h z.1)
theorem jJ_dev {V M U N : XV} {n m k d : Nat} (h : jJ V M n m k) (hU : ∀ p j, p ≠ 9 + d → U p j = V p j) (hN : ∀ p j, ¬ (5 ≤ p ∧ p ≤ 12 ∧ j = d) → p ≠ 4 → N p j = M p j) (hd9 : d < 10) (hd : jDd U N n m d) : jJ U N n m k :=
  ⟨jS_cg (fun j _ => hU 0 j (by omega)) (fun j _ => hN 0 j (by omega) (by omega)) h.1,
   jW_cg (fun p j _ _ => hU p j (by omega)) (fun p j _ => hN p j (by omega) (by omega)) h.2.1,
   fun e he => if q : e = d then by rw [q]; exact hd else jDd_cg (fun j _ => hU _ j (by omega)) (fun p _ _ => hN p e (by omega) (by omega)) (h.2.2.1 e he),
   fun c hc => jCc_cg (fun j _ => hU _ j (by omega)) (fun p _ _ => hN p c (by omega) (by omega)) (fun i _ => hN 18 _ (by omega) (by omega)) (h.2.2.2 c hc)⟩
theorem jJ_cam {V M U N : XV} {n m k c : Nat} (h : jJ V M n m k) (hU : ∀ p j, p ≠ 19 + c → U p j = V p j) (hN : ∀ p j, ¬ (13 ≤ p ∧ ((p ≠ 18 ∧ j = c) ∨ (p = 18 ∧ 3 * c ≤ j ∧ j < 3 * c + 3))) → N p j = M p j) (hc6 : c < 6) (hc : jCc U N m c) : jJ U N n m k :=
  ⟨jS_cg (fun j _ => hU 0 j (by omega)) (fun j _ => hN 0 j (by omega)) h.1,
   jW_cg (fun p j _ _ => by by_cases q : p = 19 + c <;> first | omega | exact hU p j q) (fun p j _ => hN p j (by omega)) h.2.1,
   fun d hd => jDd_cg (fun j _ => hU _ j (by omega)) (fun p _ _ => hN p d (by omega)) (h.2.2.1 d hd),
   fun e he => if q : e = c then by rw [q]; exact hc else jCc_cg (fun j _ => hU _ j (by omega)) (fun p _ _ => hN p e (by omega)) (fun i _ => hN 18 _ (by omega)) (h.2.2.2 e he)⟩
theorem jJ_allow {V M : XV} {n m k v : Nat} (z : Int32) (h : jJ V M n m k) : jJ (xs V 1 v z) (xs M 1 v z) n m k := by
  obtain ⟨h1, ⟨a1, a2, a3, a4, a5, a6⟩, h3, h4⟩ := h
  refine ⟨jS_cg (fun j _ => xs_p _ _ _ _ (by omega)) (fun j _ => xs_p _ _ _ _ (by omega)) h1, ⟨?_, ?_, ?_, ?_, ?_, ?_⟩, fun d hd => jDd_cg (fun j _ => xs_p _ _ _ _ (by omega)) (fun p _ _ => xs_p _ _ _ _ (by omega)) (h3 d hd), fun c hc => jCc_cg (fun j _ => xs_p _ _ _ _ (by omega)) (fun p _ _ => xs_p _ _ _ _ (by omega)) (fun i _ => xs_p _ _ _ _ (by omega)) (h4 c hc)⟩
  · intro u hu
    rw [xs_eq, xs_eq]
    by_cases q : (1 : Nat) = 1 ∧ u = v
    · rw [if_pos q, if_pos q]
    · rw [if_neg q, if_neg q]; exact a1 u hu
  · intro u hu; rw [xs_p _ _ _ _ (by omega), xs_p _ _ _ _ (by omega)]; exact a2 u hu
  · intro i j hi hj; rw [xs_p _ _ _ _ (by omega), xs_p _ _ _ _ (by omega)]; exact a3 i j hi hj
  · rw [cE_same (V := V) (fun p k _ _ _ => xs_p _ _ _ _ (by omega))]; exact a4
  · rw [cIm_same (V := V) (fun k _ => xs_p _ _ _ _ (by omega))]; exact a5
  · exact tOK_cg (fun p k _ hp => xs_p _ _ _ _ (by omega)) a6
theorem szB_T {z : Int32} (h : szB z = true) : z.toInt = -1 ∨ (1 ≤ z.toInt ∧ z.toInt ≤ 100000) := by
  unfold szB inB at h
  simp only [Bool.or_eq_true, decide_eq_true_eq, Bool.and_eq_true, Bool.not_eq_true', decide_eq_false_iff_not] at h
  rcases h with h | ⟨h1, h2⟩
  · exact Or.inl ((ti_ne1 z).mp h)
  · rw [ti_lt] at h1 h2
    have e1 : (1 : Int32).toInt = 1 := by decide
    have e2 : (100000 : Int32).toInt = 100000 := by decide
    omega
theorem jJ_meas {V M U N : XV} {n m k : Nat} (h : jJ V M n m k) (hU : ∀ p j, p ≠ 5 → ¬ (25 ≤ p ∧ p < 33) → U p j = V p j) (hN : ∀ p j, p ≠ 2 → p ≠ 3 → N p j = M p j) (h5 : ∀ v, v < 8 → U 5 v = N 2 v) (h25 : ∀ i j, i < 8 → j < 8 → U (25 + i) j = N 3 (8 * i + j)) (hE : gE (cE U)) (hI : gI (cIm U)) : jJ (measV U) N n m k := by
  have hm : ∀ p j, p ≠ 8 → p < 33 → measV U p j = U p j := fun p j h8 h33 => measV_fr U h33 h8 j
  refine ⟨jS_cg (fun j _ => (hm 0 j (by omega) (by omega)).trans (hU 0 j (by omega) (by omega))) (fun j _ => hN 0 j (by omega) (by omega)) h.1, ⟨?_, ?_, ?_, ?_, ?_, tOK_meas U hE hI⟩, fun d hd => jDd_cg (fun j _ => (hm _ j (by omega) (by omega)).trans (hU _ j (by omega) (by omega))) (fun p _ _ => hN p d (by omega) (by omega)) (h.2.2.1 d hd), fun c hc => jCc_cg (fun j _ => (hm _ j (by omega) (by omega)).trans (hU _ j (by omega) (by omega))) (fun p _ _ => hN p c (by omega) (by omega)) (fun i _ => hN 18 _ (by omega) (by omega)) (h.2.2.2 c hc)⟩
  · intro v hv; rw [hm 1 v (by omega) (by omega), hU 1 v (by omega) (by omega), hN 1 v (by omega) (by omega)]; exact h.2.1.1 v hv
  · intro v hv; rw [hm 5 v (by omega) (by omega)]; exact h5 v hv
  · intro i j hi hj; rw [hm _ j (by omega) (by omega)]; exact h25 i j hi hj
  · rw [cE_same (V := U) (fun p j _ _ _ => hm p j (by omega) (by omega))]; exact hE
  · rw [cIm_same (V := U) (fun j _ => hm 5 j (by omega) (by omega))]; exact hI
theorem jJ_image {V M : XV} {n m k v : Nat} (hv : v < 8) {z : Int32} (hz : szB z = true) (h : jJ V M n m k) : jJ (measV (xs V 5 v z)) (xs M 2 v z) n m k := by
  obtain ⟨a1, a2, a3, a4, a5, a6⟩ := h.2.1
  refine jJ_meas h (fun p j h5 _ => xs_p _ _ _ _ h5) (fun p j h2 _ => xs_p _ _ _ _ h2) ?_ ?_ ?_ ?_
  · intro u hu
    rw [xs_eq, xs_eq]
    by_cases q : u = v
    · rw [if_pos ⟨rfl, q⟩, if_pos ⟨rfl, q⟩]
    · rw [if_neg (fun w => q w.2), if_neg (fun w => q w.2)]; exact a2 u hu
  · intro i j hi hj; rw [xs_p _ _ _ _ (by omega), xs_p _ _ _ _ (by omega)]; exact a3 i j hi hj
  · rw [cE_same (V := V) (fun p k _ _ _ => xs_p _ _ _ _ (by omega))]; exact a4
  · intro u
    by_cases q : u = v
    · have e : cIm (xs V 5 v z) u = z.toInt := by
        unfold cIm; rw [if_pos (by omega), q, xs_self]
      rw [e]
      have := szB_T hz
      omega
    · have e : cIm (xs V 5 v z) u = cIm V u := by
        unfold cIm; rw [xs_get V (p := 5) (k := v) (q := 5) (j := u) z (fun w => q w.2)]
      rw [e]; exact a5 u
theorem jJ_delta {V M : XV} {n m k f t : Nat} (hf : f < 8) (ht : t < 8) {z : Int32} (hz : szB z = true) (h : jJ V M n m k) : jJ (measV (xs V (25 + f) t z)) (xs M 3 (8 * f + t) z) n m k := by
  obtain ⟨a1, a2, a3, a4, a5, a6⟩ := h.2.1
  refine jJ_meas h (fun p j h5 h25 => xs_p _ _ _ _ (by omega)) (fun p j _ h3 => xs_p _ _ _ _ h3) ?_ ?_ ?_ ?_
  · intro u hu; rw [xs_p _ _ _ _ (by omega), xs_p _ _ _ _ (by omega)]; exact a2 u hu
  · intro i j hi hj
    rw [xs_eq, xs_eq]
    by_cases q : i = f ∧ j = t
    · rw [if_pos (by omega), if_pos (by omega)]
    · rw [if_neg (by omega), if_neg (by omega)]; exact a3 i j hi hj
  · intro i j
    by_cases q : i = f ∧ j = t
    · have e : cE (xs V (25 + f) t z) i j = z.toInt := by
        unfold cE; rw [if_pos (by omega), q.1, q.2, xs_self]
      rw [e]
      have := szB_T hz
      omega
    · have e : cE (xs V (25 + f) t z) i j = cE V i j := by
        unfold cE; rw [xs_get V (p := 25 + f) (k := t) (q := 25 + i) (j := j) z (by omega)]
      rw [e]; exact a4 i j
  · rw [cIm_same (V := V) (fun k _ => xs_p _ _ _ _ (by omega))]; exact a5
theorem jJ_charge {V M : XV} {n m k d : Nat} (hd : d < n) (z : Int32) (h : jJ V M n m k) : jJ (xs V (9 + d) 3 z) (xs M 7 d z) n m k := by
  have hn := h.1.2.2.1
  refine jJ_dev (d := d) h (fun p j hp => xs_p _ _ _ _ hp) (fun p j hp _ => xs_get _ _ (by omega)) (by omega) ?_
  obtain ⟨b0, b1, b2, b3, b4, b5, b6, b7, b8, b9⟩ := h.2.2.1 d (by omega)
  obtain ⟨c1, c2, c3, c4⟩ := b8 hd
  unfold jDd
  simp only [xs_eq]
  simp
  exact ⟨b0, b1, b2, b3, b4, b5, b6, b7, fun _ => ⟨c2, c3, c4⟩, fun z => by omega⟩
theorem jJ_window {V M : XV} {n m k d : Nat} (hd : d < n) (f t : Int32) (h : jJ V M n m k) : jJ (xs (xs V (9 + d) 4 f) (9 + d) 5 t) (xs (xs M 8 d f) 9 d t) n m k := by
  have hn := h.1.2.2.1
  refine jJ_dev (d := d) h (fun p j hp => (xs_p _ _ _ _ hp).trans (xs_p _ _ _ _ hp)) (fun p j hp _ => (xs_get _ _ (by omega)).trans (xs_get _ _ (by omega))) (by omega) ?_
  obtain ⟨b0, b1, b2, b3, b4, b5, b6, b7, b8, b9⟩ := h.2.2.1 d (by omega)
  obtain ⟨c1, c2, c3, c4⟩ := b8 hd
  unfold jDd
  simp only [xs_eq]
  simp
  exact ⟨b0, b1, b2, b3, b4, b5, b6, b7, fun _ => ⟨c1, c4⟩, fun z => by omega⟩
theorem jJ_rules {V M : XV} {n m k c : Nat} (hc : c < m) (f s n9 th : Int32) (h : jJ V M n m k) : jJ (rulesV V (19 + c) f s n9 th) (rulesM M c f s n9 th) n m k := by
  have hm := h.1.2.2.2.2.2.1
  unfold rulesV rulesM
  refine jJ_cam (c := c) h (fun p j hp => by rw [xs_p _ _ _ _ hp, xs_p _ _ _ _ hp, xs_p _ _ _ _ hp, xs_p _ _ _ _ hp]) (fun p j hp => by rw [xs_get _ _ (by omega), xs_get _ _ (by omega), xs_get _ _ (by omega), xs_get _ _ (by omega)]) (by omega) ?_
  obtain ⟨b0, b1, b2, b3, b4, b5, b6, b7, b8, b9, b10, b11, b12⟩ := h.2.2.2 c (by omega)
  obtain ⟨c1, c2, c3, c4, c5, c6⟩ := b11 hc
  unfold jCc
  simp only [xs_eq]
  simp
  exact ⟨b0, b1, b2, b3, b4, b5, b6, b7, b8, b9, b10, fun _ => ⟨c3, c6⟩, fun z => by omega⟩
theorem jJ_toggle {V M : XV} {n m k c : Nat} (hc : c < m) (h : jJ V M n m k) : jJ (toggleV V (19 + c)) (toggleM M c) n m k ∧ toggleV V (19 + c) (19 + c) 8 = toggleM M c 16 c := by
  have hm := h.1.2.2.2.2.2.1
  obtain ⟨b0, b1, b2, b3, b4, b5, b6, b7, b8, b9, b10, b11, b12⟩ := h.2.2.2 c (by omega)
  obtain ⟨c1, c2, c3, c4, c5, c6⟩ := b11 hc
  unfold toggleV toggleM ringV
  rw [← c6]
  by_cases h0 : V (19 + c) 8 = 0
  · rw [if_pos h0, if_pos h0]
    constructor
    · refine jJ_cam (c := c) h (fun p j hp => by rw [xs_p _ _ _ _ hp, xs_p _ _ _ _ hp, xs_p _ _ _ _ hp, xs_p _ _ _ _ hp]) (fun p j hp => by rw [xs_get _ _ (by omega), xs_get _ _ (by omega), xs_get _ _ (by omega)]) (by omega) ?_
      unfold jCc
      simp only [xs_eq]
      simp
      exact ⟨b0, b1, b2, b3, b4, b5, b6, b9, fun _ => ⟨c1, c2, c3, c4, c5⟩, fun z => by omega⟩
    · simp [xs_eq]
  · rw [if_neg h0, if_neg h0]
    constructor
    · refine jJ_cam (c := c) h (fun p j hp => by rw [xs_p _ _ _ _ hp]) (fun p j hp => by rw [xs_get _ _ (by omega)]) (by omega) ?_
      unfold jCc
      simp only [xs_eq]
      simp
      exact ⟨b0, b1, b2, b3, b4, b5, b6, b7, b8, b9, fun _ => ⟨c1, c2, c3, c4, c5⟩, hc⟩
    · simp [xs_eq]
/-! ===== END rel2 ===== -/
