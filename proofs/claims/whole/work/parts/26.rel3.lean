/-! ===== BEGIN rel3: addDevice, begin, report ===== -/
theorem nI_s (n : Nat) : nI n + 1 = nI (n + 1) := nI_1 n
theorem jDd_n {V M : XV} {n m d : Nat} (hd : d ≠ n) (h : jDd V M n m d) : jDd V M (n + 1) m d := by
  obtain ⟨b0, b1, b2, b3, b4, b5, b6, b7, b8, b9⟩ := h
  exact ⟨b0, b1, b2, b3, b4, b5, b6, b7, fun q => b8 (by omega), fun q => b9 (by omega)⟩
theorem jDd_m {V M : XV} {n m d : Nat} (h : jDd V M n m d) : jDd V M n (m + 1) d := by
  obtain ⟨b0, b1, b2, b3, b4, b5, b6, b7, b8, b9⟩ := h
  exact ⟨b0, b1, b2, b3, b4, b5, b6, fun q => by obtain ⟨c, hc, e⟩ := b7 q; exact ⟨c, by omega, e⟩, b8, b9⟩
theorem jCc_m {V M : XV} {m c : Nat} (hc : c ≠ m) (h : jCc V M m c) : jCc V M (m + 1) c := by
  obtain ⟨b0, b1, b2, b3, b4, b5, b6, b7, b8, b9, b10, b11, b12⟩ := h
  exact ⟨b0, b1, b2, b3, b4, b5, b6, b7, b8, b9, b10, fun q => b11 (by omega), fun q => b12 (by omega)⟩
theorem jJ_add {V M : XV} {n m k : Nat} (hn : n < 10) {k9 v : Int32} (hv : vp_in v 8) (h : jJ V M n m k) : jJ (addV V n k9 v) (addM M n k9 v) (n + 1) m k ∧ addV V n k9 v (9 + n) 0 = addM M n k9 v 0 6 - 1 := by
  obtain ⟨s1, s2, s3, s4, s5, s6, s7, s8, s9⟩ := h.1
  have eV : addV0 V n k9 v 0 4 = nI n := by unfold addV0; rw [xs_p _ _ _ _ (by omega), xs_p _ _ _ _ (by omega)]; exact s1
  have eM : addM0 M n k9 v 0 6 = nI n := by unfold addM0; rw [xs_p _ _ _ _ (by omega), xs_p _ _ _ _ (by omega), xs_p _ _ _ _ (by omega), xs_p _ _ _ _ (by omega), xs_p _ _ _ _ (by omega), xs_p _ _ _ _ (by omega)]; exact s2
  unfold addV addM
  rw [eV, eM, nI_s]
  have oV : ∀ p j, p ≠ 9 + n → ¬ (p = 0 ∧ j = 4) → xs (addV0 V n k9 v) 0 4 (nI (n + 1)) p j = V p j := fun p j hp h0 => by unfold addV0; rw [xs_get _ _ h0, xs_p _ _ _ _ hp, xs_p _ _ _ _ hp]
  have oM : ∀ p j, ¬ (5 ≤ p ∧ p ≤ 12 ∧ j = n) → ¬ (p = 0 ∧ j = 6) → xs (addM0 M n k9 v) 0 6 (nI (n + 1)) p j = M p j := fun p j hp h0 => by unfold addM0; rw [xs_get _ _ h0, xs_get _ _ (by omega), xs_get _ _ (by omega), xs_get _ _ (by omega), xs_get _ _ (by omega), xs_get _ _ (by omega), xs_get _ _ (by omega)]
  obtain ⟨b0, b1, b2, b3, b4, b5, b6, b7, b8, b9⟩ := h.2.2.1 n hn
  obtain ⟨d1, d2, d3, d4, d5, d6⟩ := b9 (Nat.le_refl n)
  refine ⟨⟨⟨xs_self _ _ _ _, xs_self _ _ _ _, by omega, ?_, ?_, s6, ?_, ?_, s9⟩, jW_cg (fun p j _ _ => oV p j (by omega) (by omega)) (fun p j _ => oM p j (by omega) (by omega)) h.2.1, fun d hd => ?_, fun c hc => jCc_cg (fun j _ => oV _ j (by omega) (by omega)) (fun p _ _ => oM p c (by omega) (by omega)) (fun i _ => oM 18 _ (by omega) (by omega)) (h.2.2.2 c hc)⟩, ?_⟩
  · rw [oV 0 5 (by omega) (by omega)]; exact s4
  · rw [oM 0 15 (by omega) (by omega)]; exact s5
  · rw [oV 0 6 (by omega) (by omega)]; exact s7
  · rw [oM 0 1 (by omega) (by omega)]; exact s8
  · by_cases q : d = n
    · subst q
      unfold jDd addV0 addM0
      simp only [xs_eq]
      simp
      refine ⟨b0, hv, b4, b5, b6, ?_, ⟨d1, d2, d3, d5⟩, fun z => by omega⟩
      intro z; exact absurd d4 z
    · exact jDd_n q (jDd_cg (fun j _ => oV _ j (by omega) (by omega)) (fun p _ _ => oM p d (by omega) (by omega)) (h.2.2.1 d hd))
  · unfold addV0
    rw [xs_self, xs_p _ _ _ _ (by omega), xs_get _ _ (by omega), xs_get _ _ (by omega), b0, nI_pred]
theorem jJ_stop {V M : XV} {n m k c : Nat} (hc : c < m) (h : jJ V M n m k) : jJ (xs V (19 + c) 8 0) (xs M 16 c 0) n m k := by
  have hm := h.1.2.2.2.2.2.1
  obtain ⟨b0, b1, b2, b3, b4, b5, b6, b7, b8, b9, b10, b11, b12⟩ := h.2.2.2 c (by omega)
  obtain ⟨c1, c2, c3, c4, c5, c6⟩ := b11 hc
  refine jJ_cam (c := c) h (fun p j hp => by rw [xs_p _ _ _ _ hp]) (fun p j hp => by rw [xs_get _ _ (by omega)]) (by omega) ?_
  unfold jCc
  simp only [xs_eq]
  simp
  exact ⟨b0, b1, b2, b3, b4, b5, b6, b7, b8, b9, fun _ => ⟨c1, c2, c3, c4, c5⟩, hc⟩
theorem jJ_begin0 {V M : XV} {n m k : Nat} {rep : Int32} (hr : rep = -1 ∨ ∃ r, r < m ∧ rep = nI r) (h : jJ V M n m k) : jJ (beginV0 V rep) (beginM0 M rep) n m k := by
  have hm := h.1.2.2.2.2.2.1
  unfold beginV0 beginM0
  by_cases h0 : rep = -1
  · rw [if_pos h0, if_pos h0]; exact h
  · rw [if_neg h0, if_neg h0]
    obtain ⟨r, hr, e⟩ := hr.resolve_left h0
    rw [cl_eq e (by omega)]
    exact jJ_stop hr h
theorem jJ_begin {V M : XV} {n m k : Nat} (hm : m < 6) {t : Int32} (ht : vp_in t 8) (k9 vs : Int32) {rep : Int32} (hr : rep = -1 ∨ ∃ r, r < m ∧ rep = nI r) (h : jJ V M n m k) : jJ (beginV V m t k9 vs rep) (beginM M m t k9 vs rep) n (m + 1) k ∧ beginV V m t k9 vs rep (19 + m) 0 = beginM M m t k9 vs rep 0 15 - 1 := by
  have h' := jJ_begin0 hr h
  unfold beginV beginM beginV1 beginM2 beginM1
  generalize beginV0 V rep = U at h' ⊢
  generalize beginM0 M rep = N at h' ⊢
  obtain ⟨s1, s2, s3, s4, s5, s6, s7, s8, s9⟩ := h'.1
  have eV : xs (xs (xs U (19 + m) 1 t) (19 + m) 2 k9) (19 + m) 3 vs 0 5 = nI m := by rw [xs_p _ _ _ _ (by omega), xs_p _ _ _ _ (by omega), xs_p _ _ _ _ (by omega)]; exact s4
  have oM0 : ∀ p j, ¬ (13 ≤ p ∧ ((p ≠ 18 ∧ j = m) ∨ (p = 18 ∧ 3 * m ≤ j ∧ j < 3 * m + 3))) → (xs (xs (xs (xs (xs (xs (xs (xs (xs N 13 m t) 14 m k9) 15 m vs) 16 m 1) 18 (3 * m) 10) 18 (3 * m + 1) 50) 18 (3 * m + 2) 100) 19 m 3) 20 m 200) p j = N p j := fun p j hp => by rw [xs_get _ _ (by omega), xs_get _ _ (by omega), xs_get _ _ (by omega), xs_get _ _ (by omega), xs_get _ _ (by omega), xs_get _ _ (by omega), xs_get _ _ (by omega), xs_get _ _ (by omega), xs_get _ _ (by omega)]
  have oV0 : ∀ p j, p ≠ 19 + m → xs (xs (xs U (19 + m) 1 t) (19 + m) 2 k9) (19 + m) 3 vs p j = U p j := fun p j hp => by rw [xs_p _ _ _ _ hp, xs_p _ _ _ _ hp, xs_p _ _ _ _ hp]
  have eM : (xs (xs (xs (xs (xs (xs (xs (xs (xs N 13 m t) 14 m k9) 15 m vs) 16 m 1) 18 (3 * m) 10) 18 (3 * m + 1) 50) 18 (3 * m + 2) 100) 19 m 3) 20 m 200) 0 15 = nI m := (oM0 0 15 (by omega)).trans s5
  rw [eV, eM, nI_s]
  have oV : ∀ p j, p ≠ 19 + m → ¬ (p = 0 ∧ j = 5) → xs (xs (xs (xs U (19 + m) 1 t) (19 + m) 2 k9) (19 + m) 3 vs) 0 5 (nI (m + 1)) p j = U p j := fun p j hp h0 => (xs_get _ _ h0).trans (oV0 p j hp)
  have oM : ∀ p j, ¬ (13 ≤ p ∧ ((p ≠ 18 ∧ j = m) ∨ (p = 18 ∧ 3 * m ≤ j ∧ j < 3 * m + 3))) → ¬ (p = 0 ∧ j = 15) → xs (xs (xs (xs (xs (xs (xs (xs (xs (xs N 13 m t) 14 m k9) 15 m vs) 16 m 1) 18 (3 * m) 10) 18 (3 * m + 1) 50) 18 (3 * m + 2) 100) 19 m 3) 20 m 200) 0 15 (nI (m + 1)) p j = N p j := fun p j hp h0 => (xs_get _ _ h0).trans (oM0 p j hp)
  obtain ⟨b0, b1, b2, b3, b4, b5, b6, b7, b8, b9, b10, b11, b12⟩ := h'.2.2.2 m hm
  obtain ⟨c1, c2, c3, c4, c5⟩ := b12 (Nat.le_refl m)
  refine ⟨⟨⟨?_, ?_, s3, xs_self _ _ _ _, xs_self _ _ _ _, by omega, ?_, ?_, s9⟩, jW_cg (fun p j _ _ => by by_cases q : p = 19 + m <;> first | omega | exact oV p j q (by omega)) (fun p j _ => oM p j (by omega) (by omega)) h'.2.1, fun d hd => jDd_m (jDd_cg (fun j _ => oV _ j (by omega) (by omega)) (fun p _ _ => oM p d (by omega) (by omega)) (h'.2.2.1 d hd)), fun c hc => ?_⟩, ?_⟩
  · rw [oV 0 4 (by omega) (by omega)]; exact s1
  · rw [oM 0 6 (by omega) (by omega)]; exact s2
  · rw [oV 0 6 (by omega) (by omega)]; exact s7
  · rw [oM 0 1 (by omega) (by omega)]; exact s8
  · by_cases q : c = m
    · subst q
      unfold jCc
      simp only [xs_eq]
      simp
      exact ⟨b0, ht, b5, b6, b7, b8, b9, b10, ⟨c1, c2, c3, c4, c5⟩, fun z => by omega⟩
    · exact jCc_m q (jCc_cg (fun j _ => oV _ j (by omega) (by omega)) (fun p _ _ => oM p c (by omega) (by omega)) (fun i _ => oM 18 _ (by omega) (by omega)) (h'.2.2.2 c hc))
  · rw [xs_self, xs_p _ _ _ _ (by omega), xs_get _ _ (by omega), xs_get _ _ (by omega), xs_get _ _ (by omega), b0, nI_pred]
theorem jJ_report1 {V M : XV} {n m k d c : Nat} (hd : d < n) (hc : c < m) (z : Int32) (h : jJ V M n m k) : jJ (reportV0 V (9 + d) (19 + c) z) (reportM1 M d c z) n m k := by
  have hn := h.1.2.2.1
  have hm := h.1.2.2.2.2.2.1
  obtain ⟨b0, b1, b2, b3, b4, b5, b6, b7, b8, b9⟩ := h.2.2.1 d (by omega)
  obtain ⟨c1, c2, c3, c4⟩ := b8 hd
  obtain ⟨_, q1, q2, _⟩ := h.2.2.2 c (by omega)
  unfold reportV0 reportM1
  rw [← q1, ← b2]
  by_cases h0 : z = 0
  · rw [if_pos h0, if_pos h0]
    refine jJ_dev (d := d) h (fun p j hp => by rw [xs_p _ _ _ _ hp, xs_p _ _ _ _ hp]) (fun p j hp _ => by rw [xs_get _ _ (by omega), xs_get _ _ (by omega), xs_get _ _ (by omega)]) (by omega) ?_
    unfold jDd
    simp only [xs_eq]
    simp
    exact ⟨b0, b1, b3, b5, b6, fun _ => ⟨c1, c2, c3⟩, fun z => by omega⟩
  · rw [if_neg h0, if_neg h0]
    refine jJ_dev (d := d) h (fun p j hp => by rw [xs_p _ _ _ _ hp, xs_p _ _ _ _ hp, xs_p _ _ _ _ hp]) (fun p j hp _ => by rw [xs_get _ _ (by omega), xs_get _ _ (by omega), xs_get _ _ (by omega)]) (by omega) ?_
    unfold jDd
    simp only [xs_eq]
    simp
    exact ⟨b0, b1, q2, b5, b6, fun _ => ⟨c1, c2, c3⟩, fun z => by omega⟩
theorem jJ_count {V M : XV} {n m k d c : Nat} (hd : d < n) (hc : c < m) (z : Int32) (h : jJ V M n m k) : jJ (countV V (19 + c) (9 + d) z) (xs (xs (xs M 23 c (M 23 c ||| (1 <<< (nI d &&& 31)))) 21 c (M 21 c + 1)) 22 c (M 22 c + (if z = 0 then 1 else 0))) n m k := by
  have hn := h.1.2.2.1
  have hm := h.1.2.2.2.2.2.1
  obtain ⟨a0, _⟩ := h.2.2.1 d (by omega)
  obtain ⟨b0, b1, b2, b3, b4, b5, b6, b7, b8, b9, b10, b11, b12⟩ := h.2.2.2 c (by omega)
  unfold countV countV0
  by_cases h0 : z = 0
  · rw [if_pos h0, if_pos h0]
    refine jJ_cam (c := c) h (fun p j hp => by rw [xs_p _ _ _ _ hp, xs_p _ _ _ _ hp, xs_p _ _ _ _ hp]) (fun p j hp => by rw [xs_get _ _ (by omega), xs_get _ _ (by omega), xs_get _ _ (by omega)]) (by omega) ?_
    unfold jCc
    simp only [xs_eq]
    simp
    rw [a0, b7, b8, b9]
    exact ⟨b0, b1, b2, b3, b4, b5, b6, rfl, rfl, rfl, b10, b11, b12⟩
  · rw [if_neg h0, if_neg h0, Int32.add_zero]
    refine jJ_cam (c := c) h (fun p j hp => by rw [xs_p _ _ _ _ hp, xs_p _ _ _ _ hp]) (fun p j hp => by rw [xs_get _ _ (by omega), xs_get _ _ (by omega), xs_get _ _ (by omega)]) (by omega) ?_
    unfold jCc
    simp only [xs_eq]
    simp
    rw [a0, b7, b9]
    exact ⟨b0, b1, b2, b3, b4, b5, b6, rfl, b8, rfl, b10, b11, b12⟩
theorem jJ_judge {V M : XV} {n m k c : Nat} (hc : c < m) (h : jJ V M n m k) : jJ (judgeV V (19 + c)) (judgeM M c) n m k := by
  have hm := h.1.2.2.2.2.2.1
  obtain ⟨b0, b1, b2, b3, b4, b5, b6, b7, b8, b9, b10, b11, b12⟩ := h.2.2.2 c (by omega)
  obtain ⟨c1, c2, c3, c4, c5, c6⟩ := b11 hc
  unfold judgeV judgeM
  rw [← b5, ← b7, ← b8, ← c4, ← c5, ← c6]
  by_cases h1 : V (19 + c) 8 = 0
  · rw [if_pos h1, if_pos h1]; exact h
  · rw [if_neg h1, if_neg h1]
    by_cases h2 : V (19 + c) 6 ≤ V (19 + c) 10
    · rw [if_pos h2, if_pos h2]
      by_cases h3 : V (19 + c) 11 * 1000 ≤ V (19 + c) 10 * V (19 + c) 7
      · rw [if_pos h3, if_pos h3]
        obtain ⟨z, hz, ez⟩ := b6
        have h2z : (2 ≤ V (19 + c) 9) ↔ V (19 + c) 9 = 2 := by
          rw [ez, ti_le, ti_eq, nI_toInt (by omega)]
          have : (2 : Int32).toInt = 2 := by decide
          omega
        by_cases h4 : V (19 + c) 9 = 2
        · rw [if_pos h4, if_pos (h2z.mpr h4)]; exact h
        · rw [if_neg h4, if_neg (fun w => h4 (h2z.mp w))]
          have hz2 : z < 2 := by
            have : z ≠ 2 := fun w => h4 (by rw [ez, w]; rfl)
            omega
          unfold ringV
          refine jJ_cam (c := c) h (fun p j hp => by rw [xs_p _ _ _ _ hp, xs_p _ _ _ _ hp, xs_p _ _ _ _ hp]) (fun p j hp => by rw [xs_get _ _ (by omega), xs_get _ _ (by omega), xs_get _ _ (by omega)]) (by omega) ?_
          unfold jCc
          simp only [xs_eq]
          simp
          exact ⟨b0, b1, b2, b3, b4, ⟨z + 1, by omega, by rw [ez, nI_s]⟩, b9, b10, b11, b12⟩
      · rw [if_neg h3, if_neg h3]; exact jJ_stop hc h
    · rw [if_neg h2, if_neg h2]; exact h
theorem jJ_report {V M : XV} {n m k d c : Nat} (hd : d < n) (hc : c < m) (z : Int32) (h : jJ V M n m k) : jJ (reportV V (9 + d) (19 + c) z) (reportM M d c (nI d) z) n m k := by
  unfold reportV reportM
  refine jJ_judge hc ?_
  have h2 := jJ_count hd hc z (jJ_report1 hd hc z h)
  have e : reportM4 M d c (nI d) z = xs (xs (xs (reportM1 M d c z) 23 c (reportM1 M d c z 23 c ||| (1 <<< (nI d &&& 31)))) 21 c (reportM1 M d c z 21 c + 1)) 22 c (reportM1 M d c z 22 c + (if z = 0 then 1 else 0)) := by
    unfold reportM4
    have e1 : reportM2 M d c (nI d) z 21 c = reportM1 M d c z 21 c := by unfold reportM2; rw [xs_p _ _ _ _ (by omega)]
    have e2 : reportM3 M d c (nI d) z 22 c = reportM1 M d c z 22 c := by unfold reportM3; rw [xs_p _ _ _ _ (by omega)]; unfold reportM2; rw [xs_p _ _ _ _ (by omega)]
    rw [e2]
    unfold reportM3
    rw [e1]
    rfl
  rw [e]; exact h2
/-! ===== END rel3 ===== -/
