/-! ===== BEGIN inv2: a report; the hours; the devices that may take a campaign; the law of triangles ===== -/
theorem judge_o (V : XV) (q : Nat) {p j : Nat} (h : ¬ (p = q ∧ (j = 8 ∨ j = 9 ∨ j = 10 ∨ j = 11))) : judgeV V q p j = V p j := by
  unfold judgeV
  split
  · rfl
  · split
    · split
      · split
        · rfl
        · unfold ringV; rw [xs_get _ _ (by omega), xs_get _ _ (by omega), xs_get _ _ (by omega)]
      · exact xs_get _ _ (by omega)
    · rfl
theorem judge_r (V : XV) (q : Nat) : (judgeV V q q 10 = V q 10 ∧ judgeV V q q 9 = V q 9) ∨ (judgeV V q q 10 = 0 ∧ judgeV V q q 9 = V q 9 + 1) := by
  unfold judgeV
  split
  · exact Or.inl ⟨rfl, rfl⟩
  · split
    · split
      · split
        · exact Or.inl ⟨rfl, rfl⟩
        · right
          unfold ringV
          exact ⟨by rw [xs_get _ _ (by omega), xs_self], by rw [xs_get _ _ (by omega), xs_get _ _ (by omega), xs_self]⟩
      · exact Or.inl ⟨xs_get _ _ (by omega), xs_get _ _ (by omega)⟩
    · exact Or.inl ⟨rfl, rfl⟩
theorem gJ_judge {V : XV} {n m c : Nat} (hc : c < 6) (h : gJ V n m) : gJ (judgeV V (19 + c)) n m := by
  unfold judgeV
  split
  · exact h
  · split
    · split
      · split
        · exact h
        · rename_i h2
          refine gJ_ring hc ?_ h
          obtain ⟨k, hk, e⟩ := (gJ_c h hc).2.2.2.1
          refine ⟨k + 1, ?_, by rw [e, nI_s]⟩
          have : k ≠ 2 := fun w => h2 (by rw [e, w]; rfl)
          omega
      · exact gJ_stop hc h
    · exact h
/-- the contents after a report, before the ring is judged -/
def repV (V : XV) (p q : Nat) (z : Int32) : XV := countV (reportV0 V p q z) q p z
theorem rep_o (V : XV) (p q : Nat) (z : Int32) {r j : Nat} (hpq : p ≠ q) (h1 : ¬ (r = p ∧ (j = 2 ∨ j = 6 ∨ j = 7))) (h2 : ¬ (r = q ∧ (j = 10 ∨ j = 11 ∨ j = 12))) : repV V p q z r j = V r j := by
  have e : ∀ r j, ¬ (r = p ∧ (j = 2 ∨ j = 6 ∨ j = 7)) → reportV0 V p q z r j = V r j := fun r j h => by
    unfold reportV0
    rw [xs_get _ _ (by omega), xs_get _ _ (by omega)]
    split
    · rfl
    · exact xs_get _ _ (by omega)
  unfold repV countV
  split
  · rw [xs_get _ _ (by omega)]; unfold countV0; rw [xs_get _ _ (by omega), xs_get _ _ (by omega)]; exact e r j h1
  · unfold countV0; rw [xs_get _ _ (by omega), xs_get _ _ (by omega)]; exact e r j h1
theorem rep_p (V : XV) (p q : Nat) (z : Int32) (hpq : p ≠ q) : repV V p q z p 2 = (if z = 0 then V p 2 else V q 1) ∧ repV V p q z p 6 = 0 ∧ repV V p q z p 7 = -1 := by
  have e : ∀ j, repV V p q z p j = reportV0 V p q z p j := fun j => by
    unfold repV countV
    split
    · rw [xs_p _ _ _ _ hpq]; unfold countV0; rw [xs_p _ _ _ _ hpq, xs_p _ _ _ _ hpq]
    · unfold countV0; rw [xs_p _ _ _ _ hpq, xs_p _ _ _ _ hpq]
  rw [e, e, e]
  unfold reportV0
  refine ⟨?_, by rw [xs_get _ _ (by omega), xs_self], xs_self _ _ _ _⟩
  rw [xs_get _ _ (by omega), xs_get _ _ (by omega)]
  split
  · rfl
  · exact xs_self _ _ _ _
theorem rep_q (V : XV) (p q : Nat) (z : Int32) (hpq : p ≠ q) : repV V p q z q 12 = (V q 12 ||| ((1 : Int32) <<< (V p 0 &&& 31))) ∧ repV V p q z q 10 = V q 10 + 1 := by
  have e0 : reportV0 V p q z p 0 = V p 0 := by
    unfold reportV0
    rw [xs_get _ _ (by omega), xs_get _ _ (by omega)]
    split
    · rfl
    · exact xs_get _ _ (by omega)
  have e : ∀ j, reportV0 V p q z q j = V q j := fun j => by
    unfold reportV0
    rw [xs_p _ _ _ _ (Ne.symm hpq), xs_p _ _ _ _ (Ne.symm hpq)]
    split
    · rfl
    · exact xs_p _ _ _ _ (Ne.symm hpq)
  have e2 : ∀ j, j ≠ 11 → repV V p q z q j = countV0 (reportV0 V p q z) q p q j := fun j hj => by
    unfold repV countV
    split
    · exact xs_get _ _ (by omega)
    · rfl
  rw [e2 12 (by decide), e2 10 (by decide)]
  unfold countV0
  rw [xs_get _ _ (by omega), xs_self, xs_self, xs_get _ _ (by omega), e, e, e0]
  exact ⟨rfl, rfl⟩
theorem gJ_rep {V : XV} {n m d c : Nat} (hd : d < 10) (hc : c < m) (z : Int32) (h : gJ V n m) (h6 : V (9 + d) 6 = 2) (h7 : V (9 + d) 7 = nI c) : gJ (repV V (9 + d) (19 + c) z) n m := by
  have hm := h.2.2.2.1
  obtain ⟨d1, d2, d3, d4, d5⟩ := gJ_d h hd
  obtain ⟨c1, c2, c3, c4, r, c5, c6⟩ := gJ_c h (show c < 6 by omega)
  have hpq : 9 + d ≠ 19 + c := by omega
  obtain ⟨p2, p6, p7⟩ := rep_p V (9 + d) (19 + c) z hpq
  obtain ⟨q12, q10⟩ := rep_q V (9 + d) (19 + c) z hpq
  have o : ∀ r j, ¬ (r = 9 + d ∧ (j = 2 ∨ j = 6 ∨ j = 7)) → ¬ (r = 19 + c ∧ (j = 10 ∨ j = 11 ∨ j = 12)) → repV V (9 + d) (19 + c) z r j = V r j := fun r j h1 h2 => rep_o V _ _ z hpq h1 h2
  have hbit : hasB (V (19 + c) 12) (nI d) = false ∧ V (9 + d) 8 = 0 := by
    rcases d5 with w | ⟨c9, _, w, _, w3, w4⟩
    · rw [h6] at w; exact absurd w.1 (by decide)
    · have : c9 = c := nI_inj (by omega) (by omega) (w.symm.trans h7)
      subst this
      refine ⟨w3, ?_⟩
      rcases w4 with w4 | w4
      · rw [h6] at w4; exact absurd w4.1 (by decide)
      · exact w4.2
  obtain ⟨a1, a2, a3, a4, a5, a6, a7⟩ := h
  rw [d1] at q12
  refine ⟨by rw [o 0 4 (by omega) (by omega)]; exact a1, a2, by rw [o 0 5 (by omega) (by omega)]; exact a3, a4, gW_cg (fun p k hk hp => o _ _ (by omega) (by omega)) a5, fun e he => ?_, fun e he => ?_⟩
  · by_cases q : e = d
    · subst q
      unfold gD
      rw [o _ 0 (by omega) (by omega), p2, o _ 3 (by omega) (by omega), p6, p7, o _ 8 (by omega) (by omega)]
      refine ⟨d1, ?_, d3, fun _ => rfl, Or.inl ⟨rfl, rfl, hbit.2⟩⟩
      split
      · exact d2
      · exact c2
    · refine gD_cg (fun k _ => o _ _ (by omega) (by omega)) (fun g hg => ⟨o _ _ (by omega) (by omega), fun w => ?_⟩) (a6 e he)
      by_cases q2 : g = c
      · subst q2
        rw [q12, hasB_or _ (by omega) (by omega), w, decide_eq_false q]; rfl
      · rw [o _ 12 (by omega) (by omega)]; exact w
  · by_cases q : e = c
    · subst q
      unfold gC
      rw [o _ 0 (by omega) (by omega), o _ 1 (by omega) (by omega), o _ 8 (by omega) (by omega), o _ 9 (by omega) (by omega), q10, q12]
      refine ⟨c1, c2, c3, c4, r + 1, ?_, by rw [c6, nI_s]⟩
      rw [cnt_or _ (by omega) hbit.1 10 (by omega), if_pos hd]; omega
    · exact gC_cg (fun k _ => o _ _ (by omega) (by omega)) (a7 e he)
theorem gJ_report {V : XV} {n m d c : Nat} (hd : d < 10) (hc : c < m) (z : Int32) (h : gJ V n m) (h6 : V (9 + d) 6 = 2) (h7 : V (9 + d) 7 = nI c) : gJ (reportV V (9 + d) (19 + c) z) n m :=
  gJ_judge (by have := h.2.2.2.1; omega) (gJ_rep hd hc z h h6 h7)
/-- a device on trial has a campaign; its report is not refused -/
theorem trial_T {V : XV} {n m d : Nat} (h : gJ V n m) (hd : d < n) (h6 : V (9 + d) 6 = 2) : ∃ c, c < m ∧ V (9 + d) 7 = nI c ∧ (V (9 + d) 7).toNatClampNeg = c ∧ V (9 + d) 2 ≠ V (19 + c) 1 ∧ hasB (V (19 + c) 12) (nI d) = false ∧ reportX V (nI d) = none := by
  have hn := h.2.1
  have hm := h.2.2.2.1
  obtain ⟨d1, d2, d3, d4, d5⟩ := gJ_d h (show d < 10 by omega)
  rcases d5 with w | ⟨c, hc, w, w2, w3, w4⟩
  · rw [h6] at w; exact absurd w.1 (by decide)
  · refine ⟨c, hc, w, cl_eq w (by omega), w2, w3, ?_⟩
    unfold reportX seqx
    rw [nDx_at h hd, nI_clamp (by omega), if_pos h6, w]
    exact nCx_at h hc
/-! the hours -/
theorem gW_pos {V : XV} (h : gW V) {f t : Int32} (hf : vp_in f 8) (ht : vp_in t 8) (hne : f ≠ t) (hl : lbI V f t ≠ -1) : 0 < (lbI V f t).toInt := by
  obtain ⟨hE, hI, hT⟩ := h
  have hfi := nI_of_in hf (by omega)
  have hti := nI_of_in ht (by omega)
  have hne2 : f.toNatClampNeg ≠ t.toNatClampNeg := fun e => hne (by rw [hfi, hti, e])
  unfold lbI at hl ⊢
  rw [if_neg hne] at hl ⊢
  obtain ⟨h1, h2, h3, h4⟩ := lb_min hE hI hT (vp_at hf) (vp_at ht)
  have e := orNone_T (minI (V (33 + f.toNatClampNeg) t.toNatClampNeg) (V 8 t.toNatClampNeg))
  by_cases q : (minI (V (33 + f.toNatClampNeg) t.toNatClampNeg) (V 8 t.toNatClampNeg)).toInt < 1000000
  · rw [if_pos q] at e
    rw [e]
    rcases h4 with h4 | h4
    · omega
    · rcases h4 with ⟨k, hk⟩ | ⟨v, c', hv, ⟨k, hk⟩, e2⟩
      · rcases aR_cases hE k _ _ _ hk with ⟨w, _⟩ | ⟨k2, w⟩
        · exact absurd w hne2
        · have := wM_pos hE k2 _ _ _ w; omega
      · have := aR_nonneg hE ⟨k, hk⟩
        have := (hI v).resolve_left hv
        omega
  · rw [if_neg q] at e
    exact absurd ((ti_ne1 _).mpr e) hl
theorem may_T {V : XV} {p q : Nat} (h : mayTakeB V p q = true) : V p 6 = 0 ∧ V q 8 ≠ 0 ∧ V p 2 ≠ V q 1 ∧ hasB (V q 12) (V p 0) = false ∧ lbI V (V p 2) (V q 1) ≠ -1 := by
  unfold mayTakeB isForB at h
  simp only [Bool.and_eq_true, Bool.not_eq_true', decide_eq_false_iff_not, decide_eq_true_eq] at h
  obtain ⟨h1, ⟨h2, _, _, h3, _, h4⟩, _, h5⟩ := h
  exact ⟨h1, h2, h3, h4, h5⟩
theorem gJ_take {V : XV} {n m d c : Nat} (hd : d < n) (hc : c < m) (h : gJ V n m) (hmt : mayTakeB V (9 + d) (19 + c) = true) : gJ (takeV V (9 + d) (19 + c) (lbI V (V (9 + d) 2) (V (19 + c) 1))) n m := by
  have hn := h.2.1
  have hm := h.2.2.2.1
  obtain ⟨m1, m2, m3, m4, m5⟩ := may_T hmt
  obtain ⟨d1, d2, d3, d4, d5⟩ := gJ_d h (show d < 10 by omega)
  obtain ⟨c1, c2, c3, c4, c5⟩ := gJ_c h (show c < 6 by omega)
  have hz := gW_pos h.2.2.2.2.1 d2 c2 m3 m5
  generalize lbI V (V (9 + d) 2) (V (19 + c) 1) = z at hz ⊢
  have o : ∀ p j, ¬ (p = 9 + d ∧ (j = 6 ∨ j = 7 ∨ j = 8)) → takeV V (9 + d) (19 + c) z p j = V p j := fun p j hp => by unfold takeV; rw [xs_get _ _ (by omega), xs_get _ _ (by omega), xs_get _ _ (by omega)]
  have e6 : takeV V (9 + d) (19 + c) z (9 + d) 6 = 1 := by unfold takeV; rw [xs_get _ _ (by omega), xs_get _ _ (by omega), xs_self]
  have e7 : takeV V (9 + d) (19 + c) z (9 + d) 7 = nI c := by unfold takeV; rw [xs_get _ _ (by omega), xs_self, xs_p _ _ _ _ (by omega), c1]
  have e8 : takeV V (9 + d) (19 + c) z (9 + d) 8 = z := by unfold takeV; exact xs_self _ _ _ _
  refine gJ_dev (d := d) h (fun p j hp => o p j (by omega)) (by omega) ?_
  unfold gD
  rw [o _ 0 (by omega), o _ 2 (by omega), o _ 3 (by omega), e6, e7, e8]
  refine ⟨d1, d2, d3, fun w => by omega, Or.inr ⟨c, hc, rfl, ?_, ?_, Or.inl ⟨rfl, hz⟩⟩⟩
  · rw [o _ 1 (by omega)]; exact m3
  · rw [o _ 12 (by omega), ← d1]; exact m4
theorem gJ_tl {V : XV} {n m d : Nat} (hd : d < n) (h : gJ V n m) : ∀ k q, q + k ≤ m → gJ (tlF V (9 + d) k q) n m := by
  intro k
  induction k with
  | zero => intro q _; exact h
  | succ k ih =>
    intro q hq
    show gJ (if mayTakeB V (9 + d) (19 + q) = true then _ else tlF V (9 + d) k (q + 1)) n m
    split
    · rename_i w; exact gJ_take hd (by omega) h w
    · exact ih (q + 1) (by omega)
theorem can_T {V : XV} {p : Nat} {x : Int32} (h : canLoadB V p x = true) : V p 6 = 1 ∧ ¬ V p 3 < 20 := by
  unfold canLoadB at h
  simp only [Bool.and_eq_true, decide_eq_true_eq, Bool.not_eq_true', decide_eq_false_iff_not] at h
  exact ⟨h.1, h.2.2⟩
theorem gJ_load {V : XV} {n m d : Nat} {x : Int32} (hd : d < n) (h : gJ V n m) (hc : canLoadB V (9 + d) x = true) : gJ (loadV V (9 + d)) n m := by
  have hn := h.2.1
  obtain ⟨k6, k3⟩ := can_T hc
  obtain ⟨d1, d2, ⟨b, hb, d3⟩, d4, d5⟩ := gJ_d h (show d < 10 by omega)
  have hb20 : 20 ≤ b := by
    rw [d3, ti_lt, nI_ti (by omega)] at k3
    have e2 : (20 : Int32).toInt = 20 := by decide
    omega
  have d5 : ∃ c, c < m ∧ V (9 + d) 7 = nI c ∧ V (9 + d) 2 ≠ V (19 + c) 1 ∧ hasB (V (19 + c) 12) (nI d) = false ∧ 0 < (V (9 + d) 8).toInt := by
    rcases d5 with w | ⟨c, hc, w1, w2, w3, w4 | w4⟩
    · rw [k6] at w; exact absurd w.1 (by decide)
    · exact ⟨c, hc, w1, w2, w3, w4.2⟩
    · rw [k6] at w4; exact absurd w4.1 (by decide)
  obtain ⟨c, hcm, w1, w2, w3, w4⟩ := d5
  generalize hz9 : (if 0 < V (9 + d) 8 - 100 then V (9 + d) 8 - 100 else 0) = z
  have hz : 0 ≤ z.toInt := by
    rw [← hz9]
    split
    · rename_i q; rw [ti_lt, ti_0] at q; omega
    · rw [ti_0]; omega
  have L0 : loadV0 V (9 + d) = xs (xs V (9 + d) 8 z) (9 + d) 3 (nI (b - 1)) := by
    unfold loadV0
    rw [hz9, xs_get _ _ (by omega), d3]
    have e : nI b - 1 = nI (b - 1) := by
      have := nI_pred (b - 1)
      rw [show b - 1 + 1 = b by omega] at this
      exact this
    rw [e]
  have o : ∀ p j, ¬ (p = 9 + d ∧ (j = 3 ∨ j = 8)) → loadV0 V (9 + d) p j = V p j := fun p j hp => by rw [L0, xs_get _ _ (by omega), xs_get _ _ (by omega)]
  have e3 : loadV0 V (9 + d) (9 + d) 3 = nI (b - 1) := by rw [L0]; exact xs_self _ _ _ _
  have e8 : loadV0 V (9 + d) (9 + d) 8 = z := by rw [L0, xs_get _ _ (by omega), xs_self]
  unfold loadV
  rw [e8]
  split
  · rename_i hz0
    have o2 : ∀ p j, ¬ (p = 9 + d ∧ (j = 3 ∨ j = 8 ∨ j = 6)) → xs (loadV0 V (9 + d)) (9 + d) 6 2 p j = V p j := fun p j hp => by rw [xs_get _ _ (by omega)]; exact o p j (by omega)
    refine gJ_dev (d := d) h (fun p j hp => o2 p j (by omega)) (by omega) ?_
    unfold gD
    rw [o2 _ 0 (by omega), o2 _ 2 (by omega), o2 _ 7 (by omega), xs_self, xs_get _ _ (by omega), xs_get _ _ (by omega), e3, e8]
    exact ⟨d1, d2, ⟨b - 1, by omega, rfl⟩, fun w => by omega, Or.inr ⟨c, hcm, w1, by rw [o2 _ 1 (by omega)]; exact w2, by rw [o2 _ 12 (by omega)]; exact w3, Or.inr ⟨rfl, hz0⟩⟩⟩
  · rename_i hz0
    refine gJ_dev (d := d) h (fun p j hp => o p j (by omega)) (by omega) ?_
    unfold gD
    rw [o _ 0 (by omega), o _ 2 (by omega), o _ 7 (by omega), o _ 6 (by omega), e3, e8]
    refine ⟨d1, d2, ⟨b - 1, by omega, rfl⟩, fun w => by omega, Or.inr ⟨c, hcm, w1, by rw [o _ 1 (by omega)]; exact w2, by rw [o _ 12 (by omega)]; exact w3, Or.inl ⟨k6, ?_⟩⟩⟩
    have : z.toInt ≠ 0 := fun q => hz0 (by rw [ti_eq, ti_0]; exact q)
    omega
theorem gJ_po {V : XV} {n m : Nat} (h : gJ V n m) : ∀ d, d ≤ n → gJ (poV V m d) n m := by
  intro d
  induction d with
  | zero => intro _; exact h
  | succ d ih =>
    intro hd
    have h1 := gJ_tl (d := d) (by omega) (ih (by omega)) m 0 (by omega)
    show gJ (poStep (poV V m d) m d) n m
    unfold poStep
    split
    · rename_i w; exact gJ_load (by omega) h1 w
    · exact h1
theorem gJ_hour {V : XV} {n m : Nat} (h : gJ V n m) : gJ (hourV V n m) n m := by
  have h1 := gJ_po h n (Nat.le_refl n)
  unfold hourV
  have o : ∀ z p j, ¬ (p = 0 ∧ j = 6) → xs (poV V m n) 0 6 z p j = poV V m n p j := fun z p j hp => xs_get _ _ hp
  exact gJ_cg ⟨o _ _ _ (by omega), o _ _ _ (by omega)⟩ (fun p k _ hp => o _ _ _ (by omega)) (fun d _ k _ => o _ _ _ (by omega)) (fun c _ k _ => o _ _ _ (by omega)) h1
theorem gJ_pa {V : XV} {n m : Nat} (h : gJ V n m) : ∀ i, gJ (paV V n m i) n m := by
  intro i
  induction i with
  | zero => exact h
  | succ i ih => exact gJ_hour ih
/-! who may take a campaign, as a set -/
theorem bit_z {m : Nat} (hm : m < 32) : hasB 0 (nI m) = false := by
  rw [hasB_bit _ hm]
  show (0#32).getLsbD m = false
  simp
theorem el_bit (V : XV) (q : Nat) {m : Nat} (hm : m < 32) : ∀ n, n ≤ 32 → hasB (elI V q n) (nI m) = (decide (m < n) && mayTakeB V (9 + m) q) := by
  intro n
  induction n with
  | zero => intro _; show hasB 0 (nI m) = _; rw [bit_z hm]; simp
  | succ n ih =>
    intro hn
    show hasB (if mayTakeB V (9 + n) q = true then elI V q n ||| (1 <<< (nI n &&& 31)) else elI V q n) (nI m) = _
    have h1 := ih (by omega)
    split
    · rename_i w
      rw [hasB_or _ (by omega) hm, h1]
      by_cases e : m = n
      · subst e; rw [w]; simp
      · rw [decide_eq_false e, Bool.or_false]
        congr 1
        exact decide_eq_decide.mpr (by omega)
    · rename_i w
      rw [h1]
      by_cases e : m = n
      · subst e
        rw [Bool.not_eq_true] at w
        rw [w]; simp
      · congr 1
        exact decide_eq_decide.mpr (by omega)
theorem bit_ext {x y : Int32} (h : ∀ m, m < 32 → hasB x (nI m) = hasB y (nI m)) : x = y := by
  rw [← Int32.toBitVec_inj]
  apply BitVec.eq_of_getLsbD_eq
  intro i hi
  rw [← hasB_bit x hi, ← hasB_bit y hi]
  exact h i hi
theorem hasB_and (x y : Int32) {m : Nat} (hm : m < 32) : hasB (x &&& y) (nI m) = (hasB x (nI m) && hasB y (nI m)) := by
  rw [hasB_bit _ hm, hasB_bit _ hm, hasB_bit _ hm, Int32.toBitVec_and, BitVec.getLsbD_and]
/-- the devices that are not idle, as a set -/
def busyI (V : XV) : Nat → Int32
  | 0 => 0
  | d + 1 => busyI V d ||| (if V (9 + d) 6 = 0 then (0 : Int32) else ((1 : Int32) <<< (nI d &&& 31)))
theorem busy_bit (V : XV) {m : Nat} (hm : m < 32) : ∀ n, n ≤ 32 → hasB (busyI V n) (nI m) = (decide (m < n) && !decide (V (9 + m) 6 = 0)) := by
  intro n
  induction n with
  | zero => intro _; show hasB 0 (nI m) = _; rw [bit_z hm]; simp
  | succ n ih =>
    intro hn
    show hasB (busyI V n ||| (if V (9 + n) 6 = 0 then (0 : Int32) else ((1 : Int32) <<< (nI n &&& 31)))) (nI m) = _
    have h1 := ih (by omega)
    split
    · rename_i w
      rw [Int32.or_zero, h1]
      by_cases e : m = n
      · subst e
        rw [decide_eq_true w]; simp
      · congr 1
        exact decide_eq_decide.mpr (by omega)
    · rename_i w
      rw [hasB_or _ (by omega) hm, h1]
      by_cases e : m = n
      · subst e
        rw [decide_eq_false w]; simp
      · rw [decide_eq_false e, Bool.or_false]
        congr 1
        exact decide_eq_decide.mpr (by omega)
theorem el_busy (V : XV) (q : Nat) {n : Nat} (hn : n ≤ 32) : elI V q n &&& busyI V n = 0 := by
  refine bit_ext fun m hm => ?_
  rw [hasB_and _ _ hm, el_bit V q hm n hn, busy_bit V hm n hn, bit_z hm]
  cases h : mayTakeB V (9 + m) q with
  | false => simp
  | true => rw [decide_eq_true (may_T h).1]; simp
theorem el_off (V : XV) (q : Nat) (h : V q 8 = 0) : ∀ n, elI V q n = 0 := by
  intro n
  induction n with
  | zero => rfl
  | succ n ih =>
    show (if mayTakeB V (9 + n) q = true then _ else elI V q n) = 0
    rw [if_neg (fun w => (may_T w).2.1 h)]; exact ih
theorem el_nat (V : XV) (q : Nat) : ∀ n, n ≤ 10 → (elI V q n).toBitVec.toNat < 2 ^ n := by
  intro n
  induction n with
  | zero => intro _; show (0#32).toNat < 1; decide
  | succ n ih =>
    intro hn
    have h1 := ih (by omega)
    show (if mayTakeB V (9 + n) q = true then _ else elI V q n).toBitVec.toNat < 2 ^ (n + 1)
    split
    · rw [Int32.toBitVec_or, BitVec.toNat_or, bb_pow n (by omega), BitVec.toNat_twoPow]
      refine Nat.or_lt_two_pow (Nat.lt_trans h1 (Nat.pow_lt_pow_right (by omega) (by omega))) ?_
      exact Nat.lt_of_le_of_lt (Nat.mod_le _ _) (Nat.pow_lt_pow_right (by omega) (by omega))
    · exact Nat.lt_trans h1 (Nat.pow_lt_pow_right (by omega) (by omega))
theorem pow_le10 : ∀ n, n ≤ 10 → 2 ^ n ≤ 1024 := by
  intro n hn
  exact Nat.le_trans (Nat.pow_le_pow_right (by omega) hn) (by decide)
theorem el_rng (V : XV) (q : Nat) {n : Nat} (hn : n ≤ 10) : 0 ≤ (elI V q n).toInt ∧ (elI V q n).toInt < 2 ^ n := by
  have h1 := el_nat V q n hn
  have h2 := pow_le10 n hn
  have e : (elI V q n).toInt = ((elI V q n).toBitVec.toNat : Int) := by
    show (elI V q n).toBitVec.toInt = _
    exact BitVec.toInt_eq_toNat_of_lt (by omega)
  rw [e]
  refine ⟨by omega, ?_⟩
  have h3 : ((2 ^ n : Nat) : Int) = 2 ^ n := by simp
  rw [← h3]
  omega
theorem shl_ti : ∀ n, n ≤ 10 → ((1 : Int32) <<< (nI n &&& 31)).toInt = 2 ^ n := by decide +kernel
/-- what a well report leaves, as the law asks for it -/
theorem rep_well {V : XV} {n m d c : Nat} (h : gJ V n m) (hd : d < n) (hc : c < m) (h6 : V (9 + d) 6 = 2) (h7 : V (9 + d) 7 = nI c) (h2 : V (9 + d) 2 ≠ V (19 + c) 1) :
    let U := reportV V (9 + d) (19 + c) 1
    U (9 + d) 2 = V (19 + c) 1 ∧ U (9 + d) 6 = 0 ∧ U (9 + d) 2 ≠ V (9 + d) 2 ∧ hasB (elI U (19 + c) n) (nI d) = false ∧ ((U (19 + c) 10 = V (19 + c) 10 + 1 ∧ U (19 + c) 9 = V (19 + c) 9) ∨ (U (19 + c) 10 = 0 ∧ U (19 + c) 9 = V (19 + c) 9 + 1)) := by
  have hn := h.2.1
  have hm := h.2.2.2.1
  have hpq : 9 + d ≠ 19 + c := by omega
  obtain ⟨p2, p6, p7⟩ := rep_p V (9 + d) (19 + c) 1 hpq
  obtain ⟨q12, q10⟩ := rep_q V (9 + d) (19 + c) 1 hpq
  have d1 := (gJ_d h (show d < 10 by omega)).1
  rw [if_neg (by decide)] at p2
  have o : ∀ {p j : Nat}, ¬ (p = 19 + c ∧ (j = 8 ∨ j = 9 ∨ j = 10 ∨ j = 11)) → reportV V (9 + d) (19 + c) 1 p j = repV V (9 + d) (19 + c) 1 p j := fun {p j} hp => judge_o _ _ hp
  have e2 : reportV V (9 + d) (19 + c) 1 (9 + d) 2 = V (19 + c) 1 := (o (by omega)).trans p2
  have e12 : reportV V (9 + d) (19 + c) 1 (19 + c) 12 = (V (19 + c) 12 ||| ((1 : Int32) <<< (nI d &&& 31))) := by rw [o (by omega), q12, d1]
  have e0 : reportV V (9 + d) (19 + c) 1 (9 + d) 0 = nI d := by rw [o (by omega), rep_o V _ _ 1 hpq (by omega) (by omega), d1]
  refine ⟨e2, (o (by omega)).trans p6, fun w => h2 (w.symm.trans e2), ?_, ?_⟩
  · rw [el_bit _ _ (by omega) n (by omega)]
    cases hmt : mayTakeB (reportV V (9 + d) (19 + c) 1) (9 + d) (19 + c) with
    | false => simp
    | true =>
      have := (may_T hmt).2.2.2.1
      rw [e12, e0, hasB_or _ (by omega) (by omega), decide_eq_true rfl, Bool.or_true] at this
      cases this
  · rcases judge_r (repV V (9 + d) (19 + c) 1) (19 + c) with ⟨a, b⟩ | ⟨a, b⟩
    · refine Or.inl ⟨a.trans q10, b.trans ?_⟩
      exact rep_o V _ _ 1 hpq (by omega) (by omega)
    · refine Or.inr ⟨a, b.trans ?_⟩
      rw [rep_o V _ _ 1 hpq (by omega) (by omega)]
/-! the law of triangles -/
theorem lb_spec {V : XV} (h : gW V) {f t : Int32} (hf : vp_in f 8) (ht : vp_in t 8) : (lbI V f t).toInt = -1 ∨ (0 ≤ (lbI V f t).toInt ∧ (lbI V f t).toInt < 1000000 ∧ cost (cE V) (cIm V) f.toNatClampNeg t.toNatClampNeg (lbI V f t).toInt) := by
  obtain ⟨hE, hI, hT⟩ := h
  unfold lbI
  by_cases e : f = t
  · rw [if_pos e, ti_0]
    right
    subst e
    exact ⟨by omega, by omega, Or.inl (aR_0 _ _)⟩
  · rw [if_neg e, orNone_T]
    obtain ⟨h1, h2, h3, h4⟩ := lb_min hE hI hT (vp_at hf) (vp_at ht)
    split
    · rename_i q
      rcases h4 with h4 | h4
      · omega
      · exact Or.inr ⟨h1, q, h4⟩
    · exact Or.inl rfl
theorem lb_le {V : XV} (h : gW V) {f t : Int32} (hf : vp_in f 8) (ht : vp_in t 8) {c : Int} (hc : cost (cE V) (cIm V) f.toNatClampNeg t.toNatClampNeg c) (h0 : 0 ≤ c) : 0 ≤ (lbI V f t).toInt ∧ (lbI V f t).toInt ≤ c := by
  obtain ⟨hE, hI, hT⟩ := h
  unfold lbI
  by_cases e : f = t
  · rw [if_pos e, ti_0]; exact ⟨by omega, h0⟩
  · rw [if_neg e, orNone_T]
    obtain ⟨h1, h2, h3, h4⟩ := lb_min hE hI hT (vp_at hf) (vp_at ht)
    obtain ⟨c', k1, k2⟩ := cost_short hE hI hc
    have := h3 c' k2
    have := h3 c hc
    rw [if_pos (by omega)]
    exact ⟨h1, this⟩
theorem cost_app {E : Nat → Nat → Int} {I : Nat → Int} {f o t : Nat} {c1 c2 : Int} (h1 : cost E I f o c1) (h2 : cost E I o t c2) (hc : 0 ≤ c1) : ∃ c, c ≤ c1 + c2 ∧ cost E I f t c ∧ (0 ≤ c2 → 0 ≤ c) := by
  rcases h2 with h2 | ⟨v, c', hv, hr, e⟩
  · rcases h1 with h1 | ⟨v, c', hv, hr, e⟩
    · exact ⟨c1 + c2, Int.le_refl _, Or.inl (aR_app h1 h2), fun _ => by omega⟩
    · exact ⟨c1 + c2, Int.le_refl _, Or.inr ⟨v, c' + c2, hv, aR_app hr h2, by omega⟩, fun _ => by omega⟩
  · exact ⟨c2, by omega, Or.inr ⟨v, c', hv, hr, e⟩, fun q => q⟩
theorem tri_T {V : XV} (h : gW V) {f o t : Int32} (hf : vp_in f 8) (ho : vp_in o 8) (ht : vp_in t 8) (h1 : 0 ≤ (lbI V f o).toInt) (h2 : 0 ≤ (lbI V o t).toInt) : 0 ≤ (lbI V f t).toInt ∧ (lbI V f t).toInt ≤ (lbI V f o + lbI V o t).toInt := by
  rcases lb_spec h hf ho with q | ⟨_, a1, a2⟩
  · omega
  · rcases lb_spec h ho ht with q | ⟨_, b1, b2⟩
    · omega
    · obtain ⟨c, k1, k2, k3⟩ := cost_app a2 b2 h1
      have := lb_le h hf ht k2 (k3 h2)
      rw [ti_add (by omega) (by omega) (by omega) (by omega)]
      exact ⟨this.1, by omega⟩
/-! ===== END inv2 ===== -/
