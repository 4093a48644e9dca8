/-! ===== BEGIN rel4: eligible and the hours ===== -/
theorem jJ_safeV {V M : XV} {n m k : Nat} (h : jJ V M n m k) : safeV V := by
  constructor
  · intro p hp
    obtain ⟨_, _, _, q, _⟩ := h.2.2.1 (p - 9) (by omega)
    rw [show 9 + (p - 9) = p by omega] at q; exact q
  · intro p hp
    obtain ⟨_, _, q, _⟩ := h.2.2.2 (p - 19) (by omega)
    rw [show 19 + (p - 19) = p by omega] at q; exact q
theorem jJ_safeM {V M : XV} {n m k : Nat} (h : jJ V M n m k) : safeM M := by
  constructor
  · intro c hc
    obtain ⟨_, q1, q2, _⟩ := h.2.2.2 c hc
    rw [← q1]; exact q2
  · intro c hc
    obtain ⟨_, _, _, _, _, q5, q6, _⟩ := h.2.2.2 c hc
    rw [← q5]; exact q6
theorem jJ_lb {V M : XV} {n m k : Nat} (h : jJ V M n m k) {f t : Int32} (hf : vp_in f 8) (ht : vp_in t 8) : szI M f t = lbI V f t := by
  obtain ⟨a1, a2, a3, a4, a5, a6⟩ := h.2.1
  refine sz_lb a4 a5 a6 ?_ ?_ hf ht
  · funext i j
    unfold mEd cE
    by_cases q : i < 8 ∧ j < 8
    · rw [if_pos q, if_pos q, a3 i j q.1 q.2]
    · rw [if_neg q, if_neg q]
  · funext v
    unfold mIm cIm
    by_cases q : v < 8
    · rw [if_pos q, if_pos q, a2 v q]
    · rw [if_neg q, if_neg q]
theorem lb_nn {V : XV} (hE : gE (cE V)) (hI : gI (cIm V)) (h : tOK V) {f t : Int32} (hf : vp_in f 8) (ht : vp_in t 8) (hne : lbI V f t ≠ -1) : 0 ≤ (lbI V f t).toInt := by
  unfold lbI at hne ⊢
  by_cases e : f = t
  · rw [if_pos e, ti_0]; omega
  · rw [if_neg e] at hne ⊢
    have h1 := lb_min hE hI h (vp_at hf) (vp_at ht)
    rw [orNone_T]
    by_cases q : (minI (V (33 + f.toNatClampNeg) t.toNatClampNeg) (V 8 t.toNatClampNeg)).toInt < 1000000
    · rw [if_pos q]; exact h1.1
    · have := orNone_T (minI (V (33 + f.toNatClampNeg) t.toNatClampNeg) (V 8 t.toNatClampNeg))
      rw [if_neg q] at this
      exact absurd ((ti_ne1 _).mpr this) hne
theorem bit01 (x : Int32) (d : Nat) : decide ((x >>> (nI d &&& 31)) &&& 1 = 0) = !hasB x (nI d) := by
  unfold hasB
  generalize x >>> (nI d &&& 31) = y
  by_cases h : y &&& 1 = 1
  · rw [h]; decide
  · have h0 : y &&& 1 = 0 := by
      rw [← Int32.toBitVec_inj, Int32.toBitVec_and] at h ⊢
      apply BitVec.eq_of_getLsbD_eq
      intro i hi
      cases q : y.toBitVec.getLsbD 0 with
      | true => exact absurd ((bb_one _).mpr q) h
      | false =>
        rw [BitVec.getLsbD_and]
        cases i with
        | zero => rw [q]; rfl
        | succ i =>
          show (_ && (1#32).getLsbD (i + 1)) = (0#32).getLsbD (i + 1)
          simp [BitVec.getLsbD_one]
    rw [h0]; decide
theorem share_T {V M : XV} {n m k c : Nat} (hc : c < m) (h : jJ V M n m k) : shareI V (19 + c) = M 18 (3 * c + (M 17 c).toNatClampNeg) := by
  have hm := h.1.2.2.2.2.2.1
  obtain ⟨b0, b1, b2, b3, b4, b5, ⟨z, hz, ez⟩, b7, b8, b9, b10, b11, b12⟩ := h.2.2.2 c (by omega)
  obtain ⟨c1, c2, c3, c4, c5, c6⟩ := b11 hc
  have e1 : (1 : Int32) = nI 1 := rfl
  have e0 : (0 : Int32) = nI 0 := rfl
  unfold shareI
  rw [← b5, ez, nI_clamp (by omega)]
  obtain rfl | rfl | rfl : z = 0 ∨ z = 1 ∨ z = 2 := by omega
  · rw [if_pos (by decide)]; exact c1
  · rw [if_neg (by decide), if_pos (by decide)]; exact c2
  · rw [if_neg (by decide), if_neg (by decide)]; exact c3.symm
theorem bool_ac (a b c d e f g i j : Bool) : (a && ((b && (c && (d && (e && (f && g))))) && (i && j))) = ((a && (b && ((c && d) && ((i && e) && (f && g))))) && j) := by
  cases a <;> cases b <;> cases c <;> cases d <;> cases e <;> cases f <;> cases g <;> cases i <;> cases j <;> rfl
theorem mayT_eq {V M : XV} {n m k d c : Nat} (hd : d < 10) (hc : c < m) (h : jJ V M n m k) : mayTakeB V (9 + d) (19 + c) = mayTakeM M d c := by
  have hm := h.1.2.2.2.2.2.1
  have hs := share_T hc h
  obtain ⟨a0, a1, a2, a3, a4, a5, a6, a7, a8, a9⟩ := h.2.2.1 d hd
  obtain ⟨b0, b1, b2, b3, b4, b5, b6, b7, b8, b9, b10, b11, b12⟩ := h.2.2.2 c (by omega)
  obtain ⟨c1, c2, c3, c4, c5, c6⟩ := b11 hc
  have hl := jJ_lb h a3 b2
  have hk : V 1 (V (19 + c) 1).toNatClampNeg = M 1 (V (19 + c) 1).toNatClampNeg := h.2.1.1 _ (vp_at b2)
  unfold mayTakeB isForB mayTakeM preM forM canM drwM drawI drM
  rw [bit01, hk, hs, a0, b0, a1, a2, a4, b1, b3, b4, b9, c6]
  rw [a2, b1] at hl
  rw [hl, bool_ac]
theorem mtV_j {V M : XV} {n m k : Nat} (d c : Nat) (h : jJ V M n m k) : jJ V (mtV M d c) n m k := by
  unfold mtV
  split
  · exact jJ_sz _ h
  · exact h
theorem mtV_fr (M : XV) (d c : Nat) {p : Nat} (hp : p ≠ 4) (j : Nat) : mtV M d c p j = M p j := by
  unfold mtV
  split
  · exact szV_fr _ _ hp _
  · rfl
theorem el_eq {V M : XV} {n m k c : Nat} (hc : c < m) (h : jJ V M n m k) : ∀ d, d ≤ 10 → jJ V (meV M c d) n m k ∧ elI V (19 + c) d = meI M c d := by
  intro d
  induction d with
  | zero => intro _; exact ⟨h, rfl⟩
  | succ d ih =>
    intro hd
    obtain ⟨h1, h2⟩ := ih (by omega)
    refine ⟨mtV_j d c h1, ?_⟩
    show (if mayTakeB V (9 + d) (19 + c) = true then elI V (19 + c) d ||| (1 <<< (nI d &&& 31)) else elI V (19 + c) d) = meI M c d ||| (if mayTakeM (meV M c d) d c = true then 1 <<< (nI d &&& 31) else 0)
    rw [mayT_eq (by omega) hc h1, h2]
    by_cases q : mayTakeM (meV M c d) d c = true
    · rw [if_pos q, if_pos q]
    · rw [if_neg q, if_neg q, Int32.or_zero]
theorem tlF_none (V : XV) (p : Nat) : ∀ k q, (∀ i, q ≤ i → i < q + k → ¬ mayTakeB V p (19 + i) = true) → tlF V p k q = V := by
  intro k
  induction k with
  | zero => intro q _; rfl
  | succ k ih =>
    intro q h
    show (if mayTakeB V p (19 + q) = true then _ else tlF V p k (q + 1)) = V
    rw [if_neg (h q (by omega) (by omega))]
    exact ih (q + 1) fun i hi hk => h i (by omega) (by omega)
theorem tlF_at (V : XV) (p c : Nat) (hc : mayTakeB V p (19 + c) = true) : ∀ k q, q ≤ c → c < q + k → (∀ i, q ≤ i → i < c → ¬ mayTakeB V p (19 + i) = true) → tlF V p k q = takeV V p (19 + c) (lbI V (V p 2) (V (19 + c) 1)) := by
  intro k
  induction k with
  | zero => intro q h1 h2; omega
  | succ k ih =>
    intro q h1 h2 h3
    show (if mayTakeB V p (19 + q) = true then takeV V p (19 + q) (lbI V (V p 2) (V (19 + q) 1)) else tlF V p k (q + 1)) = _
    by_cases e : q = c
    · subst e; rw [if_pos hc]
    · rw [if_neg (h3 q (by omega) (by omega))]
      exact ih (q + 1) (by omega) (by omega) fun i hi hk => h3 i (by omega) hk
theorem take_j {V M : XV} {n m k d c : Nat} (hd : d < n) (hc : c < m) (h : jJ V M n m k) (hmt : mayTakeB V (9 + d) (19 + c) = true) : jJ (takeV V (9 + d) (19 + c) (lbI V (V (9 + d) 2) (V (19 + c) 1))) (tk2 M d c) n m k := by
  have hn := h.1.2.2.1
  have hm := h.1.2.2.2.2.2.1
  obtain ⟨a0, a1, a2, a3, a4, a5, a6, a7, a8, a9⟩ := h.2.2.1 d (by omega)
  obtain ⟨b0, b1, b2, _⟩ := h.2.2.2 c (by omega)
  obtain ⟨c1, c2, c3, c4⟩ := a8 hd
  have hne : lbI V (V (9 + d) 2) (V (19 + c) 1) ≠ -1 := by
    unfold mayTakeB at hmt
    simp only [Bool.and_eq_true, Bool.not_eq_true', decide_eq_false_iff_not] at hmt
    exact hmt.2.2.2
  have hnn := lb_nn h.2.1.2.2.2.1 h.2.1.2.2.2.2.1 h.2.1.2.2.2.2.2 a3 b2 hne
  have h1 : jJ V (mtV M d c) n m k := mtV_j d c h
  have et2 : tk1 M d c 6 d = V (9 + d) 2 := by unfold tk1; rw [xs_p _ _ _ _ (by omega), mtV_fr _ _ _ (by omega)]; exact a2.symm
  have et1 : tk1 M d c 13 c = V (19 + c) 1 := by unfold tk1; rw [xs_p _ _ _ _ (by omega), mtV_fr _ _ _ (by omega)]; exact b1.symm
  have hsz : szI (tk1 M d c) (V (9 + d) 2) (V (19 + c) 1) = lbI V (V (9 + d) 2) (V (19 + c) 1) := by
    obtain ⟨w1, w2, w3, w4, w5, w6⟩ := h.2.1
    have k2 : ∀ v, tk1 M d c 2 v = M 2 v := fun v => by unfold tk1; rw [xs_p _ _ _ _ (by omega), mtV_fr _ _ _ (by omega)]
    have k3 : ∀ v, tk1 M d c 3 v = M 3 v := fun v => by unfold tk1; rw [xs_p _ _ _ _ (by omega), mtV_fr _ _ _ (by omega)]
    refine sz_lb w4 w5 w6 ?_ ?_ a3 b2
    · funext i j
      unfold mEd cE
      by_cases q : i < 8 ∧ j < 8
      · rw [if_pos q, if_pos q, w3 i j q.1 q.2, k3]
      · rw [if_neg q, if_neg q]
    · funext v
      unfold mIm cIm
      by_cases q : v < 8
      · rw [if_pos q, if_pos q, w2 v q, k2]
      · rw [if_neg q, if_neg q]
  unfold tk2
  rw [et2, et1, hsz]
  generalize lbI V (V (9 + d) 2) (V (19 + c) 1) = z at hnn ⊢
  have oM : ∀ p j, ¬ (5 ≤ p ∧ p ≤ 12 ∧ j = d) → p ≠ 4 → xs (xs (szV (tk1 M d c) (V (9 + d) 2)) 12 d z) 10 d 1 p j = M p j := fun p j hp h4 => by
    rw [xs_get _ _ (by omega), xs_get _ _ (by omega), szV_fr _ _ h4]; unfold tk1; rw [xs_get _ _ (by omega), mtV_fr _ _ _ h4]
  have oD : ∀ p, p ≠ 4 → p ≠ 10 → p ≠ 11 → p ≠ 12 → xs (xs (szV (tk1 M d c) (V (9 + d) 2)) 12 d z) 10 d 1 p d = M p d := fun p h4 h10 h11 h12 => by
    rw [xs_get _ _ (by omega), xs_get _ _ (by omega), szV_fr _ _ h4]; unfold tk1; rw [xs_get _ _ (by omega), mtV_fr _ _ _ h4]
  have e10 : xs (xs (szV (tk1 M d c) (V (9 + d) 2)) 12 d z) 10 d 1 10 d = 1 := xs_self _ _ _ _
  have e12 : xs (xs (szV (tk1 M d c) (V (9 + d) 2)) 12 d z) 10 d 1 12 d = z := by rw [xs_get _ _ (by omega), xs_self]
  have e11 : xs (xs (szV (tk1 M d c) (V (9 + d) 2)) 12 d z) 10 d 1 11 d = nI c := by rw [xs_get _ _ (by omega), xs_get _ _ (by omega), szV_fr _ _ (by omega)]; exact xs_self _ _ _ _
  refine jJ_dev (d := d) h (fun p j hp => by unfold takeV; rw [xs_p _ _ _ _ hp, xs_p _ _ _ _ hp, xs_p _ _ _ _ hp]) oM (by omega) ?_
  unfold jDd
  rw [e10, e11, e12, oD 5 (by omega) (by omega) (by omega) (by omega), oD 6 (by omega) (by omega) (by omega) (by omega), oD 7 (by omega) (by omega) (by omega) (by omega), oD 8 (by omega) (by omega) (by omega) (by omega), oD 9 (by omega) (by omega) (by omega) (by omega)]
  unfold takeV
  have e0 : xs V (9 + d) 6 1 (19 + c) 0 = nI c := by rw [xs_p _ _ _ _ (by omega)]; exact b0
  rw [e0]
  simp only [xs_eq]
  simp
  exact ⟨a0, a1, a2, a3, hnn, ⟨c, hc, rfl⟩, fun _ => ⟨c1, c2, c3⟩, hd⟩
theorem tk_M10 (M : XV) (d c : Nat) : tk2 M d c 10 d = 1 := by unfold tk2; exact xs_self _ _ _ _
theorem not_may {M : XV} {d c : Nat} (h : M 10 d = 1) : mayTakeM M d c = false ∧ mtV M d c = M := by
  have e : preM M d c = false := by unfold preM; rw [h]; rfl
  unfold mayTakeM mtV
  rw [e]
  exact ⟨rfl, if_neg (by decide)⟩
theorem tkV_j {V M : XV} {n m k d : Nat} (hd : d < n) (h : jJ V M n m k) : ∀ c, c ≤ m → (jJ V (tkV M d c) n m k ∧ ∀ i, i < c → ¬ mayTakeB V (9 + d) (19 + i) = true) ∨ ∃ q, q < c ∧ mayTakeB V (9 + d) (19 + q) = true ∧ (∀ i, i < q → ¬ mayTakeB V (9 + d) (19 + i) = true) ∧ jJ (takeV V (9 + d) (19 + q) (lbI V (V (9 + d) 2) (V (19 + q) 1))) (tkV M d c) n m k ∧ tkV M d c 10 d = 1 := by
  intro c
  have hn := h.1.2.2.1
  induction c with
  | zero => intro _; exact Or.inl ⟨h, fun i hi => absurd hi (Nat.not_lt_zero i)⟩
  | succ c ih =>
    intro hc
    rcases ih (by omega) with ⟨h1, h2⟩ | ⟨q, hq, h1, h2, h3, h4⟩
    · have e := mayT_eq (d := d) (by omega) (show c < m by omega) h1
      by_cases ht : mayTakeM (tkV M d c) d c = true
      · have es : tkV M d (c + 1) = tk2 (tkV M d c) d c := if_pos ht
        rw [es]
        rw [← e] at ht
        exact Or.inr ⟨c, by omega, ht, h2, take_j hd (by omega) h1 ht, tk_M10 _ _ _⟩
      · have es : tkV M d (c + 1) = mtV (tkV M d c) d c := if_neg ht
        rw [es]
        refine Or.inl ⟨mtV_j d c h1, fun i hi => ?_⟩
        by_cases hic : i = c
        · subst hic; rw [e]; exact ht
        · exact h2 i (by omega)
    · obtain ⟨e1, e2⟩ := not_may (c := c) h4
      have es : tkV M d (c + 1) = tkV M d c := (if_neg (by rw [e1]; decide)).trans e2
      rw [es]
      exact Or.inr ⟨q, by omega, h1, h2, h3, h4⟩
theorem tl_j {V M : XV} {n m k d : Nat} (hd : d < n) (h : jJ V M n m k) : jJ (tlF V (9 + d) m 0) (tkV M d m) n m k := by
  rcases tkV_j hd h m (Nat.le_refl m) with ⟨h1, h2⟩ | ⟨q, hq, h1, h2, h3, _⟩
  · rw [tlF_none V (9 + d) m 0 fun i _ hi => h2 i (by omega)]; exact h1
  · rw [tlF_at V (9 + d) q h1 m 0 (by omega) (by omega) fun i _ hi => h2 i hi]; exact h3
theorem hour_T {V M : XV} {n m k : Nat} (h : jJ V M n m k) : M 0 1 - M 0 1 / 24 * 24 = V 0 6 := by
  obtain ⟨_, _, _, _, _, _, h1, h2, h3⟩ := h.1
  rw [h1, h2]
  exact pk_rem (d := 24) (by omega) (by omega) (by omega)
theorem can_eq {V M : XV} {n m k d : Nat} (hd : d < n) (h : jJ V M n m k) : canLoadB V (9 + d) (V 0 6) = ldM M d := by
  have hn := h.1.2.2.1
  obtain ⟨a0, a1, a2, a3, a4, a5, a6, a7, a8, a9⟩ := h.2.2.1 d (by omega)
  obtain ⟨c1, c2, c3, c4⟩ := a8 hd
  unfold canLoadB ldM inWinB openM inB
  rw [hour_T h, a4, c1, c2, c3]
theorem ld_T {x : Int32} (h : 0 ≤ x.toInt) : (if 0 < x - 100 then x - 100 else 0) = (if x ≤ 100 then 0 else x - 100) ∧ 0 ≤ (if x ≤ 100 then (0 : Int32) else x - 100).toInt := by
  have e : (x - 100).toInt = x.toInt - 100 := by
    rw [Int32.toInt_sub]
    have e1 : (100 : Int32).toInt = 100 := by decide
    have := x.toInt_lt
    rw [e1]; exact Int.bmod_eq_of_le (by omega) (by omega)
  have e1 : (100 : Int32).toInt = 100 := by decide
  by_cases q : x ≤ 100
  · have q2 := (ti_le _ _).mp q
    rw [if_pos q, if_neg (by rw [ti_lt, e, ti_0]; omega)]; exact ⟨rfl, by decide⟩
  · have q2 : ¬ x.toInt ≤ (100 : Int32).toInt := fun z => q ((ti_le _ _).mpr z)
    rw [if_neg q, if_pos (by rw [ti_lt, e, ti_0]; omega), e]; exact ⟨rfl, by omega⟩
theorem load_j {V M : XV} {n m k d : Nat} (hd : d < n) (h : jJ V M n m k) (h1 : V (9 + d) 6 = 1) : jJ (loadV V (9 + d)) (ld3 M d) n m k ∧ ((loadV V (9 + d) (9 + d) 6 = 2) ↔ ld3 M d 12 d = 0) := by
  have hn := h.1.2.2.1
  obtain ⟨a0, a1, a2, a3, a4, a5, a6, a7, a8, a9⟩ := h.2.2.1 d (by omega)
  obtain ⟨c1, c2, c3, c4⟩ := a8 hd
  obtain ⟨t1, t2⟩ := ld_T a6
  have e8 : loadV0 V (9 + d) (9 + d) 8 = if V (9 + d) 8 ≤ 100 then 0 else V (9 + d) 8 - 100 := by unfold loadV0; rw [xs_get _ _ (by omega), xs_self]; exact t1
  have e3 : loadV0 V (9 + d) (9 + d) 3 = V (9 + d) 3 - 1 := by unfold loadV0; rw [xs_self, xs_get _ _ (by omega)]
  have eo : ∀ j, j ≠ 3 → j ≠ 8 → loadV0 V (9 + d) (9 + d) j = V (9 + d) j := fun j h3 h8 => by unfold loadV0; rw [xs_get _ _ (by omega), xs_get _ _ (by omega)]
  have ep : ∀ p j, p ≠ 9 + d → loadV0 V (9 + d) p j = V p j := fun p j hp => by unfold loadV0; rw [xs_p _ _ _ _ hp, xs_p _ _ _ _ hp]
  have f12 : ld2 M d 12 d = if M 12 d ≤ 100 then 0 else M 12 d - 100 := by unfold ld2 ld1; rw [xs_get _ _ (by omega), xs_self]
  have g12 : ld3 M d 12 d = if M 12 d ≤ 100 then 0 else M 12 d - 100 := by unfold ld3; rw [xs_get _ _ (by omega)]; exact f12
  have g7 : ld3 M d 7 d = M 7 d - 1 := by unfold ld3; rw [xs_get _ _ (by omega)]; unfold ld2; rw [xs_self]; unfold ld1; rw [xs_get _ _ (by omega)]
  have g10 : ld3 M d 10 d = if (if M 12 d ≤ 100 then 0 else M 12 d - 100) = 0 then 2 else 1 := by unfold ld3; rw [xs_self, f12]
  have go : ∀ p j, ¬ ((p = 7 ∨ p = 10 ∨ p = 12) ∧ j = d) → ld3 M d p j = M p j := fun p j hp => by unfold ld3 ld2 ld1; rw [xs_get _ _ (by omega), xs_get _ _ (by omega), xs_get _ _ (by omega)]
  rw [← a5] at g12 g10
  generalize (if V (9 + d) 8 ≤ 100 then (0 : Int32) else V (9 + d) 8 - 100) = z at *
  have hload : ∀ j, loadV V (9 + d) (9 + d) j = if j = 6 then (if z = 0 then 2 else 1) else loadV0 V (9 + d) (9 + d) j := by
    intro j
    unfold loadV
    rw [e8]
    by_cases hz : z = 0
    · rw [if_pos hz, if_pos hz, xs_eq]
      by_cases hj : j = 6
      · rw [if_pos ⟨rfl, hj⟩, if_pos hj]
      · rw [if_neg (fun w => hj w.2), if_neg hj]
    · rw [if_neg hz, if_neg hz]
      by_cases hj : j = 6
      · rw [if_pos hj, hj, eo 6 (by omega) (by omega)]; exact h1
      · rw [if_neg hj]
  have hloadp : ∀ p j, p ≠ 9 + d → loadV V (9 + d) p j = V p j := by
    intro p j hp
    unfold loadV
    split
    · rw [xs_p _ _ _ _ hp]; exact ep p j hp
    · exact ep p j hp
  have hl : ∀ j, j ≠ 6 → loadV V (9 + d) (9 + d) j = loadV0 V (9 + d) (9 + d) j := fun j hj => by rw [hload, if_neg hj]
  have hl6 : loadV V (9 + d) (9 + d) 6 = if z = 0 then 2 else 1 := by rw [hload, if_pos rfl]
  constructor
  · refine jJ_dev (d := d) h hloadp (fun p j hp _ => go p j (by omega)) (by omega) ?_
    unfold jDd
    rw [hl 0 (by decide), hl 1 (by decide), hl 2 (by decide), hl 3 (by decide), hl 4 (by decide), hl 5 (by decide), hl6, hl 7 (by decide), hl 8 (by decide), e8, e3, eo 0 (by omega) (by omega), eo 1 (by omega) (by omega), eo 2 (by omega) (by omega), eo 4 (by omega) (by omega), eo 5 (by omega) (by omega), eo 7 (by omega) (by omega), g7, g10, g12, go 5 d (by omega), go 6 d (by omega), go 8 d (by omega), go 9 d (by omega), go 11 d (by omega), c1]
    refine ⟨a0, a1, a2, a3, rfl, rfl, t2, fun _ => a7 (by rw [h1]; decide), fun _ => ⟨rfl, c2, c3, c4⟩, fun w => by omega⟩
  · rw [hl6, g12]
    by_cases hz : z = 0
    · rw [if_pos hz]; exact ⟨fun _ => hz, fun _ => rfl⟩
    · rw [if_neg hz]; exact ⟨fun w => absurd w (by decide), fun w => absurd w hz⟩
theorem can_1 {V : XV} {p : Nat} {x : Int32} (h : canLoadB V p x = true) : V p 6 = 1 := by
  unfold canLoadB at h
  simp only [Bool.and_eq_true, decide_eq_true_eq] at h
  exact h.1
theorem po_j {V M : XV} {n m k : Nat} (h : jJ V M n m k) : ∀ d, d ≤ n → jJ (poV V m d) (pmV M m d) n m k ∧ poT V m d = pmT M m 0 d := by
  intro d
  induction d with
  | zero => intro _; exact ⟨h, rfl⟩
  | succ d ih =>
    intro hd
    obtain ⟨h1, h2⟩ := ih (by omega)
    have h3 := tl_j (d := d) (by omega) h1
    have h4 := can_eq (d := d) (by omega) h3
    show jJ (poStep (poV V m d) m d) (pmStep (pmV M m d) m d) n m k ∧ poTs (poV V m d) m d (poT V m d) = pmTs (pmV M m d) m d (pmT M m 0 d)
    unfold poStep pmStep poTs pmTs
    rw [h4, h2]
    by_cases q : ldM (tkV (pmV M m d) d m) d = true
    · rw [if_pos q, if_pos q, if_pos q, if_pos q]
      rw [← h4] at q
      obtain ⟨h5, h6⟩ := load_j (d := d) (by omega) h3 (can_1 q)
      refine ⟨h5, ?_⟩
      by_cases hz : ld3 (tkV (pmV M m d) d m) d 12 d = 0
      · rw [if_pos (h6.mpr hz), if_pos hz]
      · rw [if_neg (fun w => hz (h6.mp w)), if_neg hz, Int32.add_zero]
    · rw [if_neg q, if_neg q, if_neg q, if_neg q]
      exact ⟨h3, rfl⟩
theorem pmT_z (M : XV) (m : Nat) (z : Int32) : ∀ d, pmT M m z d = z + pmT M m 0 d := by
  intro d
  induction d with
  | zero => exact (Int32.add_zero z).symm
  | succ d ih =>
    show pmTs (pmV M m d) m d (pmT M m z d) = z + pmTs (pmV M m d) m d (pmT M m 0 d)
    unfold pmTs
    rw [ih]
    split
    · rw [Int32.add_assoc]
    · rfl
theorem hr_j {V M : XV} {n m k : Nat} (hk : k < 60000) (h : jJ V M n m k) : jJ (hourV V n m) (hrM M n m) n m (k + 1) := by
  obtain ⟨h1, _⟩ := po_j h n (Nat.le_refl n)
  unfold hourV hrM
  generalize poV V m n = U at h1 ⊢
  generalize pmV M m n = N at h1 ⊢
  obtain ⟨⟨s1, s2, s3, s4, s5, s6, s7, s8, s9⟩, h2, h3, h4⟩ := h1
  rw [s7, s8, nI_s, nI_s]
  have e : nI (k % 24 + 1) - nI (k % 24 + 1) / 24 * 24 = nI ((k + 1) % 24) := by
    have := pk_rem (a := k % 24 + 1) (d := 24) (by omega) (by omega) (by omega)
    refine this.trans ?_
    rw [show (k % 24 + 1) % 24 = (k + 1) % 24 by omega]
  rw [e]
  have oV : ∀ p j, ¬ (p = 0 ∧ j = 6) → xs U 0 6 (nI ((k + 1) % 24)) p j = U p j := fun p j hp => xs_get _ _ hp
  have oM : ∀ p j, ¬ (p = 0 ∧ j = 1) → xs N 0 1 (nI (k + 1)) p j = N p j := fun p j hp => xs_get _ _ hp
  refine ⟨⟨by rw [oV 0 4 (by omega)]; exact s1, by rw [oM 0 6 (by omega)]; exact s2, s3, by rw [oV 0 5 (by omega)]; exact s4, by rw [oM 0 15 (by omega)]; exact s5, s6, xs_self _ _ _ _, xs_self _ _ _ _, by omega⟩, jW_cg (fun p j _ _ => oV p j (by omega)) (fun p j _ => oM p j (by omega)) h2, fun d hd => jDd_cg (fun j _ => oV _ j (by omega)) (fun p _ _ => oM p d (by omega)) (h3 d hd), fun c hc => jCc_cg (fun j _ => oV _ j (by omega)) (fun p _ _ => oM p c (by omega)) (fun i _ => oM 18 _ (by omega)) (h4 c hc)⟩
theorem pa_j {V M : XV} {n m k : Nat} (h : jJ V M n m k) : ∀ i, k + i ≤ 60000 → jJ (paV V n m i) (paM M n m i) n m (k + i) ∧ paT V n m i = paN M n m i := by
  intro i
  induction i with
  | zero => intro _; exact ⟨h, rfl⟩
  | succ i ih =>
    intro hi
    obtain ⟨h1, h2⟩ := ih (by omega)
    refine ⟨hr_j (k := k + i) (by omega) h1, ?_⟩
    show paT V n m i + poT (paV V n m i) m n = pmT (paM M n m i) m (paN M n m i) n
    rw [pmT_z, h2, (po_j h1 n (Nat.le_refl n)).2]
/-! ===== END rel4 ===== -/
