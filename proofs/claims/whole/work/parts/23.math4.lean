/-! ===== BEGIN math4: the reference's rounds find the least cost ===== -/
def mEd (M : XV) (i j : Nat) : Int := if i < 8 ∧ j < 8 then (M 3 (8 * i + j)).toInt else -1
def mIm (M : XV) (v : Nat) : Int := if v < 8 then (M 2 v).toInt else -1
def dT (U : XV) (k : Nat) : Int := (U 4 k).toInt
def costN (E : Nat → Nat → Int) (I : Nat → Int) (r f t : Nat) (c : Int) : Prop := ∃ n, n ≤ r ∧ (wR E n f t c ∨ ∃ v c', I v ≠ -1 ∧ wR E n v t c' ∧ c = I v + c')
def dOK (E : Nat → Nat → Int) (I : Nat → Int) (f : Nat) (U : XV) : Prop := ∀ k, k < 8 → 0 ≤ dT U k ∧ dT U k ≤ 100000000 ∧ (dT U k = 100000000 ∨ cost E I f k (dT U k))
def dMo (U U' : XV) : Prop := ∀ k, dT U' k ≤ dT U k
def dFr (V U : XV) : Prop := ∀ p k, p ≠ 4 → U p k = V p k
theorem cost_edge {E : Nat → Nat → Int} {I : Nat → Int} {f i j : Nat} {c : Int} (h : cost E I f i c) (hne : E i j ≠ -1) : cost E I f j (c + E i j) := by
  rcases h with h | ⟨v, c', h1, h2, h3⟩
  · exact Or.inl (aR_app h (aR_edge hne))
  · exact Or.inr ⟨v, c' + E i j, h1, aR_app h2 (aR_edge hne), by omega⟩
theorem mEd_at (M : XV) {k : Nat} (hk : k < 64) : mEd M (k / 8) (k % 8) = (M 3 k).toInt := by
  unfold mEd
  rw [if_pos (by omega), show 8 * (k / 8) + k % 8 = k by omega]
theorem sStep_T {V U : XV} (hE : gE (mEd V)) {f : Nat} (hF : dFr V U) (hU : dOK (mEd V) (mIm V) f U) {k : Nat} (hk : k < 64) : dFr V (sStep U k) ∧ dOK (mEd V) (mIm V) f (sStep U k) ∧ dMo U (sStep U k) ∧ (mEd V (k / 8) (k % 8) ≠ -1 → dT (sStep U k) (k % 8) ≤ dT U (k / 8) + mEd V (k / 8) (k % 8)) := by
  have e3 : (U 3 k).toInt = mEd V (k / 8) (k % 8) := by rw [mEd_at V hk, hF 3 k (by omega)]
  by_cases h1 : U 3 k = -1
  · have e : sStep U k = U := if_pos h1
    rw [e]
    exact ⟨hF, hU, fun _ => Int.le_refl _, fun z => absurd (e3.symm.trans ((ti_ne1 _).mp h1)) z⟩
  · have hne : mEd V (k / 8) (k % 8) ≠ -1 := by rw [← e3]; exact fun z => h1 ((ti_ne1 _).mpr z)
    have hb := gE_of hE hne
    obtain ⟨a0, a1, a2⟩ := hU (k / 8) hb.1
    obtain ⟨b0, b1, b2⟩ := hU (k % 8) hb.2.1
    have es : (U 4 (k / 8) + U 3 k).toInt = dT U (k / 8) + mEd V (k / 8) (k % 8) := by
      rw [← e3]
      rw [← e3] at hb
      unfold dT at *
      exact ti_add (by omega) (by omega) (by omega) (by omega)
    by_cases h2 : U 4 (k % 8) ≤ U 4 (k / 8) + U 3 k
    · have e : sStep U k = U := (if_neg h1).trans (if_pos h2)
      rw [ti_le, es] at h2
      rw [e]
      exact ⟨hF, hU, fun _ => Int.le_refl _, fun _ => h2⟩
    · have e : sStep U k = xs U 4 (k % 8) (U 4 (k / 8) + U 3 k) := (if_neg h1).trans (if_neg h2)
      rw [ti_le, es] at h2
      have h2' : ¬ dT U (k % 8) ≤ dT U (k / 8) + mEd V (k / 8) (k % 8) := h2
      have es2 : dT (sStep U k) (k % 8) = dT U (k / 8) + mEd V (k / 8) (k % 8) := by
        unfold dT; rw [e, xs_self]; exact es
      have eo : ∀ j, j ≠ k % 8 → dT (sStep U k) j = dT U j := by
        intro j hj
        unfold dT; rw [e, xs_get _ _ (by omega)]
      refine ⟨fun p j hp => ?_, fun j hj => ?_, fun j => ?_, fun _ => ?_⟩
      · rw [e, xs_get _ _ (by omega)]; exact hF p j hp
      · by_cases hjk : j = k % 8
        · subst hjk
          rw [es2]
          exact ⟨by omega, by omega, Or.inr (cost_edge (a2.resolve_left (by omega)) hne)⟩
        · rw [eo j hjk]; exact hU j hj
      · by_cases hjk : j = k % 8
        · subst hjk; rw [es2]; omega
        · rw [eo j hjk]; exact Int.le_refl _
      · rw [es2]; exact Int.le_refl _
theorem sIn_T {V U : XV} (hE : gE (mEd V)) {f : Nat} (hF : dFr V U) (hU : dOK (mEd V) (mIm V) f U) : ∀ n, n ≤ 64 → dFr V (sIn U n) ∧ dOK (mEd V) (mIm V) f (sIn U n) ∧ dMo U (sIn U n) ∧ ∀ k, k < n → mEd V (k / 8) (k % 8) ≠ -1 → dT (sIn U n) (k % 8) ≤ dT U (k / 8) + mEd V (k / 8) (k % 8) := by
  intro n
  induction n with
  | zero => intro _; exact ⟨hF, hU, fun _ => Int.le_refl _, fun k h => absurd h (Nat.not_lt_zero k)⟩
  | succ n ih =>
    intro hn
    obtain ⟨h1, h2, h3, h4⟩ := ih (by omega)
    obtain ⟨g1, g2, g3, g4⟩ := sStep_T hE h1 h2 (show n < 64 by omega)
    refine ⟨g1, g2, fun k => Int.le_trans (g3 k) (h3 k), fun k hk hne => ?_⟩
    by_cases hkn : k = n
    · subst hkn
      have := g4 hne
      have := h3 (k / 8)
      exact Int.le_trans (g4 hne) (by omega)
    · exact Int.le_trans (g3 _) (h4 k (by omega) hne)
theorem sOut_T {V U : XV} (hE : gE (mEd V)) (hI : gI (mIm V)) {f : Nat} (hF : dFr V U) (hU : dOK (mEd V) (mIm V) f U) (h0 : ∀ t c, t < 8 → costN (mEd V) (mIm V) 0 f t c → dT U t ≤ c) : ∀ n, dFr V (sOut U n) ∧ dOK (mEd V) (mIm V) f (sOut U n) ∧ ∀ t c, t < 8 → costN (mEd V) (mIm V) n f t c → dT (sOut U n) t ≤ c := by
  intro n
  induction n with
  | zero => exact ⟨hF, hU, h0⟩
  | succ n ih =>
    obtain ⟨h1, h2, h3⟩ := ih
    obtain ⟨g1, g2, g3, g4⟩ := sIn_T hE h1 h2 64 (Nat.le_refl _)
    refine ⟨g1, g2, fun t c ht hc => ?_⟩
    obtain ⟨q, hq, hc⟩ := hc
    by_cases hqn : q ≤ n
    · exact Int.le_trans (g3 t) (h3 t c ht ⟨q, hqn, hc⟩)
    · have e : q = n + 1 := by omega
      subst e
      rcases hc with hc | ⟨v, c', hv, hr, hc⟩
      · obtain ⟨m, c2, h5, h6, h7⟩ := wR_snoc n f t c hc
        have hb := gE_of hE h6
        have h8 := h3 m c2 hb.1 ⟨n, Nat.le_refl _, Or.inl h5⟩
        have h9 := g4 (8 * m + t) (by omega)
        rw [show (8 * m + t) / 8 = m by omega, show (8 * m + t) % 8 = t by omega] at h9
        exact Int.le_trans (h9 h6) (by omega)
      · obtain ⟨m, c2, h5, h6, h7⟩ := wR_snoc n v t c' hr
        have hb := gE_of hE h6
        have h8 := h3 m (mIm V v + c2) hb.1 ⟨n, Nat.le_refl _, Or.inr ⟨v, c2, hv, h5, rfl⟩⟩
        have h9 := g4 (8 * m + t) (by omega)
        rw [show (8 * m + t) / 8 = m by omega, show (8 * m + t) % 8 = t by omega] at h9
        exact Int.le_trans (h9 h6) (by omega)
theorem s0_at (V : XV) (f : Int32) : ∀ n, n ≤ 8 → ∀ p k, s0 V f n p k = if p = 4 ∧ k < n then (if nI k = f then 0 else if V 2 k = -1 then 100000000 else V 2 k) else V p k := by
  intro n
  induction n with
  | zero => intro _ p k; rw [if_neg (by omega)]; rfl
  | succ n ih =>
    intro hn p k
    have h := ih (by omega)
    have e0 : s0 V f n 2 n = V 2 n := by rw [h, if_neg (by omega)]
    show xs (s0 V f n) 4 n (if nI n = f then 0 else if s0 V f n 2 n = -1 then 100000000 else s0 V f n 2 n) p k = _
    rw [e0, xs_eq]
    by_cases h1 : p = 4 ∧ k = n
    · obtain ⟨h2, h3⟩ := h1
      subst h3
      rw [if_pos ⟨h2, rfl⟩, if_pos (show p = 4 ∧ k < k + 1 from ⟨h2, by omega⟩)]
    · rw [if_neg h1, h p k]
      by_cases h2 : p = 4 ∧ k < n
      · rw [if_pos h2, if_pos (show p = 4 ∧ k < n + 1 from ⟨h2.1, by omega⟩)]
      · rw [if_neg h2, if_neg (by omega)]
theorem s0_T (V : XV) (hE : gE (mEd V)) (hI : gI (mIm V)) {f : Nat} (hf : f < 8) : dFr V (s0 V (nI f) 8) ∧ dOK (mEd V) (mIm V) f (s0 V (nI f) 8) ∧ ∀ t c, t < 8 → costN (mEd V) (mIm V) 0 f t c → dT (s0 V (nI f) 8) t ≤ c := by
  have hd : ∀ k, k < 8 → dT (s0 V (nI f) 8) k = if k = f then 0 else if mIm V k = -1 then 100000000 else mIm V k := by
    intro k hk
    unfold dT mIm
    rw [s0_at V _ 8 (Nat.le_refl 8), if_pos (show 4 = 4 ∧ k < 8 from ⟨rfl, hk⟩), if_pos hk]
    by_cases h : k = f
    · rw [if_pos h, if_pos (by rw [h]), ti_0]
    · have hn : nI k ≠ nI f := by
        intro z
        have h1 := cl8 hk
        have h2 := cl8 hf
        rw [z, h2] at h1
        exact h h1.symm
      rw [if_neg h, if_neg hn]
      by_cases h2 : V 2 k = -1
      · rw [if_pos h2, if_pos ((ti_ne1 _).mp h2), ti_G]
      · rw [if_neg h2, if_neg (fun z => h2 ((ti_ne1 _).mpr z))]
  refine ⟨fun p k hp => ?_, fun k hk => ?_, fun t c ht hc => ?_⟩
  · rw [s0_at V _ 8 (Nat.le_refl 8), if_neg (by omega)]
  · rw [hd k hk]
    by_cases h : k = f
    · rw [if_pos h]; subst h; exact ⟨by omega, by omega, Or.inr (Or.inl (aR_0 _ _))⟩
    · rw [if_neg h]
      by_cases h2 : mIm V k = -1
      · rw [if_pos h2]; exact ⟨by omega, by omega, Or.inl rfl⟩
      · rw [if_neg h2]
        have := (hI k).resolve_left h2
        exact ⟨by omega, by omega, Or.inr (Or.inr ⟨k, 0, h2, aR_0 _ _, by omega⟩)⟩
  · rw [hd t ht]
    obtain ⟨n, hn, hc⟩ := hc
    obtain rfl : n = 0 := by omega
    rcases hc with ⟨h1, h2⟩ | ⟨v, c', hv, ⟨h1, h2⟩, hc⟩
    · rw [if_pos h1.symm]; omega
    · subst h1
      have := (hI v).resolve_left hv
      by_cases h : v = f
      · rw [if_pos h]; omega
      · rw [if_neg h, if_neg hv]; omega
theorem sz_min (V : XV) (hE : gE (mEd V)) (hI : gI (mIm V)) {f : Int32} (hf : vp_in f 8) {t : Nat} (ht : t < 8) : isMin (mEd V) (mIm V) 100000000 f.toNatClampNeg t (szV V f 4 t).toInt := by
  have hfn := nI_of_in hf (by omega)
  have hf8 := vp_at hf
  obtain ⟨h1, h2, h3⟩ := s0_T V hE hI hf8
  rw [← hfn] at h1 h2 h3
  obtain ⟨g1, g2, g3⟩ := sOut_T hE hI h1 h2 h3 8
  rw [szV_eq]
  obtain ⟨a0, a1, a2⟩ := g2 t ht
  refine ⟨a0, a1, fun c hc => ?_, a2⟩
  rcases hc with hc | ⟨v, c', hv, hr, hc⟩
  · obtain ⟨n, c2, h4, h5, h6⟩ := aR_short hE hc
    exact Int.le_trans (g3 t c2 ht ⟨n, h4, Or.inl h6⟩) h5
  · obtain ⟨n, c2, h4, h5, h6⟩ := aR_short hE hr
    exact Int.le_trans (g3 t (mIm V v + c2) ht ⟨n, h4, Or.inr ⟨v, c2, hv, h6, rfl⟩⟩) (by omega)
theorem szV_fr (V : XV) (f : Int32) {p : Nat} (hp : p ≠ 4) (k : Nat) : szV V f p k = V p k := by
  have h0 : ∀ n, s0 V f n p k = V p k := by
    intro n
    induction n with
    | zero => rfl
    | succ n ih => show s0Step (s0 V f n) f n p k = _; unfold s0Step; rw [xs_get _ _ (by omega), ih]
  have h1 : ∀ U : XV, ∀ n, sIn U n p k = U p k := by
    intro U n
    induction n with
    | zero => rfl
    | succ n ih =>
      show sStep (sIn U n) n p k = _
      unfold sStep
      split
      · exact ih
      · split
        · exact ih
        · rw [xs_get _ _ (by omega), ih]
  have h2 : ∀ U : XV, ∀ n, sOut U n p k = U p k := by
    intro U n
    induction n with
    | zero => rfl
    | succ n ih => show sIn (sOut U n) 64 p k = _; rw [h1, ih]
  rw [szV_eq, h2, h0]
/-- the class's least bytes are the reference's -/
theorem sz_lb {V M : XV} (hE : gE (cE V)) (hI : gI (cIm V)) (h : tOK V) (hEe : mEd M = cE V) (hIe : mIm M = cIm V) {f t : Int32} (hf : vp_in f 8) (ht : vp_in t 8) : szI M f t = lbI V f t := by
  have hfn := nI_of_in hf (by omega)
  have htn := nI_of_in ht (by omega)
  have hm := sz_min M (by rw [hEe]; exact hE) (by rw [hIe]; exact hI) hf (vp_at ht)
  rw [hEe, hIe] at hm
  have es : (szI M f t).toInt = if (szV M f 4 t.toNatClampNeg).toInt < 100000000 then (szV M f 4 t.toNatClampNeg).toInt else -1 := by
    unfold szI
    by_cases hlt : szV M f 4 t.toNatClampNeg < 100000000
    · rw [if_pos hlt, if_pos (by rw [ti_lt, ti_G] at hlt; exact hlt)]
    · rw [if_neg hlt, if_neg (by rw [ti_lt, ti_G] at hlt; exact hlt), ti_m1]
  unfold lbI
  rw [ti_eq, es]
  by_cases e : f = t
  · rw [if_pos e, ti_0]
    subst e
    have h0 := hm.2.2.1 0 (Or.inl (aR_0 _ _))
    have h1 := hm.1
    rw [if_pos (by omega)]; omega
  · rw [if_neg e, orNone_T]
    exact (isMin_eq hE hI (by omega) (by omega) hm (lb_min hE hI h (vp_at hf) (vp_at ht)))
/-! ===== END math4 ===== -/
