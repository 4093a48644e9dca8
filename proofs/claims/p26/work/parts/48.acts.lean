/-! ===== BEGIN acts: what an act answers and leaves ===== -/
/-- y % n, but 0 if there are none -/
def iJ (n y : Nat) : Nat := if n = 0 then 0 else y % n
theorem iJ_0 {n y : Nat} (h : n = 0) : iJ n y = 0 := if_pos h
theorem iJ_1 {n y : Nat} (h : ¬ n = 0) : iJ n y = y % n := if_neg h
theorem iJ_lt {n y : Nat} (h : 0 < n) : iJ n y < n := by rw [iJ_1 (by omega)]; exact Nat.mod_lt _ h
theorem iJ_le (n y : Nat) : iJ n y ≤ n := by
  by_cases h : n = 0
  · rw [iJ_0 h]; exact Nat.zero_le _
  · exact Nat.le_of_lt (iJ_lt (by omega))
def rAllow (V : XV) (v k : Int32) : Int32 × XV := (wr (allowX v k) (V 1 v.toNatClampNeg), wU (allowX v k) (xs V 1 v.toNatClampNeg k) V)
def rImage (V : XV) (v z : Int32) : Int32 × XV := (wr (setImageX v z) (V 5 v.toNatClampNeg), wU (setImageX v z) (measV (xs V 5 v.toNatClampNeg z)) V)
def rDelta (V : XV) (g t z : Int32) : Int32 × XV := (wr (setDeltaX g t z) (V (25 + g.toNatClampNeg) t.toNatClampNeg), wU (setDeltaX g t z) (measV (xs V (25 + g.toNatClampNeg) t.toNatClampNeg z)) V)
def rAdd (V : XV) (n : Nat) (k v : Int32) : Int32 × XV := (wr (addDeviceX V k v) (addV V n k v (9 + n) 0), wU (addDeviceX V k v) (addV V n k v) V)
def rCharge (V : XV) (d z : Int32) : Int32 × XV := (wr (chargeX V d z) (V (9 + d.toNatClampNeg) 3), wU (chargeX V d z) (xs V (9 + d.toNatClampNeg) 3 z) V)
def rWindow (V : XV) (d g t : Int32) : Int32 × XV := (wr (windowX V d g t) 0, wU (windowX V d g t) (xs (xs V (9 + d.toNatClampNeg) 4 g) (9 + d.toNatClampNeg) 5 t) V)
def rReport (V : XV) (d z : Int32) : Int32 × XV := (wr (reportX V d) (reportV V (9 + d.toNatClampNeg) (19 + (V (9 + d.toNatClampNeg) 7).toNatClampNeg) z (9 + d.toNatClampNeg) 2), wU (reportX V d) (reportV V (9 + d.toNatClampNeg) (19 + (V (9 + d.toNatClampNeg) 7).toNatClampNeg) z) V)
def rBegin (V : XV) (m : Nat) (t k vs rep : Int32) : Int32 × XV := (wr (beginX V t k vs rep) (beginV V m t k vs rep (19 + m) 0), wU (beginX V t k vs rep) (beginV V m t k vs rep) V)
def rRules (V : XV) (q g s9 n9 th : Int32) : Int32 × XV := (wr (rulesX V q g s9 n9 th) 0, wU (rulesX V q g s9 n9 th) (rulesV V (19 + q.toNatClampNeg) g s9 n9 th) V)
def rToggle (V : XV) (q : Int32) : Int32 × XV := (wr (nCx V q) (toggleV V (19 + q.toNatClampNeg) (19 + q.toNatClampNeg) 8), wU (nCx V q) (toggleV V (19 + q.toNatClampNeg)) V)
def rPass (V : XV) (n m : Nat) (z : Int32) : Int32 × XV := (wr (nRx z 1 100) (paT V n m z.toNatClampNeg), wU (nRx z 1 100) (paV V n m z.toNatClampNeg) V)
/-- the first device on trial from i on reports -/
def repF (V : XV) (n i y : Nat) : Nat → Nat → Int32 × XV
  | 0, _ => rReport V (nI i) (nI 1)
  | k + 1, j => if V (9 + (i + j) % n) 6 = 2 then rReport V (nI ((i + j) % n)) (if 0 < y / 10 % 4 then nI 1 else nI 0) else repF V n i y k (j + 1)
def actF (V : XV) (n m x : Nat) : Int32 × XV :=
  if x % 32 = 0 then rAllow V (nI (x / 32 % 8)) (nI (x / 32 / 8 % 16) ||| nI (x / 32 / 128 % 16))
  else if x % 32 ≤ 2 then rImage V (nI (x / 32 % 8)) (if x / 32 / 8 % 4 = 0 then -1 else nI (1 + x / 32 / 32 % 900))
  else if x % 32 ≤ 5 then rDelta V (nI (x / 32 % 8)) (nI (x / 32 / 8 % 8)) (if x / 32 / 64 % 5 = 0 then -1 else nI (1 + x / 32 / 320 % 400))
  else if x % 32 ≤ 8 then rAdd V n (nI (x / 32 % 4)) (nI (x / 32 / 4 % 8))
  else if x % 32 ≤ 9 then rCharge V (nI (iJ n (x / 32))) (nI (x / 32 / 10 % 101))
  else if x % 32 ≤ 10 then rWindow V (nI (iJ n (x / 32))) (nI (x / 32 / 10 % 24)) (nI (x / 32 / 240 % 24))
  else if x % 32 ≤ 13 then rBegin V m (nI (x / 32 % 8)) (nI (x / 32 / 8 % 16) ||| nI (x / 32 / 16 % 16)) (if x / 32 / 384 % 2 = 0 then nI 255 else nI (x / 32 / 8 % 256)) (if 0 < x / 32 / 128 % 3 ∨ m = 0 then -1 else nI (iJ m (x / 32)))
  else if x % 32 ≤ 16 then rRules V (nI (iJ m (x / 32))) (nI (x / 32 / 6 % 60)) (nI (60 + x / 32 / 360 % 41)) (nI (1 + x / 32 / 17 % 4)) (nI (x / 32 / 68 % 1001))
  else if x % 32 ≤ 17 then rToggle V (nI (iJ m (x / 32)))
  else if x % 32 ≤ 22 then repF V n (iJ n (x / 32)) (x / 32) n 0
  else rPass V n m (nI (1 + x / 32 % 12))
theorem gJ_wU {ex : Option String} {U V : XV} {n m : Nat} (h : gJ V n m) (hU : ex = none → gJ U n m) : gJ (wU ex U V) n m := by
  cases ex with
  | none => exact hU rfl
  | some E => exact h
theorem seqx_n {x y : Option String} (h : seqx x y = none) : x = none ∧ y = none := by
  cases x with
  | none => exact ⟨rfl, h⟩
  | some E => cases h
theorem nV_at {v : Int32} (h : nVx v = none) : v.toNatClampNeg < 8 := vp_at (nVx_in h)
theorem nD_at {V : XV} {n m : Nat} (hJ : gJ V n m) {v : Int32} (h : nDx V v = none) : v.toNatClampNeg < n ∧ v = nI v.toNatClampNeg := by
  have hn := hJ.2.1
  rcases nDx_T hJ v with ⟨_, j, hj, e⟩ | ⟨q, _⟩
  · rw [e, nI_clamp (by omega)]; exact ⟨hj, rfl⟩
  · rw [h] at q; cases q
theorem nC_at {V : XV} {n m : Nat} (hJ : gJ V n m) {v : Int32} (h : nCx V v = none) : v.toNatClampNeg < m ∧ v = nI v.toNatClampNeg := by
  have hm := hJ.2.2.2.1
  rcases nCx_T hJ v with ⟨_, j, hj, e⟩ | ⟨q, _⟩
  · rw [e, nI_clamp (by omega)]; exact ⟨hj, rfl⟩
  · rw [h] at q; cases q
theorem gJ_rAllow {V : XV} {n m : Nat} (h : gJ V n m) (v k : Int32) : gJ (rAllow V v k).2 n m := gJ_wU h fun _ => gJ_allow _ h
theorem gJ_rImage {V : XV} {n m : Nat} (h : gJ V n m) (v z : Int32) : gJ (rImage V v z).2 n m := gJ_wU h fun e => gJ_image (nV_at (seqx_n e).1) (seqx_n e).2 h
theorem gJ_rDelta {V : XV} {n m : Nat} (h : gJ V n m) (g t z : Int32) : gJ (rDelta V g t z).2 n m := gJ_wU h fun e => by
  obtain ⟨h1, h2⟩ := seqx_n e
  obtain ⟨h2, h3⟩ := seqx_n h2
  refine gJ_delta (nV_at h1) (nV_at h2) ?_ h
  by_cases q : g = t
  · rw [if_pos q] at h3; cases h3
  · rw [if_neg q] at h3; exact h3
theorem gJ_rCharge {V : XV} {n m : Nat} (h : gJ V n m) (d z : Int32) : gJ (rCharge V d z).2 n m := gJ_wU h fun e => gJ_charge (by have := (nD_at h (seqx_n e).1).1; have := h.2.1; omega) (seqx_n e).2 h
theorem gJ_rWindow {V : XV} {n m : Nat} (h : gJ V n m) (d g t : Int32) : gJ (rWindow V d g t).2 n m := gJ_wU h fun e => gJ_window (by have := (nD_at h (seqx_n e).1).1; have := h.2.1; omega) _ _ h
theorem gJ_rReport {V : XV} {n m : Nat} (h : gJ V n m) (d z : Int32) : gJ (rReport V d z).2 n m := gJ_wU h fun e => by
  obtain ⟨h1, h2⟩ := seqx_n e
  obtain ⟨hd, ed⟩ := nD_at h h1
  have hn := h.2.1
  by_cases q : V (9 + d.toNatClampNeg) 6 = 2
  · obtain ⟨c, hc, e7, e7c, _, _, _⟩ := trial_T h hd q
    rw [e7c]
    exact gJ_report (by omega) hc z h q e7
  · rw [if_neg q] at h2; cases h2
theorem gJ_rRules {V : XV} {n m : Nat} (h : gJ V n m) (q g s9 n9 th : Int32) : gJ (rRules V q g s9 n9 th).2 n m := gJ_wU h fun e => gJ_rules (by have := (nC_at h (seqx_n e).1).1; have := h.2.2.2.1; omega) _ _ _ _ h
theorem gJ_rToggle {V : XV} {n m : Nat} (h : gJ V n m) (q : Int32) : gJ (rToggle V q).2 n m := gJ_wU h fun e => gJ_toggle (by have := (nC_at h e).1; have := h.2.2.2.1; omega) h
theorem gJ_rPass {V : XV} {n m : Nat} (h : gJ V n m) (z : Int32) : gJ (rPass V n m z).2 n m := gJ_wU h fun _ => gJ_pa h _
theorem gJ_rAdd {V : XV} {n m : Nat} (h : gJ V n m) (k v : Int32) : ∃ n', gJ (rAdd V n k v).2 n' m := by
  unfold rAdd
  generalize e : addDeviceX V k v = ex
  cases ex with
  | some E => exact ⟨n, h⟩
  | none =>
    obtain ⟨h1, h2⟩ := seqx_n e
    obtain ⟨h2, h3⟩ := seqx_n h2
    have hn : n < 10 := by
      by_cases q : V 0 4 < 10
      · rw [h.1, ti_lt, nI_ti (by have := h.2.1; omega)] at q
        have e1 : (10 : Int32).toInt = 10 := by decide
        omega
      · rw [if_neg q] at h3; cases h3
    exact ⟨n + 1, (gJ_add hn k (nVx_in h2) h).1⟩
theorem gJ_rBegin {V : XV} {n m : Nat} (h : gJ V n m) (t k vs rep : Int32) : gJ (rBegin V m t k vs rep).2 n (m + if 0 ≤ (rBegin V m t k vs rep).1 then 1 else 0) := by
  unfold rBegin
  generalize e : beginX V t k vs rep = ex
  cases ex with
  | some E =>
    show gJ V n (m + if 0 ≤ cdE E then 1 else 0)
    have : ¬ 0 ≤ cdE E := by
      unfold cdE
      split
      · decide
      · split <;> decide
    rw [if_neg this]; exact h
  | none =>
    obtain ⟨h1, h2⟩ := seqx_n e
    obtain ⟨h2, h3⟩ := seqx_n h2
    obtain ⟨h3, h4⟩ := seqx_n h3
    obtain ⟨h4, h5⟩ := seqx_n h4
    have hm : m < 6 := by
      by_cases q : V 0 5 < 6
      · rw [h.2.2.1, ti_lt, nI_ti (by have := h.2.2.2.1; omega)] at q
        have e1 : (6 : Int32).toInt = 6 := by decide
        omega
      · rw [if_neg q] at h5; cases h5
    have hr : rep = -1 ∨ ∃ r, r < m ∧ rep = nI r := by
      by_cases q : rep = -1
      · exact Or.inl q
      · rw [if_neg q] at h2
        exact Or.inr ⟨_, nC_at h h2⟩
    obtain ⟨g1, g2⟩ := gJ_begin hm (nVx_in h1) k vs hr h
    show gJ (beginV V m t k vs rep) n (m + if 0 ≤ beginV V m t k vs rep (19 + m) 0 then 1 else 0)
    rw [g2, if_pos (nI_pos' (by omega))]
    exact g1
theorem gJ_repF {V : XV} {n m : Nat} (h : gJ V n m) (i y : Nat) : ∀ k j, gJ (repF V n i y k j).2 n m := by
  intro k
  induction k with
  | zero => intro j; exact gJ_rReport h _ _
  | succ k ih =>
    intro j
    show gJ (if V (9 + (i + j) % n) 6 = 2 then _ else repF V n i y k (j + 1)).2 n m
    split
    · exact gJ_rReport h _ _
    · exact ih (j + 1)
/-- an act keeps what holds; only a campaign that begins is one more -/
theorem gJ_act1 {V : XV} {n m : Nat} (x : Nat) (h : gJ V n m) : ∃ n', gJ (actF V n m x).2 n' (m + if (11 ≤ x % 32 ∧ x % 32 ≤ 13) ∧ 0 ≤ (actF V n m x).1 then 1 else 0) := by
  have z : ∀ (P : Prop) [Decidable P], ¬ (11 ≤ x % 32 ∧ x % 32 ≤ 13) → (m + if (11 ≤ x % 32 ∧ x % 32 ≤ 13) ∧ P then 1 else 0) = m := fun P _ q => by rw [if_neg (fun w => q w.1)]; rfl
  by_cases c0 : x % 32 = 0
  · rw [show actF V n m x = rAllow V _ _ from if_pos c0, z _ (by omega)]; exact ⟨n, gJ_rAllow h _ _⟩
  by_cases c1 : x % 32 ≤ 2
  · rw [show actF V n m x = rImage V _ _ from (if_neg c0).trans (if_pos c1), z _ (by omega)]; exact ⟨n, gJ_rImage h _ _⟩
  by_cases c2 : x % 32 ≤ 5
  · rw [show actF V n m x = rDelta V _ _ _ from (if_neg c0).trans ((if_neg c1).trans (if_pos c2)), z _ (by omega)]; exact ⟨n, gJ_rDelta h _ _ _⟩
  by_cases c3 : x % 32 ≤ 8
  · rw [show actF V n m x = rAdd V n _ _ from (if_neg c0).trans ((if_neg c1).trans ((if_neg c2).trans (if_pos c3))), z _ (by omega)]; exact gJ_rAdd h _ _
  by_cases c4 : x % 32 ≤ 9
  · rw [show actF V n m x = rCharge V _ _ from (if_neg c0).trans ((if_neg c1).trans ((if_neg c2).trans ((if_neg c3).trans (if_pos c4)))), z _ (by omega)]; exact ⟨n, gJ_rCharge h _ _⟩
  by_cases c5 : x % 32 ≤ 10
  · rw [show actF V n m x = rWindow V _ _ _ from (if_neg c0).trans ((if_neg c1).trans ((if_neg c2).trans ((if_neg c3).trans ((if_neg c4).trans (if_pos c5))))), z _ (by omega)]; exact ⟨n, gJ_rWindow h _ _ _⟩
  by_cases c6 : x % 32 ≤ 13
  · have e : actF V n m x = rBegin V m _ _ _ _ := (if_neg c0).trans ((if_neg c1).trans ((if_neg c2).trans ((if_neg c3).trans ((if_neg c4).trans ((if_neg c5).trans (if_pos c6))))))
    have hc : 11 ≤ x % 32 ∧ x % 32 ≤ 13 := by omega
    rw [e]
    have hb := gJ_rBegin h (nI (x / 32 % 8)) (nI (x / 32 / 8 % 16) ||| nI (x / 32 / 16 % 16)) (if x / 32 / 384 % 2 = 0 then nI 255 else nI (x / 32 / 8 % 256)) (if 0 < x / 32 / 128 % 3 ∨ m = 0 then -1 else nI (iJ m (x / 32)))
    generalize rBegin V m (nI (x / 32 % 8)) (nI (x / 32 / 8 % 16) ||| nI (x / 32 / 16 % 16)) (if x / 32 / 384 % 2 = 0 then nI 255 else nI (x / 32 / 8 % 256)) (if 0 < x / 32 / 128 % 3 ∨ m = 0 then -1 else nI (iJ m (x / 32))) = R at hb ⊢
    refine ⟨n, ?_⟩
    by_cases w : 0 ≤ R.1
    · rw [if_pos w] at hb; rw [if_pos ⟨hc, w⟩]; exact hb
    · rw [if_neg w] at hb; rw [if_neg (fun q => w q.2)]; exact hb
  by_cases c7 : x % 32 ≤ 16
  · rw [show actF V n m x = rRules V _ _ _ _ _ from (if_neg c0).trans ((if_neg c1).trans ((if_neg c2).trans ((if_neg c3).trans ((if_neg c4).trans ((if_neg c5).trans ((if_neg c6).trans (if_pos c7))))))), z _ (by omega)]; exact ⟨n, gJ_rRules h _ _ _ _ _⟩
  by_cases c8 : x % 32 ≤ 17
  · rw [show actF V n m x = rToggle V _ from (if_neg c0).trans ((if_neg c1).trans ((if_neg c2).trans ((if_neg c3).trans ((if_neg c4).trans ((if_neg c5).trans ((if_neg c6).trans ((if_neg c7).trans (if_pos c8)))))))), z _ (by omega)]; exact ⟨n, gJ_rToggle h _⟩
  by_cases c9 : x % 32 ≤ 22
  · rw [show actF V n m x = repF V n _ _ n 0 from (if_neg c0).trans ((if_neg c1).trans ((if_neg c2).trans ((if_neg c3).trans ((if_neg c4).trans ((if_neg c5).trans ((if_neg c6).trans ((if_neg c7).trans ((if_neg c8).trans (if_pos c9))))))))), z _ (by omega)]; exact ⟨n, gJ_repF h _ _ _ _⟩
  · rw [show actF V n m x = rPass V n m _ from (if_neg c0).trans ((if_neg c1).trans ((if_neg c2).trans ((if_neg c3).trans ((if_neg c4).trans ((if_neg c5).trans ((if_neg c6).trans ((if_neg c7).trans ((if_neg c8).trans (if_neg c9))))))))), z _ (by omega)]; exact ⟨n, gJ_rPass h _⟩
theorem nI_gt0 {k : Nat} (hk : k < 2 ^ 31) : 0 < nI k ↔ 0 < k := nI_ltI (a := 0) (by decide) hk
theorem nI_eq0 {k : Nat} (hk : k < 2 ^ 31) : nI k = 0 ↔ k = 0 := nI_eq (b := 0) hk (by decide)
theorem rPass_eq (V : XV) (n m : Nat) {k : Nat} (h1 : 1 ≤ k) (h2 : k ≤ 100) : rPass V n m (nI k) = (paT V n m k, paV V n m k) := by
  have e : nRx (nI k) 1 100 = none := by
    have e1 : (1 : Int32).toInt = 1 := by decide
    have e2 : (100 : Int32).toInt = 100 := by decide
    rcases nRx_T (nI k) 1 100 with ⟨q, _⟩ | ⟨_, q⟩
    · exact q
    · rw [nI_ti (by omega), e1, e2] at q; omega
  unfold rPass
  rw [e, nI_clamp (by omega)]
  rfl
/-! ===== END acts ===== -/
