/-! ===== BEGIN math3: the walk over all ways finds the least cost ===== -/
theorem bb_amt : ∀ m, m < 32 → ((nI m &&& 31).toBitVec.smod 32).toNat = m := by decide +kernel
theorem bb_one (y : BitVec 32) : (y &&& 1#32 = 1#32) ↔ y.getLsbD 0 = true := by
  constructor
  · intro h
    have h2 := congrArg (fun z : BitVec 32 => z.getLsbD 0) h
    simpa using h2
  · intro h
    apply BitVec.eq_of_getLsbD_eq
    intro i hi
    rw [BitVec.getLsbD_and]
    cases i with
    | zero => rw [h]; rfl
    | succ i => simp [BitVec.getLsbD_one]
theorem hasB_bit (x : Int32) {m : Nat} (hm : m < 32) : hasB x (nI m) = x.toBitVec.getLsbD m := by
  have e1 : ((x >>> (nI m &&& 31)) &&& 1 = 1) ↔ ((x >>> (nI m &&& 31)).toBitVec &&& 1#32 = 1#32) := by
    rw [← Int32.toBitVec_inj, Int32.toBitVec_and]; exact Iff.rfl
  have e2 : (x >>> (nI m &&& 31)).toBitVec.getLsbD 0 = x.toBitVec.getLsbD m := by
    rw [Int32.toBitVec_shiftRight]
    show (x.toBitVec.sshiftRight ((nI m &&& 31).toBitVec.smod 32).toNat).getLsbD 0 = _
    rw [bb_amt m hm, BitVec.getLsbD_sshiftRight]
    simp [hm]
  unfold hasB
  rw [← e2]
  cases h : (x >>> (nI m &&& 31)).toBitVec.getLsbD 0 with
  | true => exact decide_eq_true (e1.mpr ((bb_one _).mpr h))
  | false => exact decide_eq_false (fun z => by have := (bb_one _).mp (e1.mp z); rw [h] at this; cases this)
theorem bb_pow : ∀ n, n < 32 → ((1 : Int32) <<< (nI n &&& 31)).toBitVec = BitVec.twoPow 32 n := by decide +kernel
theorem hasB_pow {n m : Nat} (hn : n < 32) (hm : m < 32) : hasB ((1 : Int32) <<< (nI n &&& 31)) (nI m) = decide (m = n) := by
  rw [hasB_bit _ hm, bb_pow n hn, BitVec.getLsbD_twoPow]
  by_cases h : m = n
  · subst h; simp [hm]
  · simp [h]; omega
theorem hasB_or (x : Int32) {n m : Nat} (hn : n < 32) (hm : m < 32) : hasB (x ||| ((1 : Int32) <<< (nI n &&& 31))) (nI m) = (hasB x (nI m) || decide (m = n)) := by
  rw [hasB_bit _ hm, hasB_bit _ hm, Int32.toBitVec_or, BitVec.getLsbD_or, ← hasB_pow hn hm, hasB_bit _ hm]
def frN (p : Nat → Bool) : Nat → Nat
  | 0 => 0
  | n + 1 => frN p n + (if p n = true then 0 else 1)
theorem frN_le {p q : Nat → Bool} (h : ∀ k, p k = true → q k = true) : ∀ n, frN q n ≤ frN p n := by
  intro n
  induction n with
  | zero => exact Nat.le_refl _
  | succ n ih =>
    show frN q n + (if q n = true then 0 else 1) ≤ frN p n + (if p n = true then 0 else 1)
    by_cases hp : p n = true
    · rw [if_pos hp, if_pos (h n hp)]; omega
    · rw [if_neg hp]; split <;> omega
theorem frN_lt {p q : Nat → Bool} (h : ∀ k, p k = true → q k = true) {m : Nat} (h1 : p m = false) (h2 : q m = true) : ∀ n, m < n → frN q n + 1 ≤ frN p n := by
  intro n
  induction n with
  | zero => intro hm; exact absurd hm (Nat.not_lt_zero m)
  | succ n ih =>
    intro hm
    show frN q n + (if q n = true then 0 else 1) + 1 ≤ frN p n + (if p n = true then 0 else 1)
    by_cases e : m = n
    · subst e
      have := frN_le h m
      rw [if_pos h2, if_neg (by rw [h1]; exact Bool.false_ne_true)]; omega
    · have := ih (by omega)
      by_cases hp : p n = true
      · rw [if_pos hp, if_pos (h n hp)]; omega
      · rw [if_neg hp]; split <;> omega
theorem frN_bd (p : Nat → Bool) : ∀ n, frN p n ≤ n := by
  intro n
  induction n with
  | zero => exact Nat.le_refl _
  | succ n ih => show frN p n + (if p n = true then 0 else 1) ≤ n + 1; split <;> omega
def gMet (met : Int32) (n : Nat) : Bool := hasB met (nI n)
theorem cE_in (V : XV) {i j : Nat} (hi : i < 8) (hj : j < 8) : cE V i j = (V (25 + i) j).toInt := if_pos ⟨hi, hj⟩
theorem laL_T (V : XV) (hE : gE (cE V)) {at_ : Nat} (ha : at_ < 8) (to_ : Nat) (rc : Nat → Int32 → Int32) (met : Int32) (hrc : ∀ q m, q < 8 → 0 ≤ (rc q m).toInt ∧ (rc q m).toInt ≤ 1000000 ∧ ((rc q m).toInt = 1000000 ∨ aR (cE V) q to_ (rc q m).toInt)) : ∀ n, n ≤ 8 → 0 ≤ (laL V rc at_ met n).toInt ∧ (laL V rc at_ met n).toInt ≤ 1000000 ∧ ((laL V rc at_ met n).toInt = 1000000 ∨ aR (cE V) at_ to_ (laL V rc at_ met n).toInt) ∧ ∀ q, q < n → gMet met q = false → cE V at_ q ≠ -1 → (laL V rc at_ met n).toInt ≤ cE V at_ q + (rc q (met ||| ((1 : Int32) <<< (nI q &&& 31)))).toInt := by
  intro n
  induction n with
  | zero =>
    intro _
    have e : (laL V rc at_ met 0).toInt = 1000000 := ti_F
    rw [e]
    exact ⟨by omega, by omega, Or.inl rfl, fun q h => absurd h (Nat.not_lt_zero q)⟩
  | succ n ih =>
    intro hn
    obtain ⟨h0, h1, h2, h3⟩ := ih (by omega)
    by_cases hm : hasB met (nI n) = true
    · have e : laL V rc at_ met (n + 1) = laL V rc at_ met n := if_pos hm
      rw [e]
      refine ⟨h0, h1, h2, fun q hq hg hne => ?_⟩
      by_cases hqn : q = n
      · subst hqn; unfold gMet at hg; rw [hm] at hg; cases hg
      · exact h3 q (by omega) hg hne
    · by_cases hv : V (25 + at_) n = -1
      · have e : laL V rc at_ met (n + 1) = laL V rc at_ met n := (if_neg hm).trans (if_pos hv)
        rw [e]
        refine ⟨h0, h1, h2, fun q hq hg hne => ?_⟩
        by_cases hqn : q = n
        · subst hqn; rw [cE_in V ha (by omega), (ti_ne1 _).mp hv] at hne; exact absurd rfl hne
        · exact h3 q (by omega) hg hne
      · have e : laL V rc at_ met (n + 1) = minI (laL V rc at_ met n) (V (25 + at_) n + rc n (met ||| ((1 : Int32) <<< (nI n &&& 31)))) := (if_neg hm).trans (if_neg hv)
        obtain ⟨r0, r1, r2⟩ := hrc n (met ||| ((1 : Int32) <<< (nI n &&& 31))) (by omega)
        have hne : cE V at_ n ≠ -1 := by rw [cE_in V ha (by omega)]; exact fun z => hv ((ti_ne1 _).mpr z)
        have hb := gE_of hE hne
        have hc := cE_in V ha (show n < 8 by omega)
        have es : (V (25 + at_) n + rc n (met ||| ((1 : Int32) <<< (nI n &&& 31)))).toInt = cE V at_ n + (rc n (met ||| ((1 : Int32) <<< (nI n &&& 31)))).toInt := by
          rw [hc]; rw [hc] at hb
          exact ti_add (by omega) (by omega) (by omega) (by omega)
        rw [e, ti_min, es]
        by_cases hlt : cE V at_ n + (rc n (met ||| ((1 : Int32) <<< (nI n &&& 31)))).toInt < (laL V rc at_ met n).toInt
        · rw [if_pos hlt]
          refine ⟨by omega, by omega, Or.inr (aR_app (aR_edge hne) (r2.resolve_left (by omega))), fun q hq hg hne => ?_⟩
          by_cases hqn : q = n
          · subst hqn; exact Int.le_refl _
          · have := h3 q (by omega) hg hne; omega
        · rw [if_neg hlt]
          refine ⟨h0, h1, h2, fun q hq hg hne => ?_⟩
          by_cases hqn : q = n
          · subst hqn; omega
          · exact h3 q (by omega) hg hne
theorem la_T (V : XV) (hE : gE (cE V)) (to_ : Nat) : ∀ k at_ met, at_ < 8 → 0 ≤ (la V to_ k at_ met).toInt ∧ (la V to_ k at_ met).toInt ≤ 1000000 ∧ ((la V to_ k at_ met).toInt = 1000000 ∨ aR (cE V) at_ to_ (la V to_ k at_ met).toInt) := by
  intro k
  induction k with
  | zero =>
    intro at_ met ha
    by_cases h : at_ = to_
    · have e : (la V to_ 0 at_ met).toInt = 0 := by show (if at_ = to_ then (0 : Int32) else 1000000).toInt = 0; rw [if_pos h, ti_0]
      rw [e]; subst h; exact ⟨by omega, by omega, Or.inr (aR_0 _ _)⟩
    · have e : (la V to_ 0 at_ met).toInt = 1000000 := by show (if at_ = to_ then (0 : Int32) else 1000000).toInt = _; rw [if_neg h, ti_F]
      rw [e]; exact ⟨by omega, by omega, Or.inl rfl⟩
  | succ k ih =>
    intro at_ met ha
    by_cases h : at_ = to_
    · have e : la V to_ (k + 1) at_ met = 0 := if_pos h
      rw [e, ti_0]; subst h; exact ⟨by omega, by omega, Or.inr (aR_0 _ _)⟩
    · have e : la V to_ (k + 1) at_ met = laL V (la V to_ k) at_ met 8 := if_neg h
      obtain ⟨h0, h1, h2, _⟩ := laL_T V hE ha to_ (la V to_ k) met (fun q m hq => ih q m hq) 8 (Nat.le_refl 8)
      rw [e]; exact ⟨h0, h1, h2⟩
theorem la_self (V : XV) (to_ k : Nat) (met : Int32) : la V to_ k to_ met = 0 := by
  cases k with
  | zero => exact if_pos rfl
  | succ k => exact if_pos rfl
theorem la_L (V : XV) (hE : gE (cE V)) {to_ : Nat} (ht : to_ < 8) : ∀ k at_ met, at_ < 8 → at_ ≠ to_ → gMet met to_ = false → frN (gMet met) 8 ≤ k → ∀ n c, wM (cE V) (fun m => m < 8 ∧ gMet met m = false ∧ m ≠ to_) n at_ to_ c → (la V to_ k at_ met).toInt ≤ c := by
  intro k
  induction k with
  | zero =>
    intro at_ met ha hne hg hf n c hw
    have h1 := frN_lt (p := gMet met) (q := fun _ => true) (fun _ _ => rfl) hg rfl 8 ht
    omega
  | succ k ih =>
    intro at_ met ha hne hg hf n c hw
    have e : la V to_ (k + 1) at_ met = laL V (la V to_ k) at_ met 8 := if_neg hne
    obtain ⟨_, _, _, h3⟩ := laL_T V hE ha to_ (la V to_ k) met (fun q m hq => la_T V hE to_ k q m hq) 8 (Nat.le_refl 8)
    rw [e]
    cases n with
    | zero =>
      obtain ⟨h5, h6⟩ := hw
      have := h3 to_ ht hg h5
      rw [la_self, ti_0] at this
      omega
    | succ n =>
      obtain ⟨m, c', ⟨hm8, hmg, hmt⟩, h5, h6, h7⟩ := hw
      obtain ⟨n2, c2, h8, h9⟩ := wM_avoid hE n m to_ c' h6
      have h10 := h3 m hm8 hmg h5
      have gm : ∀ q, q < 8 → gMet (met ||| ((1 : Int32) <<< (nI m &&& 31))) q = (gMet met q || decide (q = m)) := fun q hq => hasB_or met (by omega) (by omega)
      have hfr : frN (gMet (met ||| ((1 : Int32) <<< (nI m &&& 31)))) 8 + 1 ≤ frN (gMet met) 8 := by
        have e1 : frN (gMet (met ||| ((1 : Int32) <<< (nI m &&& 31)))) 8 = frN (fun q => gMet met q || decide (q = m)) 8 := by
          show _ + _ + _ + _ + _ + _ + _ + _ + _ = _
          rw [gm 0 (by omega), gm 1 (by omega), gm 2 (by omega), gm 3 (by omega), gm 4 (by omega), gm 5 (by omega), gm 6 (by omega), gm 7 (by omega)]; rfl
        rw [e1]
        exact frN_lt (fun q hq => by rw [hq]; rfl) hmg (by simp) 8 hm8
      have h11 := ih m (met ||| ((1 : Int32) <<< (nI m &&& 31))) hm8 hmt (by rw [gm to_ ht, hg]; simp; exact fun z => hmt z.symm) (by omega) n2 c2 (wM_mono (fun q hq => by
        obtain ⟨⟨q8, qg, qt⟩, qm⟩ := hq
        exact ⟨q8, by rw [gm q q8, qg]; simp [qm], qt⟩) _ _ _ _ h9)
      omega
theorem la_min (V : XV) (hE : gE (cE V)) {v t : Nat} (hv : v < 8) (ht : t < 8) (x : Int32) (hx : x = la V t 8 v ((1 : Int32) <<< (nI v &&& 31))) : 0 ≤ x.toInt ∧ x.toInt ≤ 1000000 ∧ (x.toInt = 1000000 ∨ aR (cE V) v t x.toInt) ∧ ∀ c, aR (cE V) v t c → x.toInt ≤ c := by
  obtain ⟨h0, h1, h2⟩ := la_T V hE t 8 v ((1 : Int32) <<< (nI v &&& 31)) hv
  rw [← hx] at h0 h1 h2
  refine ⟨h0, h1, h2, fun c hc => ?_⟩
  by_cases hvt : v = t
  · subst hvt
    rw [hx, la_self, ti_0]; exact aR_nonneg hE hc
  · obtain ⟨n, hc⟩ := hc
    rcases aR_cases hE n v t c hc with ⟨h3, _⟩ | ⟨n', h3⟩
    · exact absurd h3 hvt
    · obtain ⟨n2, c2, h4, h5⟩ := wM_avoid hE n' v t c h3
      obtain ⟨n3, c3, h6, h7⟩ := wM_to hE n2 v t c2 h5
      have gm : ∀ q, q < 8 → gMet ((1 : Int32) <<< (nI v &&& 31)) q = decide (q = v) := fun q hq => hasB_pow (by omega) (by omega)
      have h8 := la_L V hE ht 8 v ((1 : Int32) <<< (nI v &&& 31)) hv hvt (by rw [gm t ht]; simp; exact fun z => hvt z.symm) (frN_bd _ 8) n3 c3 (wM_mono (fun q hq => by
        obtain ⟨⟨q8, qv⟩, qt⟩ := hq
        exact ⟨q8, by rw [gm q q8]; simp [qv], qt⟩) _ _ _ _ h7)
      rw [hx]; omega
theorem awL_T (V : XV) (hE : gE (cE V)) (hI : gI (cIm V)) {f t : Nat} (hf : f < 8) (ht : t < 8) : ∀ n, n ≤ 8 → 0 ≤ (awL V t f n).toInt ∧ (awL V t f n).toInt ≤ 1000000 ∧ ((awL V t f n).toInt = 1000000 ∨ cost (cE V) (cIm V) f t (awL V t f n).toInt) ∧ (∀ c, aR (cE V) f t c → (awL V t f n).toInt ≤ c) ∧ ∀ v c, v < n → cIm V v ≠ -1 → aR (cE V) v t c → (awL V t f n).toInt ≤ cIm V v + c := by
  intro n
  induction n with
  | zero =>
    intro _
    obtain ⟨h0, h1, h2, h3⟩ := la_min V hE hf ht (awL V t f 0) rfl
    exact ⟨h0, h1, h2.imp id Or.inl, h3, fun v c h => absurd h (Nat.not_lt_zero v)⟩
  | succ n ih =>
    intro hn
    obtain ⟨h0, h1, h2, h3, h4⟩ := ih (by omega)
    have hc : cIm V n = (V 5 n).toInt := if_pos (show n < 8 by omega)
    by_cases hv : V 5 n = -1
    · have e : awL V t f (n + 1) = awL V t f n := if_pos hv
      rw [e]
      refine ⟨h0, h1, h2, h3, fun v c hvn hvi hr => ?_⟩
      by_cases hq : v = n
      · subst hq; rw [hc, (ti_ne1 _).mp hv] at hvi; exact absurd rfl hvi
      · exact h4 v c (by omega) hvi hr
    · have e : awL V t f (n + 1) = minI (awL V t f n) (V 5 n + la V t 8 n ((1 : Int32) <<< (nI n &&& 31))) := if_neg hv
      have hne : cIm V n ≠ -1 := by rw [hc]; exact fun z => hv ((ti_ne1 _).mpr z)
      have hb := (hI n).resolve_left hne
      obtain ⟨r0, r1, r2, r3⟩ := la_min V hE (show n < 8 by omega) ht _ rfl
      have es : (V 5 n + la V t 8 n ((1 : Int32) <<< (nI n &&& 31))).toInt = cIm V n + (la V t 8 n ((1 : Int32) <<< (nI n &&& 31))).toInt := by
        rw [hc]; rw [hc] at hb
        exact ti_add (by omega) (by omega) (by omega) (by omega)
      rw [e, ti_min, es]
      by_cases hlt : cIm V n + (la V t 8 n ((1 : Int32) <<< (nI n &&& 31))).toInt < (awL V t f n).toInt
      · rw [if_pos hlt]
        refine ⟨by omega, by omega, Or.inr (Or.inr ⟨n, _, hne, r2.resolve_left (by omega), rfl⟩), fun c hr => ?_, fun v c hvn hvi hr => ?_⟩
        · have := h3 c hr; omega
        · by_cases hq : v = n
          · subst hq; have := r3 c hr; omega
          · have := h4 v c (by omega) hvi hr; omega
      · rw [if_neg hlt]
        refine ⟨h0, h1, h2, h3, fun v c hvn hvi hr => ?_⟩
        by_cases hq : v = n
        · subst hq; have := r3 c hr; omega
        · exact h4 v c (by omega) hvi hr
theorem aw_min {V : XV} (hE : gE (cE V)) (hI : gI (cIm V)) {f t : Nat} (hf : f < 8) (ht : t < 8) : isMin (cE V) (cIm V) 1000000 f t (awL V t f 8).toInt := by
  obtain ⟨h0, h1, h2, h3, h4⟩ := awL_T V hE hI hf ht 8 (Nat.le_refl 8)
  refine ⟨h0, h1, fun c hc => ?_, h2⟩
  rcases hc with hc | ⟨v, c', hv, hr, hc⟩
  · exact h3 c hc
  · have := h4 v c' ((hI v).resolve_left hv).1 hv hr; omega
theorem orNone_T (x : Int32) : (orNoneI x).toInt = if x.toInt < 1000000 then x.toInt else -1 := by
  unfold orNoneI
  by_cases h : x < 1000000
  · rw [if_pos h, if_pos (by rw [ti_lt, ti_F] at h; exact h)]
  · rw [if_neg h, if_neg (by rw [ti_lt, ti_F] at h; exact h), ti_m1]
/-- the two answers of the class agree -/
theorem aw_lb {V : XV} (hE : gE (cE V)) (hI : gI (cIm V)) (h : tOK V) {f t : Int32} (hf : vp_in f 8) (ht : vp_in t 8) : awI V f.toNatClampNeg t.toNatClampNeg = lbI V f t := by
  have hfn := nI_of_in hf (by omega)
  have htn := nI_of_in ht (by omega)
  unfold awI lbI
  have hc : f.toNatClampNeg = t.toNatClampNeg ↔ f = t := by
    constructor
    · intro z; rw [hfn, htn, z]
    · intro z; rw [z]
  by_cases e : f = t
  · rw [if_pos e, if_pos (hc.mpr e)]
  · rw [if_neg e, if_neg (fun z => e (hc.mp z)), ti_eq, orNone_T, orNone_T]
    exact isMin_eq hE hI (by omega) (by omega) (aw_min hE hI (vp_at hf) (vp_at ht)) (lb_min hE hI h (vp_at hf) (vp_at ht))
/-! ===== END math3 ===== -/
