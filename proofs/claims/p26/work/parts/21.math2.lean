/-! ===== BEGIN math2: the tables that measure makes hold the least costs ===== -/
def cE (V : XV) (i j : Nat) : Int := if i < 8 ∧ j < 8 then (V (25 + i) j).toInt else -1
def cIm (V : XV) (v : Nat) : Int := if v < 8 then (V 5 v).toInt else -1
def fT (U : XV) (i j : Nat) : Int := (U (33 + i) j).toInt
def fOK (E : Nat → Nat → Int) (U : XV) : Prop := ∀ i j, i < 8 → j < 8 → 0 ≤ fT U i j ∧ fT U i j ≤ 1000000 ∧ (fT U i j = 1000000 ∨ aR E i j (fT U i j)) ∧ (i = j → fT U i j = 0)
def fMo (U U' : XV) : Prop := ∀ i j, fT U' i j ≤ fT U i j
theorem fMo_r (U : XV) : fMo U U := fun _ _ => Int.le_refl _
theorem fMo_t {U U' U2 : XV} (h : fMo U U') (h2 : fMo U' U2) : fMo U U2 := fun i j => Int.le_trans (h2 i j) (h i j)
theorem mvStep_T {E : Nat → Nat → Int} {U : XV} (hE : gE E) (hU : fOK E U) {v i j : Nat} (hv : v < 8) (hi : i < 8) (hj : j < 8) : fOK E (mvStep U v i j) ∧ fMo U (mvStep U v i j) ∧ fT (mvStep U v i j) i j ≤ fT U i v + fT U v j := by
  obtain ⟨a0, a1, a2, a3⟩ := hU i j hi hj
  obtain ⟨b0, b1, b2, b3⟩ := hU i v hi hv
  obtain ⟨c0, c1, c2, c3⟩ := hU v j hv hj
  have e0 : (U (33 + i) v + U (33 + v) j).toInt = fT U i v + fT U v j := by
    unfold fT at *
    exact ti_add (by omega) (by omega) (by omega) (by omega)
  have e : fT (mvStep U v i j) i j = if fT U i v + fT U v j < fT U i j then fT U i v + fT U v j else fT U i j := by
    unfold mvStep
    show (xs _ _ _ _ (33 + i) j).toInt = _
    rw [xs_self, ti_min, e0]; rfl
  have eo : ∀ i' j', ¬ (i' = i ∧ j' = j) → fT (mvStep U v i j) i' j' = fT U i' j' := by
    intro i' j' h
    unfold mvStep fT
    rw [xs_get _ _ (by omega)]
  refine ⟨?_, ?_, ?_⟩
  · intro i' j' hi' hj'
    by_cases h : i' = i ∧ j' = j
    · obtain ⟨h1, h2⟩ := h
      subst h1; subst h2
      rw [e]
      by_cases hlt : fT U i' v + fT U v j' < fT U i' j'
      · rw [if_pos hlt]
        refine ⟨by omega, by omega, Or.inr ?_, fun z => ?_⟩
        · exact aR_app (b2.resolve_left (by omega)) (c2.resolve_left (by omega))
        · have := a3 z; omega
      · rw [if_neg hlt]; exact ⟨a0, a1, a2, a3⟩
    · rw [eo i' j' h]; exact hU i' j' hi' hj'
  · intro i' j'
    by_cases h : i' = i ∧ j' = j
    · obtain ⟨h1, h2⟩ := h
      subst h1; subst h2
      rw [e]
      split <;> omega
    · rw [eo i' j' h]; exact Int.le_refl _
  · rw [e]
    split <;> omega
theorem mvIn_T {E : Nat → Nat → Int} {U : XV} (hE : gE E) (hU : fOK E U) {v i : Nat} (hv : v < 8) (hi : i < 8) : ∀ n, n ≤ 8 → fOK E (mvIn U v i n) ∧ fMo U (mvIn U v i n) ∧ ∀ j, j < n → fT (mvIn U v i n) i j ≤ fT U i v + fT U v j := by
  intro n
  induction n with
  | zero => intro _; exact ⟨hU, fMo_r U, fun j h => absurd h (Nat.not_lt_zero j)⟩
  | succ n ih =>
    intro hn
    obtain ⟨h1, h2, h3⟩ := ih (by omega)
    obtain ⟨g1, g2, g3⟩ := mvStep_T hE h1 hv hi (show n < 8 by omega)
    refine ⟨g1, fMo_t h2 g2, fun j hj => ?_⟩
    by_cases h : j = n
    · subst h
      have := h2 i v
      have := h2 v j
      exact Int.le_trans g3 (by omega)
    · exact Int.le_trans (g2 i j) (h3 j (by omega))
theorem mvOut_T {E : Nat → Nat → Int} {U : XV} (hE : gE E) (hU : fOK E U) {v : Nat} (hv : v < 8) : ∀ n, n ≤ 8 → fOK E (mvOut U v n) ∧ fMo U (mvOut U v n) ∧ ∀ i j, i < n → j < 8 → fT (mvOut U v n) i j ≤ fT U i v + fT U v j := by
  intro n
  induction n with
  | zero => intro _; exact ⟨hU, fMo_r U, fun i j h => absurd h (Nat.not_lt_zero i)⟩
  | succ n ih =>
    intro hn
    obtain ⟨h1, h2, h3⟩ := ih (by omega)
    obtain ⟨g1, g2, g3⟩ := mvIn_T hE h1 hv (show n < 8 by omega) 8 (Nat.le_refl 8)
    refine ⟨g1, fMo_t h2 g2, fun i j hi hj => ?_⟩
    by_cases h : i = n
    · subst h
      have := h2 i v
      have := h2 v j
      exact Int.le_trans (g3 j hj) (by omega)
    · exact Int.le_trans (g2 i j) (h3 i j (by omega) hj)
def fLE (E : Nat → Nat → Int) (M : Nat → Prop) (U : XV) : Prop := ∀ n i j c, wM E M n i j c → fT U i j ≤ c
theorem m2_T {E : Nat → Nat → Int} {U : XV} (hE : gE E) (hU : fOK E U) (h0 : fLE E (fun _ => False) U) : ∀ n, n ≤ 8 → fOK E (m2Out U n) ∧ fLE E (fun m => m < n) (m2Out U n) := by
  intro n
  induction n with
  | zero => intro _; exact ⟨hU, fun n i j c h => h0 n i j c (wM_mono (fun m hm => absurd hm (Nat.not_lt_zero m)) n i j c h)⟩
  | succ n ih =>
    intro hn
    obtain ⟨h1, h2⟩ := ih (by omega)
    obtain ⟨g1, g2, g3⟩ := mvOut_T hE h1 (show n < 8 by omega) 8 (Nat.le_refl 8)
    refine ⟨g1, fun q i j c hw => ?_⟩
    have hb := wM_bd hE q i j c hw
    rcases wM_split hE n q i j c hw with ⟨n', hn'⟩ | ⟨n1, c1, n2, c2, p1, p2, p3⟩
    · exact Int.le_trans (g2 i j) (h2 n' i j c (wM_mono (fun m hm => by omega) _ _ _ _ hn'))
    · have q1 := h2 n1 i n c1 (wM_mono (fun m hm => by omega) _ _ _ _ p1)
      have q2 := h2 n2 n j c2 (wM_mono (fun m hm => by omega) _ _ _ _ p2)
      exact Int.le_trans (g3 i j hb.1 hb.2) (by omega)
theorem m1In_at (V : XV) {i : Nat} (hi : i < 8) : ∀ n, n ≤ 8 → ∀ p k, m1In V i n p k = if p = 33 + i ∧ k < n then (if i = k then 0 else orFarI (V (25 + i) k)) else V p k := by
  intro n
  induction n with
  | zero => intro _ p k; rw [if_neg (by omega)]; rfl
  | succ n ih =>
    intro hn p k
    have h := ih (by omega)
    show xs (m1In V i n) (33 + i) n (if i = n then 0 else orFarI (m1In V i n (25 + i) n)) p k = _
    have e0 : m1In V i n (25 + i) n = V (25 + i) n := by rw [h, if_neg (by omega)]
    rw [e0, xs_eq]
    by_cases h1 : p = 33 + i ∧ k = n
    · obtain ⟨h2, h3⟩ := h1
      subst h3
      rw [if_pos ⟨h2, rfl⟩, if_pos (show p = 33 + i ∧ k < k + 1 from ⟨h2, by omega⟩)]
    · rw [if_neg h1, h p k]
      by_cases h2 : p = 33 + i ∧ k < n
      · rw [if_pos h2, if_pos (show p = 33 + i ∧ k < n + 1 from ⟨h2.1, by omega⟩)]
      · rw [if_neg h2, if_neg (by omega)]
theorem m1Out_at (V : XV) : ∀ n, n ≤ 8 → ∀ p k, m1Out V n p k = if 33 ≤ p ∧ p < 33 + n ∧ k < 8 then (if p - 33 = k then 0 else orFarI (V (p - 8) k)) else V p k := by
  intro n
  induction n with
  | zero => intro _ p k; rw [if_neg (by omega)]; rfl
  | succ n ih =>
    intro hn p k
    have h := ih (by omega)
    show m1In (m1Out V n) n 8 p k = _
    rw [m1In_at _ (show n < 8 by omega) 8 (Nat.le_refl 8) p k]
    by_cases h1 : p = 33 + n ∧ k < 8
    · have e0 : m1Out V n (25 + n) k = V (25 + n) k := by rw [h, if_neg (by omega)]
      rw [if_pos h1, e0, if_pos (show 33 ≤ p ∧ p < 33 + (n + 1) ∧ k < 8 by omega), show p - 33 = n by omega, show p - 8 = 25 + n by omega]
    · rw [if_neg h1, h p k]
      by_cases h2 : 33 ≤ p ∧ p < 33 + n ∧ k < 8
      · rw [if_pos h2, if_pos (show 33 ≤ p ∧ p < 33 + (n + 1) ∧ k < 8 by omega)]
      · rw [if_neg h2, if_neg (by omega)]
theorem mvIn_fr (V : XV) (v i : Nat) {p : Nat} (hp : p < 33) (k : Nat) : ∀ n, mvIn V v i n p k = V p k := by
  intro n
  induction n with
  | zero => rfl
  | succ n ih => show mvStep (mvIn V v i n) v i n p k = _; unfold mvStep; rw [xs_get _ _ (by omega), ih]
theorem mvOut_fr (V : XV) (v : Nat) {p : Nat} (hp : p < 33) (k : Nat) : ∀ n, mvOut V v n p k = V p k := by
  intro n
  induction n with
  | zero => rfl
  | succ n ih => show mvIn (mvOut V v n) v n 8 p k = _; rw [mvIn_fr _ _ _ hp, ih]
theorem m2Out_fr (V : XV) {p : Nat} (hp : p < 33) (k : Nat) : ∀ n, m2Out V n p k = V p k := by
  intro n
  induction n with
  | zero => rfl
  | succ n ih => show mvOut (m2Out V n) n 8 p k = _; rw [mvOut_fr _ _ hp, ih]
theorem m3In_fr (V : XV) (j : Nat) {p : Nat} (k : Nat) (hp : ¬ (p = 8 ∧ k = j)) : ∀ n, m3In V j n p k = V p k := by
  intro n
  induction n with
  | zero => rfl
  | succ n ih => show m3Step (m3In V j n) j n p k = _; unfold m3Step; rw [xs_get _ _ hp, ih]
theorem m3Out_fr (V : XV) {p : Nat} (k : Nat) : ∀ n, (¬ (p = 8 ∧ k < n)) → m3Out V n p k = V p k := by
  intro n
  induction n with
  | zero => intro _; rfl
  | succ n ih => intro h; show m3In (xs (m3Out V n) 8 n 1000000) n 8 p k = _; rw [m3In_fr _ _ _ (by omega), xs_get _ _ (by omega), ih (by omega)]
theorem measV_fr (V : XV) {p : Nat} (hp : p < 33) (h8 : p ≠ 8) (k : Nat) : measV V p k = V p k := by
  unfold measV
  rw [m3Out_fr _ _ _ (by omega), m2Out_fr _ hp, m1Out_at V 8 (Nat.le_refl 8), if_neg (by omega)]
theorem orFar_T (x : Int32) : (orFarI x).toInt = if x.toInt = -1 then 1000000 else x.toInt := by
  unfold orFarI
  by_cases h : x = -1
  · rw [if_pos h, if_pos ((ti_ne1 x).mp h), ti_F]
  · rw [if_neg h, if_neg (fun z => h ((ti_ne1 x).mpr z))]
theorem m1_T (V : XV) {i j : Nat} (hi : i < 8) (hj : j < 8) : fT (m1Out V 8) i j = if i = j then 0 else if cE V i j = -1 then 1000000 else cE V i j := by
  unfold fT cE
  have hc : i < 8 ∧ j < 8 := ⟨hi, hj⟩
  rw [m1Out_at V 8 (Nat.le_refl 8), if_pos (show 33 ≤ 33 + i ∧ 33 + i < 33 + 8 ∧ j < 8 by omega), if_pos hc, show 33 + i - 33 = i by omega, show 33 + i - 8 = 25 + i by omega]
  by_cases h : i = j
  · rw [if_pos h, if_pos h]; rfl
  · rw [if_neg h, if_neg h, orFar_T]
theorem m1_OK (V : XV) (hE : gE (cE V)) : fOK (cE V) (m1Out V 8) ∧ fLE (cE V) (fun _ => False) (m1Out V 8) := by
  constructor
  · intro i j hi hj
    rw [m1_T V hi hj]
    by_cases h : i = j
    · rw [if_pos h]; subst h; exact ⟨by omega, by omega, Or.inr (aR_0 _ i), fun _ => rfl⟩
    · rw [if_neg h]
      by_cases h2 : cE V i j = -1
      · rw [if_pos h2]; exact ⟨by omega, by omega, Or.inl rfl, fun z => absurd z h⟩
      · rw [if_neg h2]
        have := gE_of hE h2
        exact ⟨by omega, by omega, Or.inr (aR_edge h2), fun z => absurd z h⟩
  · intro n i j c hw
    have hb := wM_bd hE n i j c hw
    cases n with
    | zero =>
      obtain ⟨h2, h3⟩ := hw
      have := gE_of hE h2
      rw [m1_T V hb.1 hb.2, if_neg h2]
      split <;> omega
    | succ n => obtain ⟨m, c', h1, _⟩ := hw; exact h1.elim
/-- what the table by deltas holds once measured -/
theorem fw_T (V : XV) (hE : gE (cE V)) : fOK (cE V) (m2Out (m1Out V 8) 8) ∧ ∀ i j c, i < 8 → j < 8 → aR (cE V) i j c → fT (m2Out (m1Out V 8) 8) i j ≤ c := by
  obtain ⟨h1, h2⟩ := m1_OK V hE
  obtain ⟨g1, g2⟩ := m2_T hE h1 h2 8 (Nat.le_refl 8)
  refine ⟨g1, fun i j c hi hj h => ?_⟩
  obtain ⟨n, h⟩ := h
  rcases aR_cases hE n i j c h with ⟨h3, h4⟩ | ⟨n', h3⟩
  · have := (g1 i j hi hj).2.2.2 h3; omega
  · exact g2 n' i j c h3
/-- the row by images, after its first n images -/
theorem m3In_T (W : XV) (I : Nat → Int) (E : Nat → Nat → Int) (hI : gI I) (hIW : ∀ v, v < 8 → (W 5 v).toInt = I v) (hW : fOK E W) {j : Nat} (hj : j < 8) (hF : W 8 j = 1000000) : ∀ n, n ≤ 8 → 0 ≤ (m3In W j n 8 j).toInt ∧ (m3In W j n 8 j).toInt ≤ 1000000 ∧ ((m3In W j n 8 j).toInt = 1000000 ∨ ∃ v, v < 8 ∧ I v ≠ -1 ∧ fT W v j < 1000000 ∧ (m3In W j n 8 j).toInt = I v + fT W v j) ∧ ∀ v, v < n → I v ≠ -1 → (m3In W j n 8 j).toInt ≤ I v + fT W v j := by
  intro n
  induction n with
  | zero =>
    intro _
    have e : (m3In W j 0 8 j).toInt = 1000000 := by show (W 8 j).toInt = _; rw [hF, ti_F]
    rw [e]
    exact ⟨by omega, by omega, Or.inl rfl, fun v h => absurd h (Nat.not_lt_zero v)⟩
  | succ n ih =>
    intro hn
    obtain ⟨h0, h1, h2, h3⟩ := ih (by omega)
    have hf := hW n j (by omega) hj
    have e5 : m3In W j n 5 n = W 5 n := m3In_fr _ _ _ (by omega) n
    have e33 : m3In W j n (33 + n) j = W (33 + n) j := m3In_fr _ _ _ (by omega) n
    have hr := orFar_T (W 5 n)
    rw [hIW n (by omega)] at hr
    have hi := hI n
    have hof : 0 ≤ (orFarI (W 5 n)).toInt ∧ (orFarI (W 5 n)).toInt ≤ 1000000 := by rw [hr]; split <;> omega
    have es : (orFarI (W 5 n) + W (33 + n) j).toInt = (orFarI (W 5 n)).toInt + fT W n j := by
      unfold fT at *
      exact ti_add (by omega) (by omega) (by omega) (by omega)
    have e : (m3In W j (n + 1) 8 j).toInt = if (orFarI (W 5 n)).toInt + fT W n j < (m3In W j n 8 j).toInt then (orFarI (W 5 n)).toInt + fT W n j else (m3In W j n 8 j).toInt := by
      show (m3Step (m3In W j n) j n 8 j).toInt = _
      unfold m3Step
      rw [xs_self, ti_min, e5, e33, es]
    rw [e]
    by_cases hlt : (orFarI (W 5 n)).toInt + fT W n j < (m3In W j n 8 j).toInt
    · rw [if_pos hlt]
      have hne : I n ≠ -1 := by
        intro z; rw [if_pos z] at hr; omega
      rw [if_neg hne] at hr
      rw [hr] at hlt ⊢
      refine ⟨by omega, by omega, Or.inr ⟨n, by omega, hne, by omega, rfl⟩, fun v hv hvi => ?_⟩
      by_cases h : v = n
      · subst h; exact Int.le_refl _
      · have := h3 v (by omega) hvi; omega
    · rw [if_neg hlt]
      refine ⟨h0, h1, h2, fun v hv hvi => ?_⟩
      by_cases h : v = n
      · subst h; rw [if_neg hvi] at hr; omega
      · exact h3 v (by omega) hvi
theorem m3_T (U : XV) (I : Nat → Int) (E : Nat → Nat → Int) (hI : gI I) (hIW : ∀ v, v < 8 → (U 5 v).toInt = I v) (hW : fOK E U) {j : Nat} (hj : j < 8) : ∀ n, j < n → n ≤ 8 → 0 ≤ (m3Out U n 8 j).toInt ∧ (m3Out U n 8 j).toInt ≤ 1000000 ∧ ((m3Out U n 8 j).toInt = 1000000 ∨ ∃ v, v < 8 ∧ I v ≠ -1 ∧ fT U v j < 1000000 ∧ (m3Out U n 8 j).toInt = I v + fT U v j) ∧ ∀ v, v < 8 → I v ≠ -1 → (m3Out U n 8 j).toInt ≤ I v + fT U v j := by
  intro n
  induction n with
  | zero => intro h; exact absurd h (Nat.not_lt_zero j)
  | succ n ih =>
    intro h hn
    by_cases hjn : j = n
    · subst hjn
      have ef : ∀ v, fT (xs (m3Out U j) 8 j 1000000) v j = fT U v j := by
        intro v; unfold fT; rw [xs_get _ _ (by omega), m3Out_fr _ _ _ (by omega)]
      have hW' : fOK E (xs (m3Out U j) 8 j 1000000) := by
        intro i k hi hk
        have e2 : fT (xs (m3Out U j) 8 j 1000000) i k = fT U i k := by unfold fT; rw [xs_get _ _ (by omega), m3Out_fr _ _ _ (by omega)]
        rw [e2]; exact hW i k hi hk
      have hm := m3In_T (xs (m3Out U j) 8 j 1000000) I E hI (fun v hv => by rw [xs_get _ _ (by omega), m3Out_fr _ _ _ (by omega)]; exact hIW v hv) hW' hj (xs_self _ _ _ _) 8 (Nat.le_refl 8)
      show 0 ≤ (m3In (xs (m3Out U j) 8 j 1000000) j 8 8 j).toInt ∧ _
      obtain ⟨h0, h1, h2, h3⟩ := hm
      refine ⟨h0, h1, ?_, ?_⟩
      · rcases h2 with h2 | ⟨v, hv, hvi, hl, he⟩
        · exact Or.inl h2
        · rw [ef v] at hl he; exact Or.inr ⟨v, hv, hvi, hl, he⟩
      · intro v hv hvi
        have := h3 v hv hvi
        rw [ef v] at this; exact this
    · have e : m3Out U (n + 1) 8 j = m3Out U n 8 j := by
        show m3In (xs (m3Out U n) 8 n 1000000) n 8 8 j = _
        rw [m3In_fr _ _ _ (by omega), xs_get _ _ (by omega)]
      rw [e]
      exact ih (by omega) (by omega)
/-- what the kept tables hold: the least costs of the images and deltas that stand -/
def tOK (V : XV) : Prop := fOK (cE V) V ∧ (∀ i j c, i < 8 → j < 8 → aR (cE V) i j c → fT V i j ≤ c) ∧ ∀ j, j < 8 → 0 ≤ (V 8 j).toInt ∧ (V 8 j).toInt ≤ 1000000 ∧ ((V 8 j).toInt = 1000000 ∨ ∃ v, v < 8 ∧ cIm V v ≠ -1 ∧ fT V v j < 1000000 ∧ (V 8 j).toInt = cIm V v + fT V v j) ∧ ∀ v, v < 8 → cIm V v ≠ -1 → (V 8 j).toInt ≤ cIm V v + fT V v j
theorem cE_same {V U : XV} (h : ∀ p k, 25 ≤ p → p < 33 → k < 8 → U p k = V p k) : cE U = cE V := by
  funext i j
  unfold cE
  by_cases hi : i < 8 ∧ j < 8
  · rw [if_pos hi, if_pos hi, h _ _ (by omega) (by omega) hi.2]
  · rw [if_neg hi, if_neg hi]
theorem cIm_same {V U : XV} (h : ∀ k, k < 8 → U 5 k = V 5 k) : cIm U = cIm V := by
  funext v
  unfold cIm
  by_cases hv : v < 8
  · rw [if_pos hv, if_pos hv, h _ hv]
  · rw [if_neg hv, if_neg hv]
theorem tOK_meas (V : XV) (hE : gE (cE V)) (hI : gI (cIm V)) : tOK (measV V) := by
  obtain ⟨h1, h2⟩ := fw_T V hE
  have eE : cE (measV V) = cE V := cE_same fun p k h1 h2 h3 => measV_fr V h2 (by omega) k
  have eI : cIm (measV V) = cIm V := cIm_same fun k h3 => measV_fr V (by omega) (by omega) k
  have ef : ∀ i j, i < 8 → fT (measV V) i j = fT (m2Out (m1Out V 8) 8) i j := by
    intro i j hi
    unfold fT measV
    rw [m3Out_fr _ _ _ (by omega)]
  unfold tOK
  rw [eE, eI]
  refine ⟨?_, ?_, ?_⟩
  · intro i j hi hj; rw [ef i j hi]; exact h1 i j hi hj
  · intro i j c hi hj h; rw [ef i j hi]; exact h2 i j c hi hj h
  · intro j hj
    have hm := m3_T (m2Out (m1Out V 8) 8) (cIm V) (cE V) hI (fun v hv => by
      rw [m2Out_fr _ (by omega), m1Out_at V 8 (Nat.le_refl 8), if_neg (by omega)]
      unfold cIm; rw [if_pos hv]) h1 hj 8 hj (Nat.le_refl 8)
    show 0 ≤ (m3Out (m2Out (m1Out V 8) 8) 8 8 j).toInt ∧ _
    obtain ⟨q0, q1, q2, q3⟩ := hm
    refine ⟨q0, q1, ?_, fun v hv hvi => by rw [ef v j hv]; exact q3 v hv hvi⟩
    rcases q2 with q2 | ⟨v, hv, hvi, hl, he⟩
    · exact Or.inl q2
    · exact Or.inr ⟨v, hv, hvi, by rw [ef v j hv]; exact hl, by rw [ef v j hv]; exact he⟩
/-- the least of the two tables is the least cost -/
theorem lb_min {V : XV} (hE : gE (cE V)) (hI : gI (cIm V)) (h : tOK V) {f t : Nat} (hf : f < 8) (ht : t < 8) : isMin (cE V) (cIm V) 1000000 f t (minI (V (33 + f) t) (V 8 t)).toInt := by
  obtain ⟨h1, h2, h3⟩ := h
  obtain ⟨a0, a1, a2, a3⟩ := h1 f t hf ht
  obtain ⟨b0, b1, b2, b3⟩ := h3 t ht
  have e : (minI (V (33 + f) t) (V 8 t)).toInt = if (V 8 t).toInt < fT V f t then (V 8 t).toInt else fT V f t := ti_min _ _
  rw [e]
  refine ⟨?_, ?_, ?_, ?_⟩
  · split <;> omega
  · split <;> omega
  · intro c hc
    rcases hc with hc | ⟨v, c', hv, hr, hc⟩
    · have := h2 f t c hf ht hc
      split <;> omega
    · have hv8 := ((hI v).resolve_left hv).1
      have h4 := b3 v hv8 hv
      have h5 := h2 v t c' hv8 ht hr
      split <;> omega
  · by_cases hlt : (V 8 t).toInt < fT V f t
    · rw [if_pos hlt]
      rcases b2 with b2 | ⟨v, hv, hvi, hl, he⟩
      · exact Or.inl b2
      · have := (h1 v t hv ht).2.2.1.resolve_left (by omega)
        exact Or.inr (Or.inr ⟨v, _, hvi, this, he⟩)
    · rw [if_neg hlt]
      rcases a2 with a2 | a2
      · exact Or.inl a2
      · exact Or.inr (Or.inl a2)
/-! ===== END math2 ===== -/
