/-! ===== BEGIN math: least costs over walks; the three ways of measuring them agree ===== -/
theorem ti_add {x y : Int32} (h : -1000000000 ≤ x.toInt) (h2 : x.toInt ≤ 1000000000) (h3 : -1000000000 ≤ y.toInt) (h4 : y.toInt ≤ 1000000000) : (x + y).toInt = x.toInt + y.toInt := by
  rw [Int32.toInt_add]; exact Int.bmod_eq_of_le (by omega) (by omega)
theorem ti_lt (a b : Int32) : a < b ↔ a.toInt < b.toInt := Int32.lt_iff_toInt_lt
theorem ti_le (a b : Int32) : a ≤ b ↔ a.toInt ≤ b.toInt := Int32.le_iff_toInt_le
theorem ti_eq (a b : Int32) : a = b ↔ a.toInt = b.toInt := Int32.toInt_inj.symm
theorem ti_min (x y : Int32) : (minI x y).toInt = if y.toInt < x.toInt then y.toInt else x.toInt := by
  unfold minI
  by_cases h : y < x
  · rw [if_pos h, if_pos ((ti_lt _ _).mp h)]
  · rw [if_neg h, if_neg (fun z => h ((ti_lt _ _).mpr z))]
theorem ti_m1 : (-1 : Int32).toInt = -1 := by decide
theorem ti_0 : (0 : Int32).toInt = 0 := by decide
theorem ti_F : (1000000 : Int32).toInt = 1000000 := by decide
theorem ti_G : (100000000 : Int32).toInt = 100000000 := by decide
theorem ti_ne1 (a : Int32) : a = -1 ↔ a.toInt = -1 := by rw [ti_eq, ti_m1]
/-- an edge is a number from 1 to 100000 -/
def gE (E : Nat → Nat → Int) : Prop := ∀ i j, E i j = -1 ∨ (i < 8 ∧ j < 8 ∧ 1 ≤ E i j ∧ E i j ≤ 100000)
def wM (E : Nat → Nat → Int) (M : Nat → Prop) : Nat → Nat → Nat → Int → Prop
  | 0, i, j, c => E i j ≠ -1 ∧ c = E i j
  | n + 1, i, j, c => ∃ m c', M m ∧ E i m ≠ -1 ∧ wM E M n m j c' ∧ c = E i m + c'
def wR (E : Nat → Nat → Int) : Nat → Nat → Nat → Int → Prop
  | 0, i, j, c => i = j ∧ c = 0
  | n + 1, i, j, c => ∃ m c', E i m ≠ -1 ∧ wR E n m j c' ∧ c = E i m + c'
def aR (E : Nat → Nat → Int) (i j : Nat) (c : Int) : Prop := ∃ n, wR E n i j c
theorem gE_of {E : Nat → Nat → Int} (hE : gE E) {i j : Nat} (h : E i j ≠ -1) : i < 8 ∧ j < 8 ∧ 1 ≤ E i j ∧ E i j ≤ 100000 := (hE i j).resolve_left h
theorem wM_mono {E : Nat → Nat → Int} {M M' : Nat → Prop} (h : ∀ m, M m → M' m) : ∀ n i j c, wM E M n i j c → wM E M' n i j c := by
  intro n
  induction n with
  | zero => intro i j c hw; exact hw
  | succ n ih =>
    intro i j c hw
    obtain ⟨m, c', h1, h2, h3, h4⟩ := hw
    exact ⟨m, c', h m h1, h2, ih m j c' h3, h4⟩
theorem wM_pos {E : Nat → Nat → Int} (hE : gE E) {M : Nat → Prop} : ∀ n i j c, wM E M n i j c → 1 ≤ c := by
  intro n
  induction n with
  | zero => intro i j c hw; have := gE_of hE hw.1; have := hw.2; omega
  | succ n ih =>
    intro i j c hw
    obtain ⟨m, c', h1, h2, h3, h4⟩ := hw
    have := gE_of hE h2
    have := ih m j c' h3
    omega
theorem wM_bd {E : Nat → Nat → Int} (hE : gE E) {M : Nat → Prop} : ∀ n i j c, wM E M n i j c → i < 8 ∧ j < 8 := by
  intro n
  induction n with
  | zero => intro i j c hw; have := gE_of hE hw.1; omega
  | succ n ih =>
    intro i j c hw
    obtain ⟨m, c', h1, h2, h3, h4⟩ := hw
    have := gE_of hE h2
    have := ih m j c' h3
    omega
theorem wM_split {E : Nat → Nat → Int} (hE : gE E) {M : Nat → Prop} (v : Nat) : ∀ n i j c, wM E M n i j c → (∃ n', wM E (fun m => M m ∧ m ≠ v) n' i j c) ∨ ∃ n1 c1 n2 c2, wM E (fun m => M m ∧ m ≠ v) n1 i v c1 ∧ wM E (fun m => M m ∧ m ≠ v) n2 v j c2 ∧ c1 + c2 ≤ c := by
  intro n
  induction n with
  | zero => intro i j c hw; exact Or.inl ⟨0, hw⟩
  | succ n ih =>
    intro i j c hw
    obtain ⟨m, c', h1, h2, h3, h4⟩ := hw
    have hm := gE_of hE h2
    by_cases hv : m = v
    · subst hv
      rcases ih m j c' h3 with ⟨n', hn⟩ | ⟨n1, c1, n2, c2, p1, p2, p3⟩
      · exact Or.inr ⟨0, E i m, n', c', ⟨h2, rfl⟩, hn, by omega⟩
      · have := wM_pos hE _ _ _ _ p1
        exact Or.inr ⟨0, E i m, n2, c2, ⟨h2, rfl⟩, p2, by omega⟩
    · rcases ih m j c' h3 with ⟨n', hn⟩ | ⟨n1, c1, n2, c2, p1, p2, p3⟩
      · exact Or.inl ⟨n' + 1, m, c', ⟨h1, hv⟩, h2, hn, h4⟩
      · exact Or.inr ⟨n1 + 1, E i m + c1, n2, c2, ⟨m, c1, ⟨h1, hv⟩, h2, p1, rfl⟩, p2, by omega⟩
theorem wM_avoid {E : Nat → Nat → Int} (hE : gE E) {M : Nat → Prop} (n v j : Nat) (c : Int) (h : wM E M n v j c) : ∃ n' c', c' ≤ c ∧ wM E (fun m => M m ∧ m ≠ v) n' v j c' := by
  rcases wM_split hE v n v j c h with ⟨n', hn⟩ | ⟨n1, c1, n2, c2, p1, p2, p3⟩
  · exact ⟨n', c, Int.le_refl _, hn⟩
  · have := wM_pos hE _ _ _ _ p1
    exact ⟨n2, c2, by omega, p2⟩
theorem wM_to {E : Nat → Nat → Int} (hE : gE E) {M : Nat → Prop} : ∀ n i j c, wM E M n i j c → ∃ n' c', c' ≤ c ∧ wM E (fun m => M m ∧ m ≠ j) n' i j c' := by
  intro n i j c h
  rcases wM_split hE j n i j c h with ⟨n', hn⟩ | ⟨n1, c1, n2, c2, p1, p2, p3⟩
  · exact ⟨n', c, Int.le_refl _, hn⟩
  · have := wM_pos hE _ _ _ _ p2
    exact ⟨n1, c1, by omega, p1⟩
theorem aR_of_wM {E : Nat → Nat → Int} {M : Nat → Prop} : ∀ n i j c, wM E M n i j c → wR E (n + 1) i j c := by
  intro n
  induction n with
  | zero => intro i j c hw; exact ⟨j, 0, hw.1, ⟨rfl, rfl⟩, by have := hw.2; omega⟩
  | succ n ih =>
    intro i j c hw
    obtain ⟨m, c', h1, h2, h3, h4⟩ := hw
    exact ⟨m, c', h2, ih m j c' h3, h4⟩
theorem aR_cases {E : Nat → Nat → Int} (hE : gE E) : ∀ n i j c, wR E n i j c → (i = j ∧ c = 0) ∨ ∃ n', wM E (fun m => m < 8) n' i j c := by
  intro n
  induction n with
  | zero => intro i j c hw; exact Or.inl hw
  | succ n ih =>
    intro i j c hw
    obtain ⟨m, c', h2, h3, h4⟩ := hw
    rcases ih m j c' h3 with ⟨h5, h6⟩ | ⟨n', h5⟩
    · subst h5; subst h6; exact Or.inr ⟨0, h2, by omega⟩
    · exact Or.inr ⟨n' + 1, m, c', (gE_of hE h2).2.1, h2, h5, h4⟩
theorem wR_app {E : Nat → Nat → Int} : ∀ n i k c1 n2 j c2, wR E n i k c1 → wR E n2 k j c2 → wR E (n + n2) i j (c1 + c2) := by
  intro n
  induction n with
  | zero => intro i k c1 n2 j c2 h1 h2; obtain ⟨h3, h4⟩ := h1; subst h3; subst h4; rw [Nat.zero_add, Int.zero_add]; exact h2
  | succ n ih =>
    intro i k c1 n2 j c2 h1 h2
    obtain ⟨m, c', h3, h4, h5⟩ := h1
    rw [show n + 1 + n2 = (n + n2) + 1 by omega]
    exact ⟨m, c' + c2, h3, ih m k c' n2 j c2 h4 h2, by omega⟩
theorem aR_app {E : Nat → Nat → Int} {i k j : Nat} {c1 c2 : Int} (h1 : aR E i k c1) (h2 : aR E k j c2) : aR E i j (c1 + c2) := by
  obtain ⟨n, h1⟩ := h1
  obtain ⟨n2, h2⟩ := h2
  exact ⟨_, wR_app n i k c1 n2 j c2 h1 h2⟩
theorem aR_0 (E : Nat → Nat → Int) (i : Nat) : aR E i i 0 := ⟨0, rfl, rfl⟩
theorem aR_edge {E : Nat → Nat → Int} {i j : Nat} (h : E i j ≠ -1) : aR E i j (E i j) := ⟨1, j, 0, h, ⟨rfl, rfl⟩, by omega⟩
theorem aR_nonneg {E : Nat → Nat → Int} (hE : gE E) {i j : Nat} {c : Int} (h : aR E i j c) : 0 ≤ c := by
  obtain ⟨n, h⟩ := h
  rcases aR_cases hE n i j c h with ⟨_, h⟩ | ⟨n', h⟩
  · omega
  · have := wM_pos hE _ _ _ _ h; omega
theorem wM_short {E : Nat → Nat → Int} (hE : gE E) : ∀ (k : Nat) (M : Nat → Prop) (L : List Nat), L.length ≤ k → (∀ m, M m → m ∈ L) → ∀ n i j c, wM E M n i j c → ∃ n' c', n' ≤ k ∧ c' ≤ c ∧ wR E (n' + 1) i j c' := by
  intro k
  induction k with
  | zero =>
    intro M L hL hM n i j c hw
    cases n with
    | zero => exact ⟨0, c, Nat.le_refl _, Int.le_refl _, aR_of_wM 0 i j c hw⟩
    | succ n =>
      obtain ⟨m, c', h1, _⟩ := hw
      have h2 := hM m h1
      rw [List.length_eq_zero_iff.mp (Nat.le_zero.mp hL)] at h2
      cases h2
  | succ k ih =>
    intro M L hL hM n i j c hw
    cases n with
    | zero => exact ⟨0, c, Nat.zero_le _, Int.le_refl _, aR_of_wM 0 i j c hw⟩
    | succ n =>
      obtain ⟨m, c', h1, h2, h3, h4⟩ := hw
      obtain ⟨n', c2, h5, h6⟩ := wM_avoid hE n m j c' h3
      have h7 := hM m h1
      have hl : (L.erase m).length ≤ k := by rw [List.length_erase_of_mem h7]; omega
      obtain ⟨n3, c3, h8, h9, h10⟩ := ih (fun q => M q ∧ q ≠ m) (L.erase m) hl (fun q hq => (List.mem_erase_of_ne hq.2).mpr (hM q hq.1)) n' m j c2 h6
      exact ⟨n3 + 1, E i m + c3, by omega, by omega, m, c3, h2, h10, rfl⟩
theorem aR_short {E : Nat → Nat → Int} (hE : gE E) {i j : Nat} {c : Int} (h : aR E i j c) : ∃ n c', n ≤ 8 ∧ c' ≤ c ∧ wR E n i j c' := by
  obtain ⟨n, h⟩ := h
  rcases aR_cases hE n i j c h with ⟨h1, h2⟩ | ⟨n', h1⟩
  · exact ⟨0, 0, Nat.zero_le _, by omega, h1, rfl⟩
  · obtain ⟨n2, c2, h3, h4⟩ := wM_avoid hE n' i j c h1
    have hi := (wM_bd hE _ _ _ _ h1).1
    have hl : ((List.range 8).erase i).length ≤ 7 := by rw [List.length_erase_of_mem (List.mem_range.mpr hi), List.length_range]; omega
    obtain ⟨n3, c3, h5, h6, h7⟩ := wM_short hE 7 _ _ hl (fun q hq => (List.mem_erase_of_ne hq.2).mpr (List.mem_range.mpr hq.1)) n2 i j c2 h4
    exact ⟨n3 + 1, c3, by omega, by omega, h7⟩
theorem wR_le {E : Nat → Nat → Int} (hE : gE E) : ∀ n i j c, wR E n i j c → c ≤ 100000 * n := by
  intro n
  induction n with
  | zero => intro i j c hw; have := hw.2; omega
  | succ n ih =>
    intro i j c hw
    obtain ⟨m, c', h2, h3, h4⟩ := hw
    have := gE_of hE h2
    have := ih m j c' h3
    omega
theorem wR_snoc {E : Nat → Nat → Int} : ∀ n i j c, wR E (n + 1) i j c → ∃ m c', wR E n i m c' ∧ E m j ≠ -1 ∧ c = c' + E m j := by
  intro n
  induction n with
  | zero =>
    intro i j c hw
    obtain ⟨m, c', h2, h3, h4⟩ := hw
    obtain ⟨h5, h6⟩ := h3
    subst h5; subst h6
    exact ⟨i, 0, ⟨rfl, rfl⟩, h2, by omega⟩
  | succ n ih =>
    intro i j c hw
    obtain ⟨m, c', h2, h3, h4⟩ := hw
    obtain ⟨m2, c2, h5, h6, h7⟩ := ih m j c' h3
    exact ⟨m2, E i m + c2, ⟨m, c2, h2, h5, rfl⟩, h6, by omega⟩
/-- images: -1 or a number from 1 to 100000 -/
def gI (I : Nat → Int) : Prop := ∀ v, I v = -1 ∨ (v < 8 ∧ 1 ≤ I v ∧ I v ≤ 100000)
def cost (E : Nat → Nat → Int) (I : Nat → Int) (f t : Nat) (c : Int) : Prop := aR E f t c ∨ ∃ v c', I v ≠ -1 ∧ aR E v t c' ∧ c = I v + c'
def isMin (E : Nat → Nat → Int) (I : Nat → Int) (F : Int) (f t : Nat) (x : Int) : Prop := 0 ≤ x ∧ x ≤ F ∧ (∀ c, cost E I f t c → x ≤ c) ∧ (x = F ∨ cost E I f t x)
theorem cost_short {E : Nat → Nat → Int} {I : Nat → Int} (hE : gE E) (hI : gI I) {f t : Nat} {c : Int} (h : cost E I f t c) : ∃ c', c' ≤ 900000 ∧ cost E I f t c' := by
  rcases h with h | ⟨v, c', h1, h2, h3⟩
  · obtain ⟨n, c2, h4, h5, h6⟩ := aR_short hE h
    have := wR_le hE _ _ _ _ h6
    exact ⟨c2, by omega, Or.inl ⟨n, h6⟩⟩
  · obtain ⟨n, c2, h4, h5, h6⟩ := aR_short hE h2
    have := wR_le hE _ _ _ _ h6
    have := (hI v).resolve_left h1
    exact ⟨I v + c2, by omega, Or.inr ⟨v, c2, h1, ⟨n, h6⟩, rfl⟩⟩
theorem isMin_eq {E : Nat → Nat → Int} {I : Nat → Int} (hE : gE E) (hI : gI I) {F G : Int} (hF : 1000000 ≤ F) (hG : 1000000 ≤ G) {f t : Nat} {x y : Int} (hx : isMin E I F f t x) (hy : isMin E I G f t y) : (if x < F then x else -1) = (if y < G then y else -1) := by
  obtain ⟨x0, x1, x2, x3⟩ := hx
  obtain ⟨y0, y1, y2, y3⟩ := hy
  by_cases he : ∃ c, cost E I f t c
  · obtain ⟨c, hc⟩ := he
    obtain ⟨c', h1, h2⟩ := cost_short hE hI hc
    have h3 := x2 c' h2
    have h4 := y2 c' h2
    have h5 := y2 x (x3.resolve_left (by omega))
    have h6 := x2 y (y3.resolve_left (by omega))
    rw [if_pos (by omega), if_pos (by omega)]; omega
  · have h5 : x = F := x3.resolve_right (fun z => he ⟨_, z⟩)
    have h6 : y = G := y3.resolve_right (fun z => he ⟨_, z⟩)
    rw [if_neg (by omega), if_neg (by omega)]
/-! ===== END math ===== -/
