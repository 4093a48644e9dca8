/-! ===== BEGIN rel: how the class's contents and the reference's go together; refusals agree ===== -/
def jS (V M : XV) (n m k : Nat) : Prop := V 0 4 = nI n ∧ M 0 6 = nI n ∧ n ≤ 10 ∧ V 0 5 = nI m ∧ M 0 15 = nI m ∧ m ≤ 6 ∧ V 0 6 = nI (k % 24) ∧ M 0 1 = nI k ∧ k ≤ 60000
def jW (V M : XV) : Prop := (∀ v, v < 8 → V 1 v = M 1 v) ∧ (∀ v, v < 8 → V 5 v = M 2 v) ∧ (∀ i j, i < 8 → j < 8 → V (25 + i) j = M 3 (8 * i + j)) ∧ gE (cE V) ∧ gI (cIm V) ∧ tOK V
def jDd (V M : XV) (n m d : Nat) : Prop := V (9 + d) 0 = nI d ∧ V (9 + d) 1 = M 5 d ∧ V (9 + d) 2 = M 6 d ∧ vp_in (V (9 + d) 2) 8 ∧ V (9 + d) 6 = M 10 d ∧ V (9 + d) 8 = M 12 d ∧ 0 ≤ (V (9 + d) 8).toInt ∧ (V (9 + d) 6 ≠ 0 → ∃ c, c < m ∧ V (9 + d) 7 = nI c) ∧ (d < n → V (9 + d) 3 = M 7 d ∧ V (9 + d) 4 = M 8 d ∧ V (9 + d) 5 = M 9 d ∧ V (9 + d) 7 = M 11 d) ∧ (n ≤ d → V (9 + d) 3 = 100 ∧ V (9 + d) 4 = 0 ∧ V (9 + d) 5 = 23 ∧ V (9 + d) 6 = 0 ∧ V (9 + d) 7 = -1 ∧ V (9 + d) 8 = 0)
def jCc (V M : XV) (m c : Nat) : Prop := V (19 + c) 0 = nI c ∧ V (19 + c) 1 = M 13 c ∧ vp_in (V (19 + c) 1) 8 ∧ V (19 + c) 2 = M 14 c ∧ V (19 + c) 3 = M 15 c ∧ V (19 + c) 9 = M 17 c ∧ (∃ z, z ≤ 2 ∧ V (19 + c) 9 = nI z) ∧ V (19 + c) 10 = M 21 c ∧ V (19 + c) 11 = M 22 c ∧ V (19 + c) 12 = M 23 c ∧ (V (19 + c) 8 = 0 ∨ V (19 + c) 8 = 1) ∧ (c < m → V (19 + c) 4 = M 18 (3 * c) ∧ V (19 + c) 5 = M 18 (3 * c + 1) ∧ M 18 (3 * c + 2) = 100 ∧ V (19 + c) 6 = M 19 c ∧ V (19 + c) 7 = M 20 c ∧ V (19 + c) 8 = M 16 c) ∧ (m ≤ c → V (19 + c) 4 = 10 ∧ V (19 + c) 5 = 50 ∧ V (19 + c) 6 = 3 ∧ V (19 + c) 7 = 200 ∧ V (19 + c) 8 = 1)
def jJ (V M : XV) (n m k : Nat) : Prop := jS V M n m k ∧ jW V M ∧ (∀ d, d < 10 → jDd V M n m d) ∧ ∀ c, c < 6 → jCc V M m c
theorem jS_cg {V M U N : XV} {n m k : Nat} (hU : ∀ j, j = 4 ∨ j = 5 ∨ j = 6 → U 0 j = V 0 j) (hN : ∀ j, j = 1 ∨ j = 6 ∨ j = 15 → N 0 j = M 0 j) (h : jS V M n m k) : jS U N n m k := by
  unfold jS
  rw [hU 4 (by omega), hU 5 (by omega), hU 6 (by omega), hN 1 (by omega), hN 6 (by omega), hN 15 (by omega)]
  exact h
theorem tOK_cg {V U : XV} (hU : ∀ p k, k < 8 → p = 5 ∨ p = 8 ∨ 25 ≤ p → U p k = V p k) (h : tOK V) : tOK U := by
  obtain ⟨h1, h2, h3⟩ := h
  have eE : cE U = cE V := cE_same fun p k ha hb hc => hU p k hc (by omega)
  have eI : cIm U = cIm V := cIm_same fun k hk => hU 5 k hk (by omega)
  have ef : ∀ i j, j < 8 → fT U i j = fT V i j := fun i j hj => by unfold fT; rw [hU _ _ hj (by omega)]
  unfold tOK
  rw [eE, eI]
  refine ⟨fun i j hi hj => ?_, fun i j c hi hj hr => ?_, fun j hj => ?_⟩
  · rw [ef i j hj]; exact h1 i j hi hj
  · rw [ef i j hj]; exact h2 i j c hi hj hr
  · obtain ⟨a0, a1, a2, a3⟩ := h3 j hj
    rw [hU 8 j hj (by omega)]
    refine ⟨a0, a1, ?_, fun v hv hvi => by rw [ef v j hj]; exact a3 v hv hvi⟩
    rcases a2 with a2 | ⟨v, hv, hvi, hl, he⟩
    · exact Or.inl a2
    · exact Or.inr ⟨v, hv, hvi, by rw [ef v j hj]; exact hl, by rw [ef v j hj]; exact he⟩
theorem jW_cg {V M U N : XV} (hU : ∀ p k, k < 8 → p = 1 ∨ p = 5 ∨ p = 8 ∨ 25 ≤ p → U p k = V p k) (hN : ∀ p k, p = 1 ∨ p = 2 ∨ p = 3 → N p k = M p k) (h : jW V M) : jW U N := by
  obtain ⟨h1, h2, h3, h4, h5, h6⟩ := h
  have eE : cE U = cE V := cE_same fun p k ha hb hc => hU p k hc (by omega)
  have eI : cIm U = cIm V := cIm_same fun k hk => hU 5 k hk (by omega)
  refine ⟨fun v hv => ?_, fun v hv => ?_, fun i j hi hj => ?_, by rw [eE]; exact h4, by rw [eI]; exact h5, tOK_cg (fun p k hk hp => hU p k hk (by omega)) h6⟩
  · rw [hU 1 v hv (by omega), hN 1 v (by omega)]; exact h1 v hv
  · rw [hU 5 v hv (by omega), hN 2 v (by omega)]; exact h2 v hv
  · rw [hU (25 + i) j hj (by omega), hN 3 _ (by omega)]; exact h3 i j hi hj
theorem jDd_cg {V M U N : XV} {n m d : Nat} (hU : ∀ k, k < 9 → U (9 + d) k = V (9 + d) k) (hN : ∀ p, 5 ≤ p → p ≤ 12 → N p d = M p d) (h : jDd V M n m d) : jDd U N n m d := by
  unfold jDd
  rw [hU 0 (by omega), hU 1 (by omega), hU 2 (by omega), hU 3 (by omega), hU 4 (by omega), hU 5 (by omega), hU 6 (by omega), hU 7 (by omega), hU 8 (by omega), hN 5 (by omega) (by omega), hN 6 (by omega) (by omega), hN 7 (by omega) (by omega), hN 8 (by omega) (by omega), hN 9 (by omega) (by omega), hN 10 (by omega) (by omega), hN 11 (by omega) (by omega), hN 12 (by omega) (by omega)]
  exact h
theorem jCc_cg {V M U N : XV} {m c : Nat} (hU : ∀ k, k < 13 → U (19 + c) k = V (19 + c) k) (hN : ∀ p, 13 ≤ p → p ≠ 18 → N p c = M p c) (h18 : ∀ i, i < 3 → N 18 (3 * c + i) = M 18 (3 * c + i)) (h : jCc V M m c) : jCc U N m c := by
  unfold jCc
  have e0 : N 18 (3 * c) = M 18 (3 * c) := h18 0 (by omega)
  rw [hU 0 (by omega), hU 1 (by omega), hU 2 (by omega), hU 3 (by omega), hU 4 (by omega), hU 5 (by omega), hU 6 (by omega), hU 7 (by omega), hU 8 (by omega), hU 9 (by omega), hU 10 (by omega), hU 11 (by omega), hU 12 (by omega), hN 13 (by omega) (by omega), hN 14 (by omega) (by omega), hN 15 (by omega) (by omega), hN 16 (by omega) (by omega), hN 17 (by omega) (by omega), hN 19 (by omega) (by omega), hN 20 (by omega) (by omega), hN 21 (by omega) (by omega), hN 22 (by omega) (by omega), hN 23 (by omega) (by omega), e0, h18 1 (by omega), h18 2 (by omega)]
  exact h
/-- the reference's scratch and its last refusal don't matter -/
theorem jJ_M {V M N : XV} {n m k : Nat} (hN : ∀ p j, p ≠ 4 → ¬ (p = 0 ∧ j = 0) → N p j = M p j) (h : jJ V M n m k) : jJ V N n m k :=
  ⟨jS_cg (fun _ _ => rfl) (fun j hj => hN 0 j (by omega) (by omega)) h.1, jW_cg (fun _ _ _ _ => rfl) (fun p k hp => hN p k (by omega) (by omega)) h.2.1,
   fun d hd => jDd_cg (fun _ _ => rfl) (fun p _ _ => by by_cases h4 : p = 4 <;> first | omega | exact hN p d (by omega) (by omega)) (h.2.2.1 d hd),
   fun c hc => jCc_cg (fun _ _ => rfl) (fun p _ _ => hN p c (by omega) (by omega)) (fun i _ => hN 18 _ (by omega) (by omega)) (h.2.2.2 c hc)⟩
theorem jJ_0 {V M : XV} {n m k : Nat} (z : Int32) (h : jJ V M n m k) : jJ V (xs M 0 0 z) n m k := jJ_M (fun p j _ hp => xs_get _ _ hp) h
theorem jJ_sz {V M : XV} {n m k : Nat} (f : Int32) (h : jJ V M n m k) : jJ V (szV M f) n m k := jJ_M (fun p j h4 _ => szV_fr M f h4 j) h
/-- refusals agree: an order by one more -/
theorem ltS {v a b : Int32} (h : b.toInt = a.toInt + 1) : (v < b) ↔ ¬ a < v := by
  rw [ti_lt, ti_lt]; omega
theorem nUp_T (v lo hi hi1 : Int32) (E : String) (h : hi1.toInt = hi.toInt + 1) : (inB v lo hi = true ∧ (if v < lo then some E else if v < hi1 then none else some E) = none) ∨ (inB v lo hi = false ∧ (if v < lo then some E else if v < hi1 then none else some E) = some E) := by
  unfold inB
  have h2 := ltS (v := v) h
  by_cases h0 : v < lo
  · right; simp [h0]
  · by_cases h1 : v < hi1
    · left; simp [h0, h1, h2.mp h1]
    · right
      have h3 : hi < v := Classical.byContradiction fun z => h1 (h2.mpr z)
      simp [h0, h1, h3]
theorem nVx_T (v : Int32) : (inB v 0 7 = true ∧ nVx v = none) ∨ (inB v 0 7 = false ∧ nVx v = some xIO) := nUp_T v 0 7 8 xIO (by decide)
theorem nKx_T (v : Int32) : (inB v 0 3 = true ∧ nKx v = none) ∨ (inB v 0 3 = false ∧ nKx v = some xIO) := nUp_T v 0 3 4 xIO (by decide)
theorem nRx_T (v lo hi : Int32) : (inB v lo hi = true ∧ nRx v lo hi = none) ∨ (inB v lo hi = false ∧ nRx v lo hi = some xIA) := by
  unfold inB nRx
  by_cases h0 : v < lo
  · right; simp [h0]
  · by_cases h1 : v ≤ hi
    · left
      have h3 : ¬ hi < v := by rw [ti_lt]; rw [ti_le] at h1; omega
      simp [h0, h1, h3]
    · right
      have h3 : hi < v := by rw [ti_lt]; rw [ti_le] at h1; omega
      simp [h0, h1, h3]
theorem nBx_T (z : Int32) : (szB z = true ∧ nBx z = none) ∨ (szB z = false ∧ nBx z = some xIA) := by
  unfold szB nBx
  by_cases h : z = -1
  · left; rw [if_pos h]; exact ⟨by rw [decide_eq_true h]; rfl, rfl⟩
  · rw [if_neg h, decide_eq_false h, Bool.false_or]; exact nRx_T z 1 100000
theorem pred_T {x : Int32} {n : Nat} (h : x = nI n) (hn : n < 100) : x.toInt = (x - 1).toInt + 1 := by
  rw [h]
  cases n with
  | zero => decide
  | succ k => rw [nI_pred, nI_toInt (by omega), nI_toInt (by omega)]; omega
theorem nDx_T {V M : XV} {n m k : Nat} (h : jJ V M n m k) (d : Int32) : (inB d 0 (M 0 6 - 1) = true ∧ nDx V d = none) ∨ (inB d 0 (M 0 6 - 1) = false ∧ nDx V d = some xIO) := by
  obtain ⟨h1, h2, h3, _⟩ := h.1
  have e : M 0 6 = V 0 4 := by rw [h1, h2]
  rw [e]
  exact nUp_T d 0 (V 0 4 - 1) (V 0 4) xIO (pred_T h1 (by omega))
theorem nCx_T {V M : XV} {n m k : Nat} (h : jJ V M n m k) (d : Int32) : (inB d 0 (M 0 15 - 1) = true ∧ nCx V d = none) ∨ (inB d 0 (M 0 15 - 1) = false ∧ nCx V d = some xIO) := by
  obtain ⟨_, _, _, h1, h2, h3, _⟩ := h.1
  have e : M 0 15 = V 0 5 := by rw [h1, h2]
  rw [e]
  exact nUp_T d 0 (V 0 5 - 1) (V 0 5) xIO (pred_T h1 (by omega))
/-- of three: fine, the first, the second -/
def ex3 (ex : Option String) (code : Int32) (E1 E2 : String) : Prop := (code = 0 ∧ ex = none) ∨ (code = 1 ∧ ex = some E1) ∨ (code = 2 ∧ ex = some E2)
theorem ex_allow (v k : Int32) : ex3 (allowX v k) (codeAllow v k) xIO xIA := by
  unfold ex3 codeAllow allowX seqx
  rcases nVx_T v with ⟨h1, h2⟩ | ⟨h1, h2⟩ <;> rcases nRx_T k 0 15 with ⟨h3, h4⟩ | ⟨h3, h4⟩ <;> simp [h1, h2, h3, h4]
theorem ex_image (v z : Int32) : ex3 (setImageX v z) (codeImage v z) xIO xIA := by
  unfold ex3 codeImage setImageX seqx
  rcases nVx_T v with ⟨h1, h2⟩ | ⟨h1, h2⟩ <;> rcases nBx_T z with ⟨h3, h4⟩ | ⟨h3, h4⟩ <;> simp [h1, h2, h3, h4]
theorem ex_delta (f t z : Int32) : ex3 (setDeltaX f t z) (codeDelta f t z) xIO xIA := by
  unfold ex3 codeDelta setDeltaX seqx
  rcases nVx_T f with ⟨h1, h2⟩ | ⟨h1, h2⟩ <;> rcases nVx_T t with ⟨h5, h6⟩ | ⟨h5, h6⟩ <;> rcases nBx_T z with ⟨h3, h4⟩ | ⟨h3, h4⟩ <;> by_cases h7 : f = t <;> simp [h1, h2, h3, h4, h5, h6, h7]
theorem ex_size (f t : Int32) : ex3 (sizeX f t) (codeSize f t) xIO xIA := by
  unfold ex3 codeSize sizeX seqx
  rcases nVx_T f with ⟨h1, h2⟩ | ⟨h1, h2⟩ <;> rcases nVx_T t with ⟨h5, h6⟩ | ⟨h5, h6⟩ <;> simp [h1, h2, h5, h6]
theorem ex_dev {V M : XV} {n m k : Nat} (h : jJ V M n m k) (d : Int32) : ex3 (nDx V d) (codeDev M d) xIO xIA := by
  unfold ex3 codeDev
  rcases nDx_T h d with ⟨h1, h2⟩ | ⟨h1, h2⟩ <;> simp [h1, h2]
theorem ex_cam {V M : XV} {n m k : Nat} (h : jJ V M n m k) (d : Int32) : ex3 (nCx V d) (codeCam M d) xIO xIA := by
  unfold ex3 codeCam
  rcases nCx_T h d with ⟨h1, h2⟩ | ⟨h1, h2⟩ <;> simp [h1, h2]
theorem ex_charge {V M : XV} {n m k : Nat} (h : jJ V M n m k) (d z : Int32) : ex3 (chargeX V d z) (codeCharge M d z) xIO xIA := by
  unfold ex3 codeCharge chargeX seqx
  rcases nDx_T h d with ⟨h1, h2⟩ | ⟨h1, h2⟩ <;> rcases nRx_T z 0 100 with ⟨h3, h4⟩ | ⟨h3, h4⟩ <;> simp [h1, h2, h3, h4]
theorem ex_window {V M : XV} {n m k : Nat} (h : jJ V M n m k) (d f t : Int32) : ex3 (windowX V d f t) (codeWindow M d f t) xIO xIA := by
  unfold ex3 codeWindow windowX seqx
  rcases nDx_T h d with ⟨h1, h2⟩ | ⟨h1, h2⟩ <;> rcases nRx_T f 0 23 with ⟨h3, h4⟩ | ⟨h3, h4⟩ <;> rcases nRx_T t 0 23 with ⟨h5, h6⟩ | ⟨h5, h6⟩ <;> simp [h1, h2, h3, h4, h5, h6]
theorem ex_rules {V M : XV} {n m k : Nat} (h : jJ V M n m k) (q f s n9 th : Int32) : ex3 (rulesX V q f s n9 th) (codeRules M q f s n9 th) xIO xIA := by
  unfold ex3 codeRules rulesX seqx
  rcases nCx_T h q with ⟨h1, h2⟩ | ⟨h1, h2⟩ <;> rcases nRx_T f 0 100 with ⟨h3, h4⟩ | ⟨h3, h4⟩ <;> rcases nRx_T s f 100 with ⟨h5, h6⟩ | ⟨h5, h6⟩ <;> rcases nRx_T n9 1 10 with ⟨h7, h8⟩ | ⟨h7, h8⟩ <;> rcases nRx_T th 0 1000 with ⟨h9, h10⟩ | ⟨h9, h10⟩ <;> simp [h1, h2, h3, h4, h5, h6, h7, h8, h9, h10]
theorem ex_pass (h : Int32) : (codePass h = 0 ∧ nRx h 1 100 = none) ∨ (codePass h = 1 ∧ nRx h 1 100 = some xIA) := by
  unfold codePass
  rcases nRx_T h 1 100 with ⟨h3, h4⟩ | ⟨h3, h4⟩ <;> simp [h3, h4]
theorem in7 {v : Int32} (h : inB v 0 7 = true) : v.toNatClampNeg < 8 := vp_at (inB_7 h)
theorem ex_add {V M : XV} {n m k : Nat} (h : jJ V M n m k) (k9 v : Int32) : ex3 (addDeviceX V k9 v) (codeAdd M k9 v) xIO xIS := by
  unfold ex3 codeAdd addDeviceX seqx
  have e10 : V 0 4 < 10 ↔ ¬ 10 ≤ M 0 6 := by
    rw [h.1.1, h.1.2.1, ti_lt, ti_le]; omega
  rcases nKx_T k9 with ⟨h1, h2⟩ | ⟨h1, h2⟩ <;> rcases nVx_T v with ⟨h3, h4⟩ | ⟨h3, h4⟩
  · have ew : V 1 v.toNatClampNeg = M 1 v.toNatClampNeg := h.2.1.1 _ (in7 h3)
    by_cases h5 : V 0 4 < 10 <;> by_cases h6 : hasB (M 1 v.toNatClampNeg) k9 = true
    · have := e10.mp h5; simp [h1, h2, h3, h4, h5, h6, ew, this]
    · have := e10.mp h5; simp [h1, h2, h3, h4, h5, h6, ew, this]
    · have h7 : 10 ≤ M 0 6 := Classical.byContradiction fun z => h5 (e10.mpr z)
      simp [h1, h2, h3, h4, h5, h7]
    · have h7 : 10 ≤ M 0 6 := Classical.byContradiction fun z => h5 (e10.mpr z)
      simp [h1, h2, h3, h4, h5, h7]
  · simp [h1, h2, h3, h4]
  · simp [h1, h2, h3, h4]
  · simp [h1, h2, h3, h4]
theorem inN {d : Int32} {x : Int32} {n : Nat} (h : inB d 0 (x - 1) = true) (hx : x = nI n) (hn : n < 100) : ∃ j, j < n ∧ d = nI j := by
  have h1 := inB_in h (N := n) (by have := pred_T hx hn; rw [hx, nI_toInt (by omega)] at this; rw [hx]; omega)
  exact vp_in_of h1 (by omega)
theorem ex_report {V M : XV} {n m k : Nat} (h : jJ V M n m k) (d : Int32) : ex3 (reportX V d) (codeReport M d) xIO xIS := by
  unfold ex3 codeReport reportX seqx
  rcases nDx_T h d with ⟨h1, h2⟩ | ⟨h1, h2⟩
  · obtain ⟨j, hj, e⟩ := inN h1 h.1.2.1 (by have := h.1.2.2.1; omega)
    have hn := h.1.2.2.1
    have ec : d.toNatClampNeg = j := cl_eq e (by omega)
    obtain ⟨_, _, _, _, q6, _, _, q7, _⟩ := h.2.2.1 j (by omega)
    rw [ec]
    by_cases h3 : V (9 + j) 6 = 2
    · have h4 : M 10 j = 2 := by rw [← q6]; exact h3
      obtain ⟨c, hc, e7⟩ := q7 (by rw [h3]; decide)
      have h5 : nCx V (V (9 + j) 7) = none := by
        have hm := h.1.2.2.2.2.2.1
        unfold nCx
        rw [e7, h.1.2.2.2.1, if_neg (by rw [ti_lt, nI_toInt (by omega), ti_0]; omega), if_pos (by rw [ti_lt, nI_toInt (by omega), nI_toInt (by omega)]; omega)]
      simp [h1, h2, h3, h4, h5]
    · have h4 : ¬ M 10 j = 2 := by rw [← q6]; exact h3
      simp [h1, h2, h3, h4]
  · simp [h1, h2]
/-- of four -/
def ex4 (ex : Option String) (code : Int32) : Prop := (code = 0 ∧ ex = none) ∨ (code = 1 ∧ ex = some xIO) ∨ (code = 2 ∧ ex = some xIA) ∨ (code = 3 ∧ ex = some xIS)
theorem ex_begin {V M : XV} {n m k : Nat} (h : jJ V M n m k) (t k9 vs rep : Int32) : ex4 (beginX V t k9 vs rep) (codeBegin M t k9 vs rep) := by
  unfold ex4 codeBegin beginX seqx
  have e6 : V 0 5 < 6 ↔ ¬ M 0 15 = 6 := by
    have hm := h.1.2.2.2.2.2.1
    rw [h.1.2.2.2.1, h.1.2.2.2.2.1, ti_lt, ti_eq, nI_toInt (by omega)]
    have : (6 : Int32).toInt = 6 := by decide
    omega
  have hC := nCx_T h rep
  generalize inB rep 0 (M 0 15 - 1) = b at hC ⊢
  by_cases h6 : M 0 15 = 6
  · have h7 : ¬ V 0 5 < 6 := fun z => e6.mp z h6
    rcases nVx_T t with ⟨h1, h2⟩ | ⟨h1, h2⟩ <;> rcases hC with ⟨h3, h4⟩ | ⟨h3, h4⟩ <;> rcases nRx_T k9 0 15 with ⟨h5, h8⟩ | ⟨h5, h8⟩ <;> rcases nRx_T vs 0 255 with ⟨h9, h10⟩ | ⟨h9, h10⟩ <;> by_cases hr : rep = -1 <;> simp [h1, h2, h3, h4, h5, h6, h7, h8, h9, h10, hr]
  · have h7 : V 0 5 < 6 := e6.mpr h6
    rcases nVx_T t with ⟨h1, h2⟩ | ⟨h1, h2⟩ <;> rcases hC with ⟨h3, h4⟩ | ⟨h3, h4⟩ <;> rcases nRx_T k9 0 15 with ⟨h5, h8⟩ | ⟨h5, h8⟩ <;> rcases nRx_T vs 0 255 with ⟨h9, h10⟩ | ⟨h9, h10⟩ <;> by_cases hr : rep = -1 <;> simp [h1, h2, h3, h4, h5, h6, h7, h8, h9, h10, hr]
/-! ===== END rel ===== -/
