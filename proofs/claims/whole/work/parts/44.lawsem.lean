/-! ===== BEGIN lawsem: what each call leaves on both sides, where it is not refused ===== -/
def semP (U N : XV) (z z' : Int32) (k : Nat) : Prop := z' = z ∧ N 0 0 = 0 ∧ ∃ n' m' k' : Nat, jJ U N n' m' k' ∧ k' ≤ k + 100
def semV (U N : XV) (k : Nat) : Prop := N 0 0 = 0 ∧ ∃ n' m' k' : Nat, jJ U N n' m' k' ∧ k' ≤ k + 100
theorem fin_gen {V M U N W : XV} {n m k : Nat} {r5 r6 code z z' : Int32} {u : XV × (Nat → Int64)} (h : jJ V M n m k) (hag : agP r5 code U V z u) (hm : (¬ code = 0 → r6 = 0 ∧ W = xs M 0 0 code) ∧ (code = 0 → r6 = z' ∧ W = N)) (hs : code = 0 → semP U N z z' k) : ∃ n' m' k' : Nat, jJ u.1 W n' m' k' ∧ k' ≤ k + 100 ∧ W 0 0 = r5 ∧ (r5 = 0 → u.2 0 = r6.toInt64) := by
  obtain ⟨c1, c2, c3⟩ := hag
  by_cases hc : code = 0
  · obtain ⟨a1, a2, n', m', k', a3, a4⟩ := hs hc
    obtain ⟨b1, b2⟩ := hm.2 hc
    obtain ⟨c4, c5⟩ := c2 hc
    exact ⟨n', m', k', by rw [c4, b2]; exact a3, a4, by rw [b2, a2, c1, hc], fun _ => by rw [c5, b1, a1]⟩
  · obtain ⟨b1, b2⟩ := hm.1 hc
    exact ⟨n, m, k, by rw [c3 hc, b2]; exact jJ_0 _ h, by omega, by rw [b2, c1]; exact xs_self _ _ _ _, fun q => absurd (c1 ▸ q) hc⟩
theorem fin_genV {V M U N W : XV} {n m k : Nat} {r5 code : Int32} {u : XV × (Nat → Int64)} (h : jJ V M n m k) (hag : agV r5 code U V u) (hm : (¬ code = 0 → W = xs M 0 0 code) ∧ (code = 0 → W = N)) (hs : code = 0 → semV U N k) : ∃ n' m' k' : Nat, jJ u.1 W n' m' k' ∧ k' ≤ k + 100 ∧ W 0 0 = r5 := by
  obtain ⟨c1, c2, c3⟩ := hag
  by_cases hc : code = 0
  · obtain ⟨a2, n', m', k', a3, a4⟩ := hs hc
    have b2 := hm.2 hc
    have c4 := c2 hc
    exact ⟨n', m', k', by rw [c4, b2]; exact a3, a4, by rw [b2, a2, c1, hc]⟩
  · have b2 := hm.1 hc
    exact ⟨n, m, k, by rw [c3 hc, b2]; exact jJ_0 _ h, by omega, by rw [b2, c1]; exact xs_self _ _ _ _⟩
theorem ag_4 {ex : Option String} {code r z : Int32} {U V : XV} {u : XV × (Nat → Int64)} (h : ex4 ex code) (hw : wP ex U V z tb3 r u) : agP r code U V z u := by
  have n1 := n_IOIA
  have n2 := n_IOIS
  have n3 := n_IAIS
  rcases hw with ⟨h1, h2, h3, h4⟩ | ⟨q, hq, h1, h2, h3⟩
  · rcases h with ⟨a, b⟩ | ⟨a, b⟩ | ⟨a, b⟩ | ⟨a, b⟩
    · exact ⟨by rw [h2, a], fun _ => ⟨h3, h4⟩, fun c => absurd a c⟩
    · rw [h1] at b; cases b
    · rw [h1] at b; cases b
    · rw [h1] at b; cases b
  · simp only [tb3, List.mem_cons, List.not_mem_nil, or_false] at hq
    rcases h with ⟨a, b⟩ | ⟨a, b⟩ | ⟨a, b⟩ | ⟨a, b⟩
    · rw [h1] at b; cases b
    · have e : q.1 = xIO := Option.some.inj (h1.symm.trans b)
      rcases hq with hq | hq | hq
      · subst hq; exact ⟨by rw [h2, a], fun c => absurd (a.symm.trans c) (by decide), fun _ => h3⟩
      · subst hq; exact absurd e.symm n1
      · subst hq; exact absurd e.symm n2
    · have e : q.1 = xIA := Option.some.inj (h1.symm.trans b)
      rcases hq with hq | hq | hq
      · subst hq; exact absurd e n1
      · subst hq; exact ⟨by rw [h2, a], fun c => absurd (a.symm.trans c) (by decide), fun _ => h3⟩
      · subst hq; exact absurd e.symm n3
    · have e : q.1 = xIS := Option.some.inj (h1.symm.trans b)
      rcases hq with hq | hq | hq
      · subst hq; exact absurd e n2
      · subst hq; exact absurd e n3
      · subst hq; exact ⟨by rw [h2, a], fun c => absurd (a.symm.trans c) (by decide), fun _ => h3⟩
theorem ex_in4 {ex : Option String} {code : Int32} (h : ex4 ex code) : exIn ex tb3 := by
  intro E hE
  rcases h with ⟨a, b⟩ | ⟨a, b⟩ | ⟨a, b⟩ | ⟨a, b⟩
  · rw [hE] at b; cases b
  · exact ⟨1, by rw [Option.some.inj (hE.symm.trans b)]; exact List.mem_of_getElem? (i := 0) rfl⟩
  · exact ⟨2, by rw [Option.some.inj (hE.symm.trans b)]; exact List.mem_of_getElem? (i := 1) rfl⟩
  · exact ⟨3, by rw [Option.some.inj (hE.symm.trans b)]; exact List.mem_of_getElem? (i := 2) rfl⟩
theorem in_dev {V M : XV} {n m k : Nat} (h : jJ V M n m k) {d : Int32} (hb : inB d 0 (M 0 6 - 1) = true) : ∃ j : Nat, j < n ∧ j < 10 ∧ d = nI j ∧ d.toNatClampNeg = j := by
  have hn := h.1.2.2.1
  obtain ⟨j, hj, e⟩ := inN hb h.1.2.1 (by omega)
  exact ⟨j, hj, by omega, e, cl_eq e (by omega)⟩
theorem in_cam {V M : XV} {n m k : Nat} (h : jJ V M n m k) {q : Int32} (hb : inB q 0 (M 0 15 - 1) = true) : ∃ j : Nat, j < m ∧ j < 6 ∧ q = nI j ∧ q.toNatClampNeg = j := by
  have hm := h.1.2.2.2.2.2.1
  obtain ⟨j, hj, e⟩ := inN hb h.1.2.2.2.2.1 (by omega)
  exact ⟨j, hj, by omega, e, cl_eq e (by omega)⟩
theorem cod_dev {V M : XV} {n m k : Nat} (h : jJ V M n m k) {d : Int32} (hc : codeDev M d = 0) : ∃ j : Nat, j < n ∧ j < 10 ∧ d = nI j ∧ d.toNatClampNeg = j := in_dev h (ite_ne hc (by decide)).1
theorem cod_cam {V M : XV} {n m k : Nat} (h : jJ V M n m k) {q : Int32} (hc : codeCam M q = 0) : ∃ j : Nat, j < m ∧ j < 6 ∧ q = nI j ∧ q.toNatClampNeg = j := in_cam h (ite_ne hc (by decide)).1
theorem sem_allow {V M : XV} {n m k : Nat} (h : jJ V M n m k) {v z : Int32} (hc : codeAllow v z = 0) : semP (xs V 1 v.toNatClampNeg z) (xs (xs M 0 0 (codeAllow v z)) 1 v.toNatClampNeg z) (V 1 v.toNatClampNeg) (M 1 v.toNatClampNeg) k :=
  ⟨(h.2.1.1 _ (in7 (codeAllow_in hc).1)).symm, by rw [xs_get _ _ (by omega), xs_self, hc], n, m, k, jJ_allow z (jJ_0 _ h), by omega⟩
theorem sem_image {V M : XV} {n m k : Nat} (h : jJ V M n m k) {v z : Int32} (hc : codeImage v z = 0) : semP (measV (xs V 5 v.toNatClampNeg z)) (xs (xs M 0 0 (codeImage v z)) 2 v.toNatClampNeg z) (V 5 v.toNatClampNeg) (M 2 v.toNatClampNeg) k :=
  ⟨(h.2.1.2.1 _ (in7 (codeImage_in hc).1)).symm, by rw [xs_get _ _ (by omega), xs_self, hc], n, m, k, jJ_image (in7 (codeImage_in hc).1) (codeImage_in hc).2 (jJ_0 _ h), by omega⟩
theorem codeDelta_z {f t z : Int32} (hc : codeDelta f t z = 0) : szB z = true := by
  have h2 := (ite_ne hc (by decide)).2
  by_cases he : f = t
  · rw [if_pos he] at h2; exact absurd h2 (by decide)
  · rw [if_neg he] at h2; exact (ite_ne h2 (by decide)).1
theorem sem_delta {V M : XV} {n m k : Nat} (h : jJ V M n m k) {f t z : Int32} (hc : codeDelta f t z = 0) : semP (measV (xs V (25 + f.toNatClampNeg) t.toNatClampNeg z)) (xs (xs M 0 0 (codeDelta f t z)) 3 (8 * f.toNatClampNeg + t.toNatClampNeg) z) (V (25 + f.toNatClampNeg) t.toNatClampNeg) (M 3 (8 * f.toNatClampNeg + t.toNatClampNeg)) k := by
  obtain ⟨h1, h2⟩ := codeDelta_in hc
  exact ⟨(h.2.1.2.2.1 _ _ (in7 h1) (in7 h2)).symm, by rw [xs_get _ _ (by omega), xs_self, hc], n, m, k, jJ_delta (in7 h1) (in7 h2) (codeDelta_z hc) (jJ_0 _ h), by omega⟩
theorem sem_size {V M : XV} {n m k : Nat} (h : jJ V M n m k) {f t : Int32} (hc : codeSize f t = 0) : semP V (szV (xs M 0 0 (codeSize f t)) f) (lbI V f t) (szI (xs M 0 0 (codeSize f t)) f t) k := by
  obtain ⟨h1, h2⟩ := codeSize_in hc
  exact ⟨jJ_lb (jJ_0 _ h) (inB_7 h1) (inB_7 h2), by rw [szV_fr _ _ (by omega), xs_self, hc], n, m, k, jJ_sz f (jJ_0 _ h), by omega⟩
theorem sem_ways {V M : XV} {n m k : Nat} (h : jJ V M n m k) {f t : Int32} (hc : codeSize f t = 0) : semP V (szV (xs M 0 0 (codeSize f t)) f) (awI V f.toNatClampNeg t.toNatClampNeg) (szI (xs M 0 0 (codeSize f t)) f t) k := by
  obtain ⟨h1, h2⟩ := codeSize_in hc
  obtain ⟨a1, a2, a3, a4, a5, a6⟩ := h.2.1
  exact ⟨(jJ_lb (jJ_0 _ h) (inB_7 h1) (inB_7 h2)).trans (aw_lb a4 a5 a6 (inB_7 h1) (inB_7 h2)).symm, by rw [szV_fr _ _ (by omega), xs_self, hc], n, m, k, jJ_sz f (jJ_0 _ h), by omega⟩
theorem addM_00 (M : XV) (n : Nat) (k v : Int32) : addM M n k v 0 0 = M 0 0 := by
  unfold addM
  rw [xs_get _ _ (by omega)]
  unfold addM0
  rw [xs_get _ _ (by omega), xs_get _ _ (by omega), xs_get _ _ (by omega), xs_get _ _ (by omega), xs_get _ _ (by omega), xs_get _ _ (by omega)]
theorem sem_add {V M : XV} {n m k : Nat} (h : jJ V M n m k) {k9 v : Int32} (hc : codeAdd M k9 v = 0) : semP (addV V n k9 v) (addM (xs M 0 0 (codeAdd M k9 v)) n k9 v) (addV V n k9 v (9 + n) 0) (addM (xs M 0 0 (codeAdd M k9 v)) n k9 v 0 6 - 1) k := by
  have hn := codeAdd_n hc h.1.2.1 h.1.2.2.1
  have hv : inB v 0 7 = true := (Bool.and_eq_true_iff.mp (ite_ne hc (by decide)).1).2
  obtain ⟨h1, h2⟩ := jJ_add (k9 := k9) hn (inB_7 hv) (jJ_0 (codeAdd M k9 v) h)
  exact ⟨h2.symm, by rw [addM_00, xs_self, hc], n + 1, m, k, h1, by omega⟩
theorem sem_charge {V M : XV} {n m k : Nat} (h : jJ V M n m k) {d z : Int32} (hc : codeCharge M d z = 0) : semP (xs V (9 + d.toNatClampNeg) 3 z) (xs (xs M 0 0 (codeCharge M d z)) 7 d.toNatClampNeg z) (V (9 + d.toNatClampNeg) 3) (M 7 d.toNatClampNeg) k := by
  obtain ⟨j, hj, hj10, e, ej⟩ := in_dev h (ite_ne hc (by decide)).1
  obtain ⟨_, _, _, _, _, _, _, _, qn, _⟩ := h.2.2.1 j hj10
  rw [ej]
  exact ⟨(qn hj).1.symm, by rw [xs_get _ _ (by omega), xs_self, hc], n, m, k, jJ_charge hj z (jJ_0 _ h), by omega⟩
theorem sem_window {V M : XV} {n m k : Nat} (h : jJ V M n m k) {d f t : Int32} (hc : codeWindow M d f t = 0) : semV (xs (xs V (9 + d.toNatClampNeg) 4 f) (9 + d.toNatClampNeg) 5 t) (xs (xs (xs M 0 0 (codeWindow M d f t)) 8 d.toNatClampNeg f) 9 d.toNatClampNeg t) k := by
  obtain ⟨j, hj, hj10, e, ej⟩ := in_dev h (ite_ne hc (by decide)).1
  rw [ej]
  exact ⟨by rw [xs_get _ _ (by omega), xs_get _ _ (by omega), xs_self, hc], n, m, k, jJ_window hj f t (jJ_0 _ h), by omega⟩
theorem judgeM_00 (M : XV) (q : Nat) : judgeM M q 0 0 = M 0 0 := by
  unfold judgeM
  split
  · rfl
  · split
    · split
      · split
        · rfl
        · rw [xs_get _ _ (by omega), xs_get _ _ (by omega), xs_get _ _ (by omega)]
      · rw [xs_get _ _ (by omega)]
    · rfl
theorem reportM_00 (M : XV) (d c : Nat) (dz z : Int32) : reportM M d c dz z 0 0 = M 0 0 := by
  unfold reportM
  rw [judgeM_00]
  unfold reportM4
  rw [xs_get _ _ (by omega)]
  unfold reportM3
  rw [xs_get _ _ (by omega)]
  unfold reportM2
  rw [xs_get _ _ (by omega)]
  unfold reportM1
  rw [xs_get _ _ (by omega), xs_get _ _ (by omega), xs_get _ _ (by omega)]
theorem rep_c {V M : XV} {n m k : Nat} (h : jJ V M n m k) {d : Int32} (hc : codeReport M d = 0) : ∃ j c : Nat, j < n ∧ j < 10 ∧ d = nI j ∧ d.toNatClampNeg = j ∧ c < m ∧ V (9 + j) 7 = nI c ∧ M 11 j = nI c := by
  obtain ⟨j, hj, hj10, e, ej⟩ := in_dev h (ite_ne hc (by decide)).1
  have h2 := (codeReport_in hc h.1.2.1 h.1.2.2.1).2
  rw [ej] at h2
  obtain ⟨_, _, _, _, q6, _, _, q7, qn, _⟩ := h.2.2.1 j hj10
  obtain ⟨c, hc1, hc2⟩ := q7 (by rw [q6, h2]; decide)
  exact ⟨j, c, hj, hj10, e, ej, hc1, hc2, by rw [← (qn hj).2.2.2, hc2]⟩
theorem sem_report {V M : XV} {n m k : Nat} (h : jJ V M n m k) {d z : Int32} (hc : codeReport M d = 0) : semP (reportV V (9 + d.toNatClampNeg) (19 + (V (9 + d.toNatClampNeg) 7).toNatClampNeg) z) (reportM (xs M 0 0 (codeReport M d)) d.toNatClampNeg (M 11 d.toNatClampNeg).toNatClampNeg d z) (reportV V (9 + d.toNatClampNeg) (19 + (V (9 + d.toNatClampNeg) 7).toNatClampNeg) z (9 + d.toNatClampNeg) 2) (reportM (xs M 0 0 (codeReport M d)) d.toNatClampNeg (M 11 d.toNatClampNeg).toNatClampNeg d z 6 d.toNatClampNeg) k := by
  obtain ⟨j, c, hj, hj10, e, ej, hcm, ec, ecM⟩ := rep_c h hc
  have hm := h.1.2.2.2.2.2.1
  have hcc : (nI c).toNatClampNeg = c := nI_clamp (by omega)
  rw [ej, ec, ecM, hcc, e]
  have hJ := jJ_report hj hcm z (jJ_0 (codeReport M (nI j)) h)
  obtain ⟨_, _, q2, _⟩ := hJ.2.2.1 j hj10
  rw [e] at hc
  exact ⟨q2.symm, by rw [reportM_00, xs_self, hc], n, m, k, hJ, by omega⟩
theorem sem_dev {V M : XV} {n m k : Nat} (h : jJ V M n m k) {d : Int32} (hc : codeDev M d = 0) {p q : Nat} (hq : ∀ j, j < n → j < 10 → V (9 + j) p = M q j) : semP V (xs M 0 0 (codeDev M d)) (V (9 + d.toNatClampNeg) p) (M q d.toNatClampNeg) k := by
  obtain ⟨j, hj, hj10, e, ej⟩ := cod_dev h hc
  rw [ej]
  exact ⟨(hq j hj hj10).symm, by rw [xs_self, hc], n, m, k, jJ_0 _ h, by omega⟩
theorem sem_state {V M : XV} {n m k : Nat} (h : jJ V M n m k) {d : Int32} (hc : codeDev M d = 0) : semP V (xs M 0 0 (codeDev M d)) (V (9 + d.toNatClampNeg) 6) (M 10 d.toNatClampNeg) k := sem_dev h hc (fun j _ h10 => (h.2.2.1 j h10).2.2.2.2.1)
theorem sem_version {V M : XV} {n m k : Nat} (h : jJ V M n m k) {d : Int32} (hc : codeDev M d = 0) : semP V (xs M 0 0 (codeDev M d)) (V (9 + d.toNatClampNeg) 2) (M 6 d.toNatClampNeg) k := sem_dev h hc (fun j _ h10 => (h.2.2.1 j h10).2.2.1)
theorem sem_campaignOf {V M : XV} {n m k : Nat} (h : jJ V M n m k) {d : Int32} (hc : codeDev M d = 0) : semP V (xs M 0 0 (codeDev M d)) (V (9 + d.toNatClampNeg) 7) (M 11 d.toNatClampNeg) k := sem_dev h hc (fun j hj h10 => ((h.2.2.1 j h10).2.2.2.2.2.2.2.2.1 hj).2.2.2)
theorem sem_toGo {V M : XV} {n m k : Nat} (h : jJ V M n m k) {d : Int32} (hc : codeDev M d = 0) : semP V (xs M 0 0 (codeDev M d)) (V (9 + d.toNatClampNeg) 8) (M 12 d.toNatClampNeg) k := sem_dev h hc (fun j _ h10 => (h.2.2.1 j h10).2.2.2.2.2.1)
theorem sem_battery {V M : XV} {n m k : Nat} (h : jJ V M n m k) {d : Int32} (hc : codeDev M d = 0) : semP V (xs M 0 0 (codeDev M d)) (V (9 + d.toNatClampNeg) 3) (M 7 d.toNatClampNeg) k := sem_dev h hc (fun j hj h10 => ((h.2.2.1 j h10).2.2.2.2.2.2.2.2.1 hj).1)
theorem beginM_00 (M : XV) (n : Nat) (t k vs rep : Int32) : beginM M n t k vs rep 0 0 = M 0 0 := by
  unfold beginM
  rw [xs_get _ _ (by omega)]
  unfold beginM2
  rw [xs_get _ _ (by omega), xs_get _ _ (by omega), xs_get _ _ (by omega), xs_get _ _ (by omega), xs_get _ _ (by omega)]
  unfold beginM1
  rw [xs_get _ _ (by omega), xs_get _ _ (by omega), xs_get _ _ (by omega), xs_get _ _ (by omega)]
  unfold beginM0
  split
  · rfl
  · rw [xs_get _ _ (by omega)]
theorem sem_begin {V M : XV} {n m k : Nat} (h : jJ V M n m k) {t k9 vs rep : Int32} (hc : codeBegin M t k9 vs rep = 0) : semP (beginV V m t k9 vs rep) (beginM (xs M 0 0 (codeBegin M t k9 vs rep)) m t k9 vs rep) (beginV V m t k9 vs rep (19 + m) 0) (beginM (xs M 0 0 (codeBegin M t k9 vs rep)) m t k9 vs rep 0 15 - 1) k := by
  have hm := (codeBegin_n hc h.1.2.2.2.2.1 h.1.2.2.2.2.2.1).1
  obtain ⟨ht, hr⟩ := Bool.and_eq_true_iff.mp (ite_ne hc (by decide)).1
  have hr2 : rep = -1 ∨ ∃ r, r < m ∧ rep = nI r := by
    rcases Bool.or_eq_true_iff.mp hr with hr | hr
    · exact Or.inl (of_decide_eq_true hr)
    · obtain ⟨j, hj, _, e, _⟩ := in_cam h hr
      exact Or.inr ⟨j, hj, e⟩
  obtain ⟨h1, h2⟩ := jJ_begin hm (inB_7 ht) k9 vs hr2 (jJ_0 (codeBegin M t k9 vs rep) h)
  exact ⟨h2.symm, by rw [beginM_00, xs_self, hc], n, m + 1, k, h1, by omega⟩
theorem rulesM_00 (M : XV) (q : Nat) (f s n th : Int32) : rulesM M q f s n th 0 0 = M 0 0 := by
  unfold rulesM
  rw [xs_get _ _ (by omega), xs_get _ _ (by omega), xs_get _ _ (by omega), xs_get _ _ (by omega)]
theorem sem_rules {V M : XV} {n m k : Nat} (h : jJ V M n m k) {q f s9 n9 th : Int32} (hc : codeRules M q f s9 n9 th = 0) : semV (rulesV V (19 + q.toNatClampNeg) f s9 n9 th) (rulesM (xs M 0 0 (codeRules M q f s9 n9 th)) q.toNatClampNeg f s9 n9 th) k := by
  obtain ⟨j, hj, _, e, ej⟩ := in_cam h (ite_ne hc (by decide)).1
  rw [ej]
  exact ⟨by rw [rulesM_00, xs_self, hc], n, m, k, jJ_rules hj f s9 n9 th (jJ_0 _ h), by omega⟩
theorem toggleM_00 (M : XV) (q : Nat) : toggleM M q 0 0 = M 0 0 := by
  unfold toggleM
  split
  · rw [xs_get _ _ (by omega), xs_get _ _ (by omega), xs_get _ _ (by omega)]
  · rw [xs_get _ _ (by omega)]
theorem toggleV_01 (V : XV) (q : Nat) : toggleV V q q 8 = 0 ∨ toggleV V q q 8 = 1 := by
  unfold toggleV
  split
  · right
    unfold ringV
    rw [xs_get _ _ (by omega), xs_get _ _ (by omega), xs_get _ _ (by omega), xs_self]
  · left
    rw [xs_self]
theorem sem_toggle {V M : XV} {n m k : Nat} (h : jJ V M n m k) {q : Int32} (hc : codeCam M q = 0) : semP (toggleV V (19 + q.toNatClampNeg)) (toggleM (xs M 0 0 (codeCam M q)) q.toNatClampNeg) (toggleV V (19 + q.toNatClampNeg) (19 + q.toNatClampNeg) 8) (toggleM (xs M 0 0 (codeCam M q)) q.toNatClampNeg 16 q.toNatClampNeg) k := by
  obtain ⟨j, hj, _, e, ej⟩ := cod_cam h hc
  rw [ej]
  obtain ⟨h1, h2⟩ := jJ_toggle hj (jJ_0 (codeCam M q) h)
  exact ⟨h2.symm, by rw [toggleM_00, xs_self, hc], n, m, k, h1, by omega⟩
theorem tog_01 {V M : XV} {n m k : Nat} (h : jJ V M n m k) {q : Int32} (hc : codeCam M q = 0) : toggleM (xs M 0 0 (codeCam M q)) q.toNatClampNeg 16 q.toNatClampNeg = 0 ∨ toggleM (xs M 0 0 (codeCam M q)) q.toNatClampNeg 16 q.toNatClampNeg = 1 := by
  rw [(sem_toggle h hc).1]
  exact toggleV_01 V _
theorem sem_cam {V M : XV} {n m k : Nat} (h : jJ V M n m k) {q : Int32} (hc : codeCam M q = 0) {z z' : Nat → Int32} (hz : ∀ j, j < m → j < 6 → z j = z' j) : semP V (xs M 0 0 (codeCam M q)) (z q.toNatClampNeg) (z' q.toNatClampNeg) k := by
  obtain ⟨j, hj, hj6, e, ej⟩ := cod_cam h hc
  rw [ej]
  exact ⟨(hz j hj hj6).symm, by rw [xs_self, hc], n, m, k, jJ_0 _ h, by omega⟩
theorem act_01 {V M : XV} {n m k : Nat} (h : jJ V M n m k) {c : Nat} (hc : c < 6) : V (19 + c) 8 = 0 ∨ V (19 + c) 8 = 1 := (h.2.2.2 c hc).2.2.2.2.2.2.2.2.2.2.1
theorem act_V {V M : XV} {n m k : Nat} (h : jJ V M n m k) {c : Nat} (hc : c < 6) (hm : c < m) : V (19 + c) 8 = b2i (!decide (M 16 c = 0)) := by
  obtain ⟨_, _, _, _, _, _, _, _, _, _, h8, hq, _⟩ := h.2.2.2 c hc
  rw [← (hq hm).2.2.2.2.2]
  rcases h8 with h8 | h8 <;> rw [h8] <;> decide
theorem sem_isActive {V M : XV} {n m k : Nat} (h : jJ V M n m k) {q : Int32} (hc : codeCam M q = 0) : semP V (xs M 0 0 (codeCam M q)) (V (19 + q.toNatClampNeg) 8) (b2i (!decide (M 16 q.toNatClampNeg = 0))) k := sem_cam h hc (z := fun j => V (19 + j) 8) (z' := fun j => b2i (!decide (M 16 j = 0))) (fun j hj h6 => act_V h h6 hj)
theorem sem_ring {V M : XV} {n m k : Nat} (h : jJ V M n m k) {q : Int32} (hc : codeCam M q = 0) : semP V (xs M 0 0 (codeCam M q)) (V (19 + q.toNatClampNeg) 9) (M 17 q.toNatClampNeg) k := sem_cam h hc (z := fun j => V (19 + j) 9) (z' := fun j => M 17 j) (fun j hj h6 => (h.2.2.2 j h6).2.2.2.2.2.1)
theorem sem_reports {V M : XV} {n m k : Nat} (h : jJ V M n m k) {q : Int32} (hc : codeCam M q = 0) : semP V (xs M 0 0 (codeCam M q)) (V (19 + q.toNatClampNeg) 10) (M 21 q.toNatClampNeg) k := sem_cam h hc (z := fun j => V (19 + j) 10) (z' := fun j => M 21 j) (fun j hj h6 => (h.2.2.2 j h6).2.2.2.2.2.2.2.1)
theorem sem_eligible {V M : XV} {n m k : Nat} (h : jJ V M n m k) {q : Int32} (hc : codeCam M q = 0) : semP V (meV (xs M 0 0 (codeCam M q)) q.toNatClampNeg n) (elI V (19 + q.toNatClampNeg) n) (meI (xs M 0 0 (codeCam M q)) q.toNatClampNeg n) k := by
  obtain ⟨j, hj, hj6, e, ej⟩ := cod_cam h hc
  rw [ej]
  obtain ⟨h1, h2⟩ := el_eq hj (jJ_0 (codeCam M q) h) n h.1.2.2.1
  exact ⟨h2.symm, by rw [meV_4 _ _ _ 0 0 (by omega), xs_self, hc], n, m, k, h1, by omega⟩
theorem sem_pass {V M : XV} {n m k : Nat} (hk : k + 100 ≤ 60000) (h : jJ V M n m k) {h9 : Int32} (hc : codePass h9 = 0) : semP (paV V n m h9.toNatClampNeg) (paM (xs M 0 0 (codePass h9)) n m h9.toNatClampNeg) (paT V n m h9.toNatClampNeg) (paN (xs M 0 0 (codePass h9)) n m h9.toNatClampNeg) k := by
  obtain ⟨N, hN, e⟩ := codePass_h hc
  have ej : h9.toNatClampNeg = N := cl_eq e (by omega)
  rw [ej]
  obtain ⟨h1, h2⟩ := pa_j (jJ_0 (codePass h9) h) N (by omega)
  exact ⟨h2.symm, by rw [paM_keep _ n m N 0 0 (by omega) (fun _ => by omega), xs_self, hc], n, m, k + N, h1, by omega⟩
/-! ===== END lawsem ===== -/
