/-! ===== BEGIN agree: what a small method of the law leaves, against the reference's number ===== -/
def agP (r code : Int32) (U V : XV) (z : Int32) (u : XV × (Nat → Int64)) : Prop := r = code ∧ (code = 0 → u.1 = U ∧ u.2 0 = z.toInt64) ∧ (¬ code = 0 → u.1 = V)
def agV (r code : Int32) (U V : XV) (u : XV × (Nat → Int64)) : Prop := r = code ∧ (code = 0 → u.1 = U) ∧ (¬ code = 0 → u.1 = V)
theorem n_IOIA : xIO ≠ xIA := by decide
theorem n_IOIS : xIO ≠ xIS := by decide
theorem n_IAIS : xIA ≠ xIS := by decide
theorem ag_3 {ex : Option String} {code r z : Int32} {U V : XV} {u : XV × (Nat → Int64)} {E2 : String} (hn : xIO ≠ E2) (h : ex3 ex code xIO E2) (hw : wP ex U V z [(xIO, 1), (E2, 2)] r u) : agP r code U V z u := by
  rcases hw with ⟨h1, h2, h3, h4⟩ | ⟨q, hq, h1, h2, h3⟩
  · rcases h with ⟨a, b⟩ | ⟨a, b⟩ | ⟨a, b⟩
    · exact ⟨by rw [h2, a], fun _ => ⟨h3, h4⟩, fun c => absurd a c⟩
    · rw [h1] at b; cases b
    · rw [h1] at b; cases b
  · rcases h with ⟨a, b⟩ | ⟨a, b⟩ | ⟨a, b⟩
    · rw [h1] at b; cases b
    · have e : q.1 = xIO := Option.some.inj (h1.symm.trans b)
      rcases List.mem_cons.mp hq with hq | hq
      · subst hq; exact ⟨by rw [h2, a], fun c => absurd (a.symm.trans c) (by decide), fun _ => h3⟩
      · have := List.mem_singleton.mp hq; subst this; exact absurd e.symm hn
    · have e : q.1 = E2 := Option.some.inj (h1.symm.trans b)
      rcases List.mem_cons.mp hq with hq | hq
      · subst hq; exact absurd e hn
      · have := List.mem_singleton.mp hq; subst this; exact ⟨by rw [h2, a], fun c => absurd (a.symm.trans c) (by decide), fun _ => h3⟩
theorem ex_in3 {ex : Option String} {code : Int32} {E2 : String} (h : ex3 ex code xIO E2) : exIn ex [(xIO, 1), (E2, 2)] := by
  intro E hE
  rcases h with ⟨a, b⟩ | ⟨a, b⟩ | ⟨a, b⟩
  · rw [hE] at b; cases b
  · exact ⟨1, by rw [Option.some.inj (hE.symm.trans b)]; exact List.mem_cons_self⟩
  · exact ⟨2, by rw [Option.some.inj (hE.symm.trans b)]; exact List.mem_cons_of_mem _ List.mem_cons_self⟩
theorem ag_3V {ex : Option String} {code r : Int32} {U V : XV} {u : XV × (Nat → Int64)} {E2 : String} (hn : xIO ≠ E2) (h : ex3 ex code xIO E2) (hw : wV ex U V [(xIO, 1), (E2, 2)] r u) : agV r code U V u := by
  rcases hw with ⟨h1, h2, h3⟩ | ⟨q, hq, h1, h2, h3⟩
  · rcases h with ⟨a, b⟩ | ⟨a, b⟩ | ⟨a, b⟩
    · exact ⟨by rw [h2, a], fun _ => h3, fun c => absurd a c⟩
    · rw [h1] at b; cases b
    · rw [h1] at b; cases b
  · rcases h with ⟨a, b⟩ | ⟨a, b⟩ | ⟨a, b⟩
    · rw [h1] at b; cases b
    · have e : q.1 = xIO := Option.some.inj (h1.symm.trans b)
      rcases List.mem_cons.mp hq with hq | hq
      · subst hq; exact ⟨by rw [h2, a], fun c => absurd (a.symm.trans c) (by decide), fun _ => h3⟩
      · have := List.mem_singleton.mp hq; subst this; exact absurd e.symm hn
    · have e : q.1 = E2 := Option.some.inj (h1.symm.trans b)
      rcases List.mem_cons.mp hq with hq | hq
      · subst hq; exact absurd e hn
      · have := List.mem_singleton.mp hq; subst this; exact ⟨by rw [h2, a], fun c => absurd (a.symm.trans c) (by decide), fun _ => h3⟩
def ex2 (ex : Option String) (code : Int32) (E1 : String) : Prop := (code = 0 ∧ ex = none) ∨ (code = 1 ∧ ex = some E1)
theorem ex2_size (f t : Int32) : ex2 (sizeX f t) (codeSize f t) xIO := by
  unfold ex2 codeSize sizeX seqx
  rcases nVx_T f with ⟨h1, h2⟩ | ⟨h1, h2⟩ <;> rcases nVx_T t with ⟨h5, h6⟩ | ⟨h5, h6⟩ <;> simp [h1, h2, h5, h6]
theorem ex2_dev {V M : XV} {n m k : Nat} (h : jJ V M n m k) (d : Int32) : ex2 (nDx V d) (codeDev M d) xIO := by
  unfold ex2 codeDev
  rcases nDx_T h d with ⟨h1, h2⟩ | ⟨h1, h2⟩ <;> simp [h1, h2]
theorem ex2_cam {V M : XV} {n m k : Nat} (h : jJ V M n m k) (d : Int32) : ex2 (nCx V d) (codeCam M d) xIO := by
  unfold ex2 codeCam
  rcases nCx_T h d with ⟨h1, h2⟩ | ⟨h1, h2⟩ <;> simp [h1, h2]
theorem ex_in2 {ex : Option String} {code : Int32} {E1 : String} (h : ex2 ex code E1) : exIn ex [(E1, 1)] := by
  intro E hE
  rcases h with ⟨a, b⟩ | ⟨a, b⟩
  · rw [hE] at b; cases b
  · exact ⟨1, by rw [Option.some.inj (hE.symm.trans b)]; exact List.mem_cons_self⟩
theorem ag_2 {ex : Option String} {code r z : Int32} {U V : XV} {u : XV × (Nat → Int64)} {E1 : String} (h : ex2 ex code E1) (hw : wP ex U V z [(E1, 1)] r u) : agP r code U V z u := by
  rcases hw with ⟨h1, h2, h3, h4⟩ | ⟨q, hq, h1, h2, h3⟩
  · rcases h with ⟨a, b⟩ | ⟨a, b⟩
    · exact ⟨by rw [h2, a], fun _ => ⟨h3, h4⟩, fun c => absurd a c⟩
    · rw [h1] at b; cases b
  · rcases h with ⟨a, b⟩ | ⟨a, b⟩
    · rw [h1] at b; cases b
    · have := List.mem_singleton.mp hq; subst this; exact ⟨by rw [h2, a], fun c => absurd (a.symm.trans c) (by decide), fun _ => h3⟩
/-! ===== END agree ===== -/
