/-! ===== BEGIN perm: a world in another order ===== -/
theorem va_P.perm {D : va_G} {cl : List vw_C} {ws ws' : va_W} {H : Heap} (hp : ws.Perm ws') (h : va_P D cl ws H) : va_P D cl ws' H := by
  intro k x hk
  obtain ⟨j, hj⟩ := List.getElem?_of_mem (hp.mem_iff.mpr (List.mem_of_getElem? hk))
  exact h j x hj
theorem va_D.perm {A : Nat → Prop} {ws ws' : va_W} (hp : ws.Perm ws') (h : va_D A ws) : va_D A ws' := by
  have n1 : (ws.map Prod.fst).Nodup := by
    unfold List.Nodup
    rw [List.pairwise_iff_getElem]
    intro i j hi hj hij e
    rw [List.length_map] at hi hj
    rw [List.getElem_map, List.getElem_map] at e
    have := h.1 i j _ _ (List.getElem?_eq_getElem hi) (List.getElem?_eq_getElem hj) e
    omega
  have n2 : (ws'.map Prod.fst).Nodup := (hp.map Prod.fst).nodup_iff.mp n1
  unfold List.Nodup at n2
  rw [List.pairwise_iff_getElem] at n2
  refine ⟨fun i j p q hi hj e => ?_, fun k q hk => ?_⟩
  · obtain ⟨hi1, hi2⟩ := List.getElem?_eq_some_iff.mp hi
    obtain ⟨hj1, hj2⟩ := List.getElem?_eq_some_iff.mp hj
    have key : ∀ a b (ha : a < ws'.length) (hb : b < ws'.length), a < b → ws'[a].1 ≠ ws'[b].1 := fun a b ha hb hab => by
      have h9 := n2 a b (by rw [List.length_map]; exact ha) (by rw [List.length_map]; exact hb) hab
      rw [List.getElem_map, List.getElem_map] at h9
      exact h9
    rcases Nat.lt_trichotomy i j with hlt | heq | hgt
    · exact absurd (by rw [hi2, hj2]; exact e) (key i j hi1 hj1 hlt)
    · exact heq
    · exact absurd (by rw [hi2, hj2]; exact e.symm) (key j i hj1 hi1 hgt)
  · obtain ⟨j, hj⟩ := List.getElem?_of_mem (hp.mem_iff.mpr (List.mem_of_getElem? hk))
    exact h.2 j q hj
theorem x_perm {p : Program} {l : Launch} {e : Env} {R : Room} {s : State} {m : MethodId} {args : Array Value} {below : List Frame} {meth : Method} {c : Code} {cells slots : Nat} {Q : State → Prop} {nL : Nat} {D : va_G} {A : Nat → Prop} {pc : Nat} {lv : List (Nat × Value)} {st : List Value} {ws ws' : va_W} (hp : ws.Perm ws')
    (kk : xA p l e R s m args below meth c D A nL cells slots Q pc lv st ws') : xA p l e R s m args below meth c D A nL cells slots Q pc lv st ws :=
  fun H locs ls hP hD hS hl => kk H locs ls (hP.perm hp) (hD.perm hp) hS hl
def rO : List Nat := [0, 1, 2, 5, 6, 25, 26, 27, 28, 29, 30, 31, 32, 7, 33, 34, 35, 36, 37, 38, 39, 40, 8, 3, 4, 9, 10, 11, 12, 13, 14, 15, 16, 17, 18, 19, 20, 21, 22, 23, 24]
theorem rO_perm : rO.Perm (List.range 41) := by decide +kernel
theorem v0_m {p : Nat} (h : p ≠ 1 ∧ (p < 9 ∨ 25 ≤ p)) : v0 p = measV w0 p := by
  funext k
  unfold v0
  rw [if_neg (by omega), if_neg (by omega), if_neg (by omega)]
theorem v0_1 : v0 1 = fillF (fun _ => 0) 15 8 := by
  funext k
  rw [fillF_at]
  unfold v0
  rw [if_pos rfl]
/-! ===== END perm ===== -/
