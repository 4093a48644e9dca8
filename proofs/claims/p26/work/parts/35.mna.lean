/-! ===== BEGIN mna: a new array of arrays, a new array of objects ===== -/
theorem va_P.refs {D : va_G} {cl : List vw_C} {a b : va_W} {q n : Nat} {cA : ClassId} {f g : Nat → Option Nat} {H : Heap} (hfg : ∀ j, j < n → f j = g j) (h : va_P D cl ((a ++ [(q, .inl (cA, n, .inr (.inr (.inr (.inr f)))))]) ++ b) H) : va_P D cl ((a ++ [(q, .inl (cA, n, .inr (.inr (.inr (.inr g)))))]) ++ b) H := by
  have hc : vp_cell cA (n, .inr (.inr (.inr (.inr f)))) = vp_cell cA (n, .inr (.inr (.inr (.inr g)))) := by
    rw [vp_cell_q, vp_cell_q]
    unfold arrV
    congr 2
    funext j
    show va_rf (f j.val) = va_rf (g j.val)
    rw [hfg j.val j.isLt]
  have hold : ∀ x, x ∈ (a ++ [(q, .inl (cA, n, .inr (.inr (.inr (.inr f)))))]) ++ b → va_at D cl x H := fun x hx => by
    obtain ⟨k, hk⟩ := List.getElem?_of_mem hx
    exact h k x hk
  intro k x hk
  have hm := List.mem_of_getElem? hk
  rcases List.mem_append.mp hm with hm | hm
  · rcases List.mem_append.mp hm with hm | hm
    · exact hold x (List.mem_append_left _ (List.mem_append_left _ hm))
    · rw [List.mem_singleton.mp hm]
      have h9 : H[q]? = some (vp_cell cA (n, .inr (.inr (.inr (.inr f))))) := hold (q, .inl (cA, n, .inr (.inr (.inr (.inr f))))) (List.mem_append_left _ (List.mem_append_right _ List.mem_cons_self))
      show H[q]? = some (vp_cell cA (n, .inr (.inr (.inr (.inr g)))))
      rw [h9, hc]
  · exact hold x (List.mem_append_right _ hm)
theorem va_D.fst {A : Nat → Prop} {ws ws' : va_W} (he : ws'.map Prod.fst = ws.map Prod.fst) (h : va_D A ws) : va_D A ws' := by
  have key : ∀ (k : Nat) (x : Nat × va_E), ws'[k]? = some x → ∃ y, ws[k]? = some y ∧ y.1 = x.1 := by
    intro k x hx
    have h1 : (ws'.map Prod.fst)[k]? = some x.1 := by rw [List.getElem?_map, hx]; rfl
    rw [he, List.getElem?_map] at h1
    cases hy : ws[k]? with
    | none => rw [hy] at h1; cases h1
    | some y => rw [hy] at h1; exact ⟨y, rfl, Option.some.inj h1⟩
  refine ⟨fun i j p q hi hj e => ?_, fun k q hk => ?_⟩
  · obtain ⟨y, hy, ey⟩ := key i p hi
    obtain ⟨z, hz, ez⟩ := key j q hj
    exact h.1 i j y z hy hz (by rw [ey, ez, e])
  · obtain ⟨y, hy, ey⟩ := key k q hk
    rw [← ey]; exact h.2 k y hy
theorem pl_rows (r : Nat → Nat) (f : Nat → va_E) (e : va_E) : va_pl ([] ++ (List.range 8).map r) (vr_up f ((List.range 8).map r) e) = (List.range 8).map (fun i => (r i, e)) := by
  unfold va_pl
  rw [List.nil_append, List.map_map]
  apply List.map_congr_left
  intro i hi
  show (r i, vr_up f ((List.range 8).map r) e (r i)) = (r i, e)
  unfold vr_up
  rw [if_pos (List.mem_map.mpr ⟨i, hi, rfl⟩)]
section MNA
variable {p : Program} {l : Launch} {e : Env} {R : Room} {s : State} {m : MethodId} {args : Array Value} {below : List Frame} {meth : Method} {c : Code} {cells slots : Nat} {Q : State → Prop} {cc : ByteArray} {nL : Nat} {own : String} {Ts : List Cond} {D : va_G} {A : Nat → Prop} {ret : Option FieldType} {pc : Nat} {lv : List (Nat × Value)} {st : List Value} {cy : Nat → ClassId} {B X : va_W} {x0 : Nat × va_E}
theorem x_mnaB (C : xC p s m args meth c cc nL own Ts D (tyC cy) A ret) (hE : xE A s) {index : Nat} (hlink : Cond.classLink own index ("[" ++ (FieldType.array .int).toString) ∈ Ts) (harr : Cond.arrayClass .int ∈ Ts) (hcs : cells + (1 + 8) ≤ R.cells ∧ slots + (8 + 8 * 8) ≤ R.slots) (hd : decode cc pc = .ok (.multianewarray index 2, 4))
    (kk : ∀ (q : Nat) (r : Nat → Nat), xA p l e R s m args below meth c D A nL (cells + 1 + 8) (slots + 8 + 8 * 8) Q (pc + 4) lv (.ref q :: st) (x0 :: (((B ++ [(q, .inl (cy 3, 8, .inr (.inr (.inr (.inr (fun i => some (r i)))))))]) ++ (List.range 8).map (fun i => (r i, .inl (cy 0, 8, .inl (fun _ => 0))))) ++ X))) : xA p l e R s m args below meth c D A nL cells slots Q pc lv (.int 8 :: .int 8 :: st) (x0 :: (B ++ X)) := by
  intro H locs ls hP hD hS hl
  have hcy : s.vm.findClass (FieldType.array .int).toString = some (cy 0) := (C.2.2.2.2.2.1.2 0 (cy 0, .int) rfl).2
  have hnil : (x0 :: (B ++ X)) ++ va_pl [] (fun _ => x0.2) = x0 :: (B ++ X) := List.append_nil _
  refine va_mna (X := x0 :: (B ++ X)) (L := []) (f := fun _ => x0.2) (n := 8) (k := 8) (N' := 8) (K' := 8) (z := (8, .inl fun _ => 0)) C.1 C.2.1 C.2.2.2.1 (C.2.2.2.2.1 _ hlink) hE.2.2.2.2.2.2.2 (C.2.2.2.2.1 _ harr) hcy C.2.2.2.2.2.1 (by rw [hnil]; exact hP) (by rw [hnil]; exact hD) hS C.2.2.2.2.2.2.1 (by decide) (by decide) (by decide) (by decide) (by decide) (by decide) (by decide) rfl rfl hcs.1 hcs.2 (fun c => rfl) hd ?_
  intro q r cA H1 hinj _ hK1 hP1 hD1 hS1
  have e1 := (hK1.2 4 (cA, .array .int) rfl).2
  have e2 := (C.2.2.2.2.2.1.2 3 (cy 3, .array .int) rfl).2
  have ec : cA = cy 3 := Option.some.inj (e1.symm.trans e2)
  subst ec
  rw [pl_rows] at hP1 hD1
  have hP2 := va_P.refs (g := fun i => some (r i)) (fun j hj => if_pos hj) hP1
  have hD2 := va_D.fst (ws' := ((x0 :: (B ++ X)) ++ [(q, .inl (cy 3, 8, .inr (.inr (.inr (.inr (fun i => some (r i)))))))]) ++ (List.range 8).map (fun i => (r i, .inl (cy 0, 8, .inl (fun _ => 0))))) (by simp only [List.map_append, List.map_cons, List.map_nil]) hD1
  rw [List.append_assoc] at hP2 hD2
  have hP3 := va_P.swap (a := x0 :: B) (b := X) hP2
  have hD3 := va_D.swap (a := x0 :: B) (b := X) hD2
  refine kk q r H1 locs ls ?_ ?_ hS1 hl
  · rw [List.append_assoc B, ← List.cons_append]; exact hP3
  · rw [List.append_assoc B, ← List.cons_append]; exact hD3
end MNA
/-! ===== END mna ===== -/
