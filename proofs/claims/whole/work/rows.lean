section
-- ===== PART A: goes FIRST, ahead of the names: the tables' words, and 'selects' of the private methods out of them =====
/-- a private method of a class that the tables say can be made, by its rows of tables_1 -/
def lw_okq (q : MethodName × Nat) : Prop := (q.1.cls ≠ "java/lang/invoke/MethodHandle" ∧ q.1.cls ≠ "java/lang/invoke/VarHandle") ∧ Cond.instantiable q.1.cls q.2 ∈ tables_1 ∧ Cond.privateMethod q.1 ∈ tables_1 ∧ Cond.instanceMethod q.1 ∈ tables_1
theorem lw_p0 : lw_okq (⟨"Ringroll$Ways", "measure", "()V"⟩, 4) := ⟨⟨by decide +kernel, by decide +kernel⟩, List.mem_of_getElem? (i := 23) (by decide +kernel), List.mem_of_getElem? (i := 34) (by decide +kernel), List.mem_of_getElem? (i := 35) (by decide +kernel)⟩
theorem lw_p1 : lw_okq (⟨"Ringroll$Ways", "measureVia", "(I)V"⟩, 4) := ⟨⟨by decide +kernel, by decide +kernel⟩, List.mem_of_getElem? (i := 23) (by decide +kernel), List.mem_of_getElem? (i := 42) (by decide +kernel), List.mem_of_getElem? (i := 43) (by decide +kernel)⟩
theorem lw_p2 : lw_okq (⟨"java/lang/Throwable", "fillInStackTrace", "(I)Ljava/lang/Throwable;"⟩, 6) := ⟨⟨by decide +kernel, by decide +kernel⟩, List.mem_of_getElem? (i := 246) (by decide +kernel), List.mem_of_getElem? (i := 244) (by decide +kernel), List.mem_of_getElem? (i := 245) (by decide +kernel)⟩
theorem lw_p3 : lw_okq (⟨"Ringroll", "deviceAt", "(I)LRingroll$Device;"⟩, 7) := ⟨⟨by decide +kernel, by decide +kernel⟩, List.mem_of_getElem? (i := 15) (by decide +kernel), List.mem_of_getElem? (i := 387) (by decide +kernel), List.mem_of_getElem? (i := 388) (by decide +kernel)⟩
theorem lw_p4 : lw_okq (⟨"Ringroll", "campaignAt", "(I)LRingroll$Campaign;"⟩, 7) := ⟨⟨by decide +kernel, by decide +kernel⟩, List.mem_of_getElem? (i := 15) (by decide +kernel), List.mem_of_getElem? (i := 407) (by decide +kernel), List.mem_of_getElem? (i := 408) (by decide +kernel)⟩
theorem lw_p5 : lw_okq (⟨"Ringroll", "needCampaign", "(I)V"⟩, 7) := ⟨⟨by decide +kernel, by decide +kernel⟩, List.mem_of_getElem? (i := 15) (by decide +kernel), List.mem_of_getElem? (i := 411) (by decide +kernel), List.mem_of_getElem? (i := 412) (by decide +kernel)⟩
theorem lw_p6 : lw_okq (⟨"Ringroll", "mayTake", "(LRingroll$Device;LRingroll$Campaign;)Z"⟩, 7) := ⟨⟨by decide +kernel, by decide +kernel⟩, List.mem_of_getElem? (i := 15) (by decide +kernel), List.mem_of_getElem? (i := 514) (by decide +kernel), List.mem_of_getElem? (i := 515) (by decide +kernel)⟩
theorem lw_p7 : lw_okq (⟨"Ringroll$Campaign", "drawOf", "(LRingroll$Device;)I"⟩, 13) := ⟨⟨by decide +kernel, by decide +kernel⟩, List.mem_of_getElem? (i := 112) (by decide +kernel), List.mem_of_getElem? (i := 523) (by decide +kernel), List.mem_of_getElem? (i := 524) (by decide +kernel)⟩
theorem lw_p8 : lw_okq (⟨"Ringroll$Campaign", "share", "()I"⟩, 13) := ⟨⟨by decide +kernel, by decide +kernel⟩, List.mem_of_getElem? (i := 112) (by decide +kernel), List.mem_of_getElem? (i := 527) (by decide +kernel), List.mem_of_getElem? (i := 528) (by decide +kernel)⟩
theorem lw_p9 : lw_okq (⟨"Ringroll", "passOneHour", "()I"⟩, 7) := ⟨⟨by decide +kernel, by decide +kernel⟩, List.mem_of_getElem? (i := 15) (by decide +kernel), List.mem_of_getElem? (i := 538) (by decide +kernel), List.mem_of_getElem? (i := 539) (by decide +kernel)⟩
theorem lw_p10 : lw_okq (⟨"Ringroll", "takeLowestCampaign", "(LRingroll$Device;)V"⟩, 7) := ⟨⟨by decide +kernel, by decide +kernel⟩, List.mem_of_getElem? (i := 15) (by decide +kernel), List.mem_of_getElem? (i := 542) (by decide +kernel), List.mem_of_getElem? (i := 543) (by decide +kernel)⟩
theorem lw_p11 : lw_okq (⟨"Ringroll$Device", "isInWindow", "(I)Z"⟩, 9) := ⟨⟨by decide +kernel, by decide +kernel⟩, List.mem_of_getElem? (i := 67) (by decide +kernel), List.mem_of_getElem? (i := 554) (by decide +kernel), List.mem_of_getElem? (i := 555) (by decide +kernel)⟩
theorem lw_p12 : lw_okq (⟨"RingrollModel", "refused", "(I)Z"⟩, 27) := ⟨⟨by decide +kernel, by decide +kernel⟩, List.mem_of_getElem? (i := 565) (by decide +kernel), List.mem_of_getElem? (i := 668) (by decide +kernel), List.mem_of_getElem? (i := 669) (by decide +kernel)⟩
theorem lw_p13 : lw_okq (⟨"RingrollModel", "sizeOf", "(II)I"⟩, 27) := ⟨⟨by decide +kernel, by decide +kernel⟩, List.mem_of_getElem? (i := 565) (by decide +kernel), List.mem_of_getElem? (i := 688) (by decide +kernel), List.mem_of_getElem? (i := 689) (by decide +kernel)⟩
theorem lw_p14 : lw_okq (⟨"RingrollModel", "isDevice", "(I)Z"⟩, 27) := ⟨⟨by decide +kernel, by decide +kernel⟩, List.mem_of_getElem? (i := 565) (by decide +kernel), List.mem_of_getElem? (i := 706) (by decide +kernel), List.mem_of_getElem? (i := 707) (by decide +kernel)⟩
theorem lw_p15 : lw_okq (⟨"RingrollModel", "judge", "(I)V"⟩, 27) := ⟨⟨by decide +kernel, by decide +kernel⟩, List.mem_of_getElem? (i := 565) (by decide +kernel), List.mem_of_getElem? (i := 718) (by decide +kernel), List.mem_of_getElem? (i := 719) (by decide +kernel)⟩
def lw_privs_1 : List (MethodName × Nat) := [(⟨"Ringroll$Ways", "measure", "()V"⟩, 4), (⟨"Ringroll$Ways", "measureVia", "(I)V"⟩, 4), (⟨"java/lang/Throwable", "fillInStackTrace", "(I)Ljava/lang/Throwable;"⟩, 6), (⟨"Ringroll", "deviceAt", "(I)LRingroll$Device;"⟩, 7), (⟨"Ringroll", "campaignAt", "(I)LRingroll$Campaign;"⟩, 7), (⟨"Ringroll", "needCampaign", "(I)V"⟩, 7), (⟨"Ringroll", "mayTake", "(LRingroll$Device;LRingroll$Campaign;)Z"⟩, 7), (⟨"Ringroll$Campaign", "drawOf", "(LRingroll$Device;)I"⟩, 13), (⟨"Ringroll$Campaign", "share", "()I"⟩, 13), (⟨"Ringroll", "passOneHour", "()I"⟩, 7), (⟨"Ringroll", "takeLowestCampaign", "(LRingroll$Device;)V"⟩, 7), (⟨"Ringroll$Device", "isInWindow", "(I)Z"⟩, 9), (⟨"RingrollModel", "refused", "(I)Z"⟩, 27), (⟨"RingrollModel", "sizeOf", "(II)I"⟩, 27), (⟨"RingrollModel", "isDevice", "(I)Z"⟩, 27), (⟨"RingrollModel", "judge", "(I)V"⟩, 27)]
theorem lw_r1 : ∀ q ∈ lw_privs_1, lw_okq q := List.forall_mem_cons.mpr ⟨lw_p0, List.forall_mem_cons.mpr ⟨lw_p1, List.forall_mem_cons.mpr ⟨lw_p2, List.forall_mem_cons.mpr ⟨lw_p3, List.forall_mem_cons.mpr ⟨lw_p4, List.forall_mem_cons.mpr ⟨lw_p5, List.forall_mem_cons.mpr ⟨lw_p6, List.forall_mem_cons.mpr ⟨lw_p7, List.forall_mem_cons.mpr ⟨lw_p8, List.forall_mem_cons.mpr ⟨lw_p9, List.forall_mem_cons.mpr ⟨lw_p10, List.forall_mem_cons.mpr ⟨lw_p11, List.forall_mem_cons.mpr ⟨lw_p12, List.forall_mem_cons.mpr ⟨lw_p13, List.forall_mem_cons.mpr ⟨lw_p14, List.forall_mem_cons.mpr ⟨lw_p15, fun _ h => absurd h List.not_mem_nil⟩⟩⟩⟩⟩⟩⟩⟩⟩⟩⟩⟩⟩⟩⟩⟩
theorem lw_p16 : lw_okq (⟨"RingrollModel", "fine", "(I)I"⟩, 27) := ⟨⟨by decide +kernel, by decide +kernel⟩, List.mem_of_getElem? (i := 565) (by decide +kernel), List.mem_of_getElem? (i := 726) (by decide +kernel), List.mem_of_getElem? (i := 727) (by decide +kernel)⟩
theorem lw_p17 : lw_okq (⟨"RingrollModel", "noDevice", "(I)Z"⟩, 27) := ⟨⟨by decide +kernel, by decide +kernel⟩, List.mem_of_getElem? (i := 565) (by decide +kernel), List.mem_of_getElem? (i := 734) (by decide +kernel), List.mem_of_getElem? (i := 735) (by decide +kernel)⟩
theorem lw_p18 : lw_okq (⟨"RingrollModel", "isCampaign", "(I)Z"⟩, 27) := ⟨⟨by decide +kernel, by decide +kernel⟩, List.mem_of_getElem? (i := 565) (by decide +kernel), List.mem_of_getElem? (i := 758) (by decide +kernel), List.mem_of_getElem? (i := 759) (by decide +kernel)⟩
theorem lw_p19 : lw_okq (⟨"RingrollModel", "noCampaign", "(I)Z"⟩, 27) := ⟨⟨by decide +kernel, by decide +kernel⟩, List.mem_of_getElem? (i := 565) (by decide +kernel), List.mem_of_getElem? (i := 770) (by decide +kernel), List.mem_of_getElem? (i := 771) (by decide +kernel)⟩
theorem lw_p20 : lw_okq (⟨"RingrollModel", "mayTake", "(II)Z"⟩, 27) := ⟨⟨by decide +kernel, by decide +kernel⟩, List.mem_of_getElem? (i := 565) (by decide +kernel), List.mem_of_getElem? (i := 790) (by decide +kernel), List.mem_of_getElem? (i := 791) (by decide +kernel)⟩
theorem lw_p21 : lw_okq (⟨"RingrollModel", "take", "(I)V"⟩, 27) := ⟨⟨by decide +kernel, by decide +kernel⟩, List.mem_of_getElem? (i := 565) (by decide +kernel), List.mem_of_getElem? (i := 798) (by decide +kernel), List.mem_of_getElem? (i := 799) (by decide +kernel)⟩
theorem lw_p22 : lw_okq (⟨"RingrollModel", "isOpen", "(I)Z"⟩, 27) := ⟨⟨by decide +kernel, by decide +kernel⟩, List.mem_of_getElem? (i := 565) (by decide +kernel), List.mem_of_getElem? (i := 802) (by decide +kernel), List.mem_of_getElem? (i := 803) (by decide +kernel)⟩
def lw_privs_2 : List (MethodName × Nat) := [(⟨"RingrollModel", "fine", "(I)I"⟩, 27), (⟨"RingrollModel", "noDevice", "(I)Z"⟩, 27), (⟨"RingrollModel", "isCampaign", "(I)Z"⟩, 27), (⟨"RingrollModel", "noCampaign", "(I)Z"⟩, 27), (⟨"RingrollModel", "mayTake", "(II)Z"⟩, 27), (⟨"RingrollModel", "take", "(I)V"⟩, 27), (⟨"RingrollModel", "isOpen", "(I)Z"⟩, 27)]
theorem lw_r2 : ∀ q ∈ lw_privs_2, lw_okq q := List.forall_mem_cons.mpr ⟨lw_p16, List.forall_mem_cons.mpr ⟨lw_p17, List.forall_mem_cons.mpr ⟨lw_p18, List.forall_mem_cons.mpr ⟨lw_p19, List.forall_mem_cons.mpr ⟨lw_p20, List.forall_mem_cons.mpr ⟨lw_p21, List.forall_mem_cons.mpr ⟨lw_p22, fun _ h => absurd h List.not_mem_nil⟩⟩⟩⟩⟩⟩⟩
def lw_privs : List (MethodName × Nat) := lw_privs_1 ++ (lw_privs_2)
def lw_tbl : List Cond := k2_sels lw_privs ++ tables_1
theorem lw_privs_ok : ∀ q ∈ lw_privs, lw_okq q := by
  show ∀ q ∈ lw_privs_1 ++ (lw_privs_2), lw_okq q
  exact List.forall_mem_append.mpr ⟨lw_r1, lw_r2⟩
-- ===== end of PART A; then your names; then what follows =====
end
section
/-! ===== BEGIN words of one list among another's, by their places ===== -/
theorem goodIn_r {big : List Cond} (ws : List Cond) (ps : List Nat) (hp : ws = ps.filterMap (fun i => big[i]?)) (h : ws.all goodWord = true) : GoodIn big ws := by
  intro w hw
  have h1 := List.all_eq_true.mp h w hw
  rw [hp] at hw
  obtain ⟨i, -, hi⟩ := List.mem_filterMap.mp hw
  have hm : w ∈ big := by first | exact List.mem_of_getElem? hi | exact List.getElem?_mem hi
  exact ⟨hm, good_of_word h1⟩
theorem goodIn_app {big a b : List Cond} (ha : GoodIn big a) (hb : GoodIn big b) : GoodIn big (a ++ b) := fun w h => (List.mem_append.mp h).elim (ha w) (hb w)
theorem goodIn_ca {big a b : List Cond} {c : Cond} (ha : GoodIn big (c :: a)) (hb : GoodIn big b) : GoodIn big (c :: (a ++ b)) := fun w h => (List.mem_cons.mp h).elim (fun e => ha w (List.mem_cons.mpr (Or.inl e))) (fun h => (List.mem_append.mp h).elim (fun h => ha w (List.mem_cons.mpr (Or.inr h))) (hb w))
theorem goodIn_sub {big ws : List Cond} (hm : ∀ w ∈ ws, w ∈ big) (h : ws.all goodWord = true) : GoodIn big ws := fun w hw => ⟨hm w hw, good_of_word (List.all_eq_true.mp h w hw)⟩
/-! ===== END ===== -/

/-! ===== BEGIN new T[n][m]: the outer array a place, the inner ones among the pooled ===== -/
/-- f, but v at every address of l -/
def vr_up {α : Type} (f : Nat → α) (l : List Nat) (v : α) : Nat → α := fun a => if a ∈ l then v else f a
theorem vr_up_in {α : Type} {f : Nat → α} {l : List Nat} {v : α} {a : Nat} (h : a ∈ l) : vr_up f l v a = v := if_pos h
theorem vr_up_ne {α : Type} {f : Nat → α} {l : List Nat} {v : α} {a : Nat} (h : a ∉ l) : vr_up f l v a = f a := if_neg h
theorem vr_rows {L l : List Nat} {f : Nat → va_E} {e : va_E} (h : ∀ a, a ∈ l → a ∉ L) : va_pl L f ++ l.map (fun a => (a, e)) = va_pl (L ++ l) (vr_up f l e) := by
  unfold va_pl
  rw [List.map_append]
  congr 1
  · apply List.map_congr_left
    intro a ha
    rw [vr_up_ne (fun q => h a q ha)]
  · apply List.map_congr_left
    intro a ha
    rw [vr_up_in ha]
theorem vr_lay {X rows : va_W} {x : Nat × va_E} {pl : va_W} {D : va_G} {cl : List vw_C} {H : Heap} (hP : va_P D cl (((X ++ pl) ++ [x]) ++ rows) H) : va_P D cl ((X ++ [x]) ++ (pl ++ rows)) H := by
  rw [List.append_assoc (X ++ pl)] at hP
  have h := va_P.swap hP
  rw [← List.append_assoc X] at h
  have h2 := va_P.swap h
  rw [List.append_assoc (X ++ [x])] at h2
  exact h2
theorem vr_layD {X rows : va_W} {x : Nat × va_E} {pl : va_W} {A : Nat → Prop} (hD : va_D A (((X ++ pl) ++ [x]) ++ rows)) : va_D A ((X ++ [x]) ++ (pl ++ rows)) := by
  rw [List.append_assoc (X ++ pl)] at hD
  have h := va_D.swap hD
  rw [← List.append_assoc X] at h
  have h2 := va_D.swap h
  rw [List.append_assoc (X ++ [x])] at h2
  exact h2
theorem vr_outer (c : ClassId) (N h0 : Nat) : ∀ i : Nat, Jvm.Free.Multi.outerC c N h0 i = arrV c N (fun j => va_rf (if j < i then some (h0 + 1 + j) else none))
  | 0 => by
    show ({ cls := c, slots := Array.replicate N .null, vm := .none } : Cell) = _
    rw [arrV_new]
    refine congrArg (arrV c N) (funext fun j => ?_)
    simp [va_rf]
  | i + 1 => by
    show (Jvm.Free.Multi.outerC c N h0 i).setSlot i (.ref (h0 + 1 + i)) = _
    rw [vr_outer c N h0 i, arrV_store]
    refine congrArg (arrV c N) (funext fun j => ?_)
    by_cases e : j = i
    · subst e
      simp [updV, va_rf]
    · by_cases h : j < i
      · simp [updV, e, h, Nat.lt_succ_of_lt h]
      · simp [updV, e, h, show ¬ j < i + 1 by omega]
/-- arrays of arrays may be made (a word of the tables); the printed laws name it -/
def va_AOA (ty : FieldType) (U : State) : Prop := (Cond.arrayOver (.array ty)).before #[] U = true
theorem va_AOA.use {ty : FieldType} {A : Array Value} {U : State} (h : va_AOA ty U) : (Cond.arrayOver (.array ty)).before A U = true := h
section VGM
variable {p : Program} {l : Launch} {e : Env} {R : Room} {s : State} {m : MethodId} {args : Array Value} {below : List Frame} {meth : Method} {c : Code} {H : Heap} {locs : List Loc} {cells slots : Nat} {Q : State → Prop}
variable {cc : ByteArray} {pc : Nat} {ls : Array Slot} {rest : List Value} {D : va_G} {cl : List vw_C} {A : Nat → Prop} {a : Nat} {tys : List (ClassId × FieldType)} {ws : va_W} {H0 : Heap}
theorem va_mna {X : va_W} {L : List Nat} {f : Nat → va_E} {cc : ByteArray} (hexec : p.tables.exec = Jvm.exec) (hb : c.code = cc) {own : String} {index : Nat} {ty : FieldType} {cy : ClassId} (hown : s.vm.findClass own = some m.cls) (hclink : (Cond.classLink own index ("[" ++ (FieldType.array ty).toString)).before args s = true) (hover : va_AOA ty s) (harr : (Cond.arrayClass ty).before args s = true) (hcy : s.vm.findClass (FieldType.array ty).toString = some cy)
    (hK : va_K D cl tys s) (hP : va_P D cl (X ++ va_pl L f) H) (hD : va_D A (X ++ va_pl L f)) (hS : va_S A H0 H locs) (hA : ∀ q, H0.size ≤ q → A q) {n k : Int32} {N' K' : Nat} {z : vp_A} (hn : ¬ n < 0) (hk : ¬ k < 0) (hN : n.toNatClampNeg = N') (hM : k.toNatClampNeg = K')
    (hb1 : N' * 4 ≤ 536870912) (hb2 : K' * componentBytes ty ≤ 536870912) (hb3 : K' ≤ 536870912) (hdf : fits ty (defaultValue ty) = true) (hdd : (defaultValue ty).isDefault = true) (hcells : cells + (1 + N') ≤ R.cells) (hslots : slots + (N' + N' * K') ≤ R.slots) (hz : ∀ c : ClassId, Jvm.Free.Multi.innerC c K' (defaultValue ty) = vp_cell c z) (hdg : decode cc pc = .ok (.multianewarray index 2, 4))
    (kk : ∀ (q : Nat) (r : Nat → Nat) (cA : ClassId) (H1 : Heap), (∀ i j : Nat, i < N' → j < N' → r i = r j → i = j) → (∀ i : Nat, i < N' → r i ∉ L) → va_K D cl (tys ++ [(cA, .array ty)]) s →
      va_P D cl ((X ++ [(q, .inl (cA, N', .inr (.inr (.inr (.inr (fun i => if i < N' then some (r i) else none))))))]) ++ va_pl (L ++ (List.range N').map r) (vr_up f ((List.range N').map r) (.inl (cy, z)))) H1 → va_D A ((X ++ [(q, .inl (cA, N', .inr (.inr (.inr (.inr (fun i => if i < N' then some (r i) else none))))))]) ++ va_pl (L ++ (List.range N').map r) (vr_up f ((List.range N').map r) (.inl (cy, z)))) → va_S A H0 H1 locs →
      W p l e R s m args below meth c H1 locs (cells + 1 + N') (slots + N' + N' * K') Q (F0 m (pc + 4) ls (.ref q :: rest))) : W p l e R s m args below meth c H locs cells slots Q (F0 m pc ls (.int k :: .int n :: rest)) := by
  subst hN
  subst hM
  intro T hT Xs
  obtain ⟨vm₁, cA, comp, -, fA, fC, hO, -, X', step⟩ := Xs.multianewarray2F hexec hown hclink (va_AOA.use hover) harr (g := F0 m pc ls (.int k :: .int n :: rest)) rfl (by rw [hb]; exact hdg) rfl hn hk hb1 hb2 hb3 hdf hdd hcells hslots
  have ec : some cy = some comp := hcy.symm.trans fC
  cases ec
  generalize hF : Jvm.Free.Multi.fill (T.setVm vm₁) cA cy n.toNatClampNeg k.toNatClampNeg (defaultValue ty) n.toNatClampNeg = F at X' step
  have hTh : (T.setVm vm₁).heap = H := hT
  obtain ⟨f1, f2, -, -⟩ := Jvm.Free.Multi.fill_facts (T.setVm vm₁) cA cy n.toNatClampNeg k.toNatClampNeg (defaultValue ty) n.toNatClampNeg
  rw [hF, hTh] at f1 f2
  have hold : ∀ x : Nat, x < H.size → F.heap[x]? = H[x]? := fun x hx => by
    have := Jvm.Free.Multi.fill_old (T.setVm vm₁) cA cy n.toNatClampNeg k.toNatClampNeg (defaultValue ty) (a := x) (by rw [hTh]; exact hx) n.toNatClampNeg
    rw [hF, hTh] at this
    exact this
  have hrow : ∀ j : Nat, j < n.toNatClampNeg → F.heap[H.size + 1 + j]? = some (vp_cell cy z) := fun j hj => by
    have := Jvm.Free.Multi.fill_inner (T.setVm vm₁) cA cy n.toNatClampNeg k.toNatClampNeg (defaultValue ty) n.toNatClampNeg j hj
    rw [hF, hTh, hz] at this
    exact this
  have hout : Jvm.Free.Multi.outerC cA n.toNatClampNeg H.size n.toNatClampNeg = vp_cell cA (n.toNatClampNeg, .inr (.inr (.inr (.inr (fun i => if i < n.toNatClampNeg then some (H.size + 1 + i) else none))))) := by
    rw [vp_cell_q]
    exact vr_outer cA n.toNatClampNeg H.size n.toNatClampNeg
  rw [hout] at f2
  have hlt : ∀ a, a ∈ L → a < H.size := fun a ha => by
    obtain ⟨k9, hk9⟩ := va_pl_get (X := X) (f := f) ha
    exact (hP k9 _ hk9).lt
  have hnl : ∀ i : Nat, i < n.toNatClampNeg → H.size + 1 + i ∉ L := fun i _ h => by
    have := hlt _ h
    omega
  have hnm : ∀ a, a ∈ (List.range n.toNatClampNeg).map (fun i => H.size + 1 + i) → a ∉ L := fun a ha h => by
    obtain ⟨i, -, rfl⟩ := List.mem_map.mp ha
    have := hlt _ h
    omega
  have hP0 : va_P D cl (X ++ va_pl L f) F.heap := hP.kept (fun k9 x hx => hold x.1 ((hP k9 x hx).lt))
  have hP1 : va_P D cl ((X ++ va_pl L f) ++ [(H.size, .inl (cA, n.toNatClampNeg, .inr (.inr (.inr (.inr (fun i => if i < n.toNatClampNeg then some (H.size + 1 + i) else none))))))]) F.heap := hP0.app (fun k9 x hx => by
    have h0 : k9 < 1 := (List.getElem?_eq_some_iff.mp hx).1
    rw [show k9 = 0 by omega] at hx
    cases hx
    exact f2)
  have hP2 : va_P D cl (((X ++ va_pl L f) ++ [(H.size, .inl (cA, n.toNatClampNeg, .inr (.inr (.inr (.inr (fun i => if i < n.toNatClampNeg then some (H.size + 1 + i) else none))))))]) ++ ((List.range n.toNatClampNeg).map (fun i => H.size + 1 + i)).map (fun a => (a, .inl (cy, z)))) F.heap := hP1.app (fun k9 x hx => by
    obtain ⟨a, ha, rfl⟩ := List.mem_map.mp (List.mem_of_getElem? hx)
    obtain ⟨i, hi, rfl⟩ := List.mem_map.mp ha
    exact hrow i (List.mem_range.mp hi))
  have hD2 : va_D A (((X ++ va_pl L f) ++ [(H.size, .inl (cA, n.toNatClampNeg, .inr (.inr (.inr (.inr (fun i => if i < n.toNatClampNeg then some (H.size + 1 + i) else none))))))]) ++ ((List.range n.toNatClampNeg).map (fun i => H.size + 1 + i)).map (fun a => (a, .inl (cy, z)))) := by
    have hD1 := hD.push (e := .inl (cA, n.toNatClampNeg, .inr (.inr (.inr (.inr (fun i => if i < n.toNatClampNeg then some (H.size + 1 + i) else none)))))) hP rfl (hA _ hS.1)
    generalize hW1 : (X ++ va_pl L f) ++ [(H.size, .inl (cA, n.toNatClampNeg, .inr (.inr (.inr (.inr (fun i => if i < n.toNatClampNeg then some (H.size + 1 + i) else none))))))] = W1 at hD1 hP1 ⊢
    have hle : ∀ (k9 : Nat) (x : Nat × va_E), W1[k9]? = some x → x.1 ≤ H.size := fun k9 x hx => by
      rw [← hW1] at hx
      by_cases hl : k9 < (X ++ va_pl L f).length
      · rw [List.getElem?_append_left hl] at hx
        exact Nat.le_of_lt ((hP k9 x hx).lt)
      · rw [List.getElem?_append_right (by omega)] at hx
        have h0 : k9 - (X ++ va_pl L f).length < 1 := (List.getElem?_eq_some_iff.mp hx).1
        rw [show k9 - (X ++ va_pl L f).length = 0 by omega] at hx
        cases hx
        exact Nat.le_refl _
    have hr : ∀ (k9 : Nat) (x : Nat × va_E), (((List.range n.toNatClampNeg).map (fun i => H.size + 1 + i)).map (fun a => ((a, .inl (cy, z)) : Nat × va_E)))[k9]? = some x → x.1 = H.size + 1 + k9 := fun k9 x hx => by
      rw [List.getElem?_map, List.getElem?_map] at hx
      by_cases h9 : k9 < n.toNatClampNeg
      · rw [List.getElem?_range h9] at hx
        cases hx
        rfl
      · have hn0 : (List.range n.toNatClampNeg)[k9]? = none := List.getElem?_eq_none (by rw [List.length_range]; omega)
        rw [hn0] at hx
        cases hx
    refine ⟨fun i j x y hi hj hxy => ?_, fun k9 x hx => ?_⟩
    · by_cases h1 : i < W1.length <;> by_cases h2 : j < W1.length
      · rw [List.getElem?_append_left h1] at hi
        rw [List.getElem?_append_left h2] at hj
        exact hD1.1 i j x y hi hj hxy
      · rw [List.getElem?_append_left h1] at hi
        rw [List.getElem?_append_right (by omega)] at hj
        have := hle _ _ hi
        have := hr _ _ hj
        omega
      · rw [List.getElem?_append_right (by omega)] at hi
        rw [List.getElem?_append_left h2] at hj
        have := hle _ _ hj
        have := hr _ _ hi
        omega
      · rw [List.getElem?_append_right (by omega)] at hi hj
        have := hr _ _ hi
        have := hr _ _ hj
        omega
    · by_cases h1 : k9 < W1.length
      · rw [List.getElem?_append_left h1] at hx
        exact hD1.2 k9 x hx
      · rw [List.getElem?_append_right (by omega)] at hx
        have := hr _ _ hx
        exact hA _ (by have := hS.1; omega)
  have hAr : ArrOfT s cA (.array ty) := fun N9 z9 => by
    obtain ⟨-, k9, hk9, cm9, hkk9⟩ := (hO 0 0 0).1
    exact ⟨(fun q hq => by cases hq), k9, hk9, cm9, hkk9⟩
  have hK2 : va_K D cl (tys ++ [(cA, .array ty)]) s := ⟨hK.1, fun k9 x hx => by
    by_cases hl : k9 < tys.length
    · rw [List.getElem?_append_left hl] at hx
      exact hK.2 k9 x hx
    · rw [List.getElem?_append_right (by omega)] at hx
      have h0 : k9 - tys.length < 1 := (List.getElem?_eq_some_iff.mp hx).1
      rw [show k9 - tys.length = 0 by omega] at hx
      cases hx
      exact ⟨hAr, fA⟩⟩
  obtain ⟨t, a1, b1⟩ := kk H.size (fun i => H.size + 1 + i) cA F.heap (fun i j _ _ h => by have h9 : H.size + 1 + i = H.size + 1 + j := h; omega) hnl hK2 (by rw [← vr_rows hnm]; exact vr_lay hP2) (by rw [← vr_rows hnm]; exact vr_layD hD2) ⟨by rw [f1]; have := hS.1; omega, fun x h1 h2 => (hold x (Nat.lt_of_lt_of_le h1 hS.1)).trans (hS.2.1 x h1 h2), hS.2.2⟩ F rfl X'
  refine ⟨t, step t ?_, b1⟩
  have e : T.heap.size = H.size := by rw [hT]
  rw [e]
  exact a1
end VGM
/-! ===== END ===== -/

/-! ===== BEGIN exceptions that leave a method, and their catching by the caller (launches without stack traces) ===== -/
section VXA
/-! The laws vx_back, vx_callV, vx_callS, vx_callSW, vx_throw0, vx_throwS follow proofs of the library, with one case more: JvmDerived/Free/Laws.lean (Back.of_free), Shelf42/LK1.lean (callV, callS), Shelf/KitTraced.lean (throwNew0V, throwNewS). -/
/-- where a method has thrown q: the class by its name, the cell, what was written, the world -/
def vx_T (XC : String → State → State → Prop) (st : State) (q : Addr) (t : State) (mc ms : Nat) (free : Addr → Prop) : Prop :=
  ∃ (E : String) (ce : Cell) (L : List Loc), XC E st t ∧ t.heap[q]? = some ce ∧ ce.vm = .none ∧ st.vm.findClass E = some ce.cls ∧ st.WarmedH t.vm ∧ st.sameButNew ({ t with vm := st.vm } : State) L mc ms ∧ ∀ z ∈ L, free z.base
def vx_Q (Qc : Array Value → State → Outcome → State → Prop) (XC : String → State → State → Prop) (mc ms : Nat) (free : Addr → Prop) : Array Value → State → Outcome → State → Prop := fun a st o t =>
  (Qc a st o t ∧ ∃ L, FrameEnd st o t L mc ms ∧ ∀ q ∈ L, free q.base) ∨ ∃ q, o = .threw q ∧ vx_T XC st q t mc ms free
/-- a callee that returns or throws -/
def vx_Met (l : Launch) (y : MethodName) (ws : List Cond) (rm : Room) (Pc : Array Value → State → Prop) (Qc : Array Value → State → Outcome → State → Prop) (XC : String → State → State → Prop) (mc ms : Nat) (free : Addr → Prop) : Prop :=
  MetFree l y (headSpec ws rm) Pc (fun _ _ _ _ _ => True) (vx_Q Qc XC mc ms free)
def vx_Post (XC : String → State → State → Prop) (mc ms : Nat) (free : Addr → Prop) : Pt → Array Value → Addr → Pt → Prop := fun A a q B =>
  ∃ (g : JFrame) (mk : MethodId) (t : State) (L : List Loc) (E : String) (ce : Cell), B.U.heap = t.heap ∧ B.U.vm = t.vm ∧ XC E (A.U.calling g mk a) t ∧ t.heap[q]? = some ce ∧ ce.vm = .none ∧ A.U.vm.findClass E = some ce.cls ∧ B.locs = A.locs ++ L ∧ (∀ z ∈ L, free z.base) ∧ B.cells = A.cells + mc ∧ B.slots = A.slots + ms
def vx_Back (l : Launch) (R : Room) (p : Program) (e : Env) (below : List Frame) (s : State) (sargs : Array Value) (y : MethodName) (len W9 : Nat)
    (Pre : Pt → Array Value → Prop) (Post : Pt → Array Value → Option Value → Pt → Prop) (PostX : Pt → Array Value → Addr → Pt → Prop) : Prop :=
  ∀ (m : MethodId) (meth : Method) (c : Code) (A : Pt) (g : JFrame) (ig : Instr) (mk : MethodId) (a : Array Value),
    Stand p l e R s m sargs below meth c A.U A.locs A.cells A.slots → g.method = m → g.locals.size = c.maxLocals → decode c.code g.pc = .ok (ig, len) →
    2 * g.monitorRoom + (g.stack.map fun v => v.category).sum ≤ W9 → A.U.methodNamed? y = some mk → Pre A a →
    (∃ (v : Option Value) (B : Pt), Stand p l e R s m sargs below meth c B.U B.locs B.cells B.slots ∧ Post A a v B ∧
      Steps p.tables e below (doInvoke e (A.U.setTop g) [] mk a).1 (B.U.setTop { g with pc := g.pc + len, stack := v.toList ++ g.stack })) ∨
    (∃ (q : Addr) (B : Pt), Stand p l e R s m sargs below meth c B.U B.locs B.cells B.slots ∧ PostX A a q B ∧
      Steps p.tables e below (doInvoke e (A.U.setTop g) [] mk a).1 ((B.U.setTop g).pushFrame (.throwing q)))
section Payer
variable {l : Launch} {R : Room} {p : Program} {e : Env} {below : List Frame} {s : State} {sargs : Array Value} {y : MethodName} {len W9 : Nat}
theorem vx_back {ws : List Cond} {rm : Room} {Pc : Array Value → State → Prop} {Qc : Array Value → State → Outcome → State → Prop} {XC : String → State → State → Prop} {mc ms : Nat} {free : Addr → Prop} {bytes : ByteArray} {maxL : Nat} {ret : Option FieldType}
    (hM : vx_Met l y ws rm Pc Qc XC mc ms free) (hblind : FrameBlind Pc) (hrc : rm.cells = mc) (hrs : rm.slots = ms)
    (hframes : rm.frames + 1 ≤ R.frames) (hlocals : W9 + (maxL + 11) + rm.locals ≤ R.locals)
    (hws : ∀ w ∈ ws, ∀ a' U, s.WarmedH U.vm → w.before a' U = true) (hcode : Cond.code y bytes maxL ret ∈ ws) (hinit : ∀ a' U, s.WarmedH U.vm → (Cond.initialized y.cls).before a' U = true) :
    vx_Back l R p e below s sargs y len W9 (PreOf R mc ms Pc) (PostOf Qc mc ms free) (vx_Post XC mc ms free) := by
  intro m meth c A g ig mk a X hg hsize hdg hW hn hp
  have h1 : (headSpec ws rm).pre.before a A.U = true := atoms_intro fun w hw => hws w hw _ _ X.warmed
  have h2 : (Cond.code y bytes maxL ret).before a A.U = true := hws _ hcode _ _ X.warmed
  have h3 : (Cond.initialized y.cls).before a A.U = true := hinit _ _ X.warmed
  have h4 : A.cells + (headSpec ws rm).room.cells ≤ R.cells := by rw [show (headSpec ws rm).room.cells = mc from hrc]; exact hp.1
  have h5 : A.slots + (headSpec ws rm).room.slots ≤ R.slots := by rw [show (headSpec ws rm).room.slots = ms from hrs]; exact hp.2.1
  have hPc : Pc a (A.U.calling g mk a) := hblind _ _ _ _ hp.2.2
  obtain ⟨U, Ls, c0, s0⟩ := A
  dsimp only [Pt.U, Pt.locs, Pt.cells, Pt.slots] at h1 h2 h3 h4 h5 X hn hPc ⊢
  obtain ⟨methY, cY, hmY, hcY, -, hlY, -, -, -, -⟩ := Cond.code_spec hn h2
  obtain ⟨kY, hkY, -⟩ := className_of_methodNamed hn
  have hinitY : kY.init = .initialized := Cond.initialized_spec (findClass_of_methodNamed hn) hkY h3
  have h : At U g.method c below := by rw [hg]; exact X.here
  have hlocals9 : W9 + (maxL + 11) + (headSpec ws rm).room.locals ≤ R.locals := hlocals
  have happ : (headSpec ws rm).appliesLoose y e.platform (U.calling g mk a) = true :=
    Spec.appliesLoose_calling (g := g) h hdg hn hkY hinitY
      (X.room_calling (g := g) (R' := (headSpec ws rm).room) hsize hmY hcY hframes (by rw [hlY]; omega) h4 h5) h1
  obtain ⟨mid, hmid⟩ := h.above
  have hfr : (U.setTop g).frames = (.java g :: mid) ++ below := by rw [State.frames_setTop' g h.top, hmid]; rfl
  obtain ⟨o, s₂, hsteps, -, hend, hq⟩ := Steps.callFree hM p X.admits X.cas X.clock (acts := []) hfr happ hPc trivial
  have hq' : vx_Q Qc XC mc ms free a (U.calling g mk a) o s₂ := hq
  rw [State.frames_setTop' g h.top] at hend
  obtain ⟨g₀, hg0⟩ := Option.isSome_iff_exists.mp h.top
  obtain ⟨r, hr⟩ := State.topJava?_eq_some.mp hg0
  have hr' : (({ U with heap := s₂.heap, slotsUsed := s₂.slotsUsed } : State).setVm s₂.vm).frames = .java g₀ :: r := hr
  rcases hq' with ⟨hqc, L, hfe, hL⟩ | ⟨q, rfl, E, ce, L, hx, hce, hcv, hcl, hW₂, hsm, hL⟩
  · obtain ⟨⟨v, rfl⟩, hW₂, e2, q2, q3, q4, q5, q6⟩ := id hfe
    have e3 : s₂ = ({ (U.calling g mk a).setFrames s₂.frames with heap := s₂.heap, slotsUsed := s₂.slotsUsed } : State).setVm s₂.vm := by
      have : s₂ = ({ s₂ with vm := (U.calling g mk a).vm } : State).setVm s₂.vm := rfl
      rw [e2] at this
      exact this
    obtain ⟨c₂, i₂, len₂, hc₂, hd₂, hf₂⟩ := hend
    have hW' : U.WarmedH s₂.vm := hW₂
    have hcc : c₂ = c := by
      have h1 : s₂.code? g.method = U.code? g.method := by
        rw [State.code?_eq, State.code?_eq, hW'.alike.method?]
      exact Option.some.inj (hc₂.symm.trans (h1.trans h.code))
    subst hcc
    have hlen : len₂ = len := by rw [hdg] at hd₂; cases hd₂; rfl
    subst hlen
    have hs₂ : s₂ = (({ U with heap := s₂.heap, slotsUsed := s₂.slotsUsed } : State).setVm s₂.vm).setTop { g with pc := g.pc + len₂, stack := v.toList ++ g.stack } := by
      refine e3.trans ?_
      rw [hf₂, State.calling_eq h.top, State.setFrames_setFrames, State.setTop_of_frames _ hr', hr]
      rfl
    have hsame : U.sameButNew ({ U with heap := s₂.heap, slotsUsed := s₂.slotsUsed } : State) L mc ms := by
      refine ⟨?_, q2, q3, q4, q5, q6⟩
      obtain ⟨t, ht, -⟩ := State.frames_cons hr
      show ({ U with heap := s₂.heap, slotsUsed := s₂.slotsUsed } : State) = { U.setFrames U.frames with heap := s₂.heap, slotsUsed := s₂.slotsUsed }
      rw [State.setFrames_self ht]
    subst hg
    refine Or.inl ⟨v, ⟨(({ U with heap := s₂.heap, slotsUsed := s₂.slotsUsed } : State).setVm s₂.vm), Ls ++ L, c0 + mc, s0 + ms⟩,
      ⟨X.admits, X.cas, X.clock, X.frames, X.room, X.hears, X.method, X.code, (X.here.setHeapUsed s₂.heap s₂.slotsUsed).setVm hW'.alike, X.tail, State.WarmedH.trans X.warmed hW', X.limits, X.bytes, X.same.trans (hsame.setVm s.vm)⟩,
      ⟨g, mk, s₂, L, rfl, rfl, hqc, rfl, hL, rfl, rfl⟩, ?_⟩
    show Steps p.tables e below _ ((({ U with heap := s₂.heap, slotsUsed := s₂.slotsUsed } : State).setVm s₂.vm).setTop { g with pc := g.pc + len₂, stack := v.toList ++ g.stack })
    rw [← hs₂]
    exact hsteps
  · obtain ⟨e2, q2, q3, q4, q5, q6⟩ := id hsm
    have e3 : s₂ = ({ (U.calling g mk a).setFrames s₂.frames with heap := s₂.heap, slotsUsed := s₂.slotsUsed } : State).setVm s₂.vm := by
      have : s₂ = ({ s₂ with vm := (U.calling g mk a).vm } : State).setVm s₂.vm := rfl
      rw [e2] at this
      exact this
    have hf₂ : s₂.frames = .throwing q :: .java g :: U.frames.tail := hend
    have hW' : U.WarmedH s₂.vm := hW₂
    have hs₂ : s₂ = ((({ U with heap := s₂.heap, slotsUsed := s₂.slotsUsed } : State).setVm s₂.vm).setTop g).pushFrame (.throwing q) := by
      refine e3.trans ?_
      rw [hf₂, State.calling_eq h.top, State.setFrames_setFrames, State.pushFrame, State.frames_setTop _ hr', State.setTop_of_frames _ hr', State.setFrames_setFrames, hr]
      rfl
    have hsame : U.sameButNew ({ U with heap := s₂.heap, slotsUsed := s₂.slotsUsed } : State) L mc ms := by
      refine ⟨?_, q2, q3, q4, q5, q6⟩
      obtain ⟨t, ht, -⟩ := State.frames_cons hr
      show ({ U with heap := s₂.heap, slotsUsed := s₂.slotsUsed } : State) = { U.setFrames U.frames with heap := s₂.heap, slotsUsed := s₂.slotsUsed }
      rw [State.setFrames_self ht]
    subst hg
    refine Or.inr ⟨q, ⟨(({ U with heap := s₂.heap, slotsUsed := s₂.slotsUsed } : State).setVm s₂.vm), Ls ++ L, c0 + mc, s0 + ms⟩,
      ⟨X.admits, X.cas, X.clock, X.frames, X.room, X.hears, X.method, X.code, (X.here.setHeapUsed s₂.heap s₂.slotsUsed).setVm hW'.alike, X.tail, State.WarmedH.trans X.warmed hW', X.limits, X.bytes, X.same.trans (hsame.setVm s.vm)⟩,
      ⟨g, mk, s₂, L, E, ce, rfl, rfl, hx, hce, hcv, hcl, rfl, hL, rfl, rfl⟩, ?_⟩
    show Steps p.tables e below _ (((({ U with heap := s₂.heap, slotsUsed := s₂.slotsUsed } : State).setVm s₂.vm).setTop g).pushFrame (.throwing q))
    rw [← hs₂]
    exact hsteps
end Payer
section Calls
variable {p : Program} {l : Launch} {e : Env} {R : Room} {s : State} {m : MethodId} {args : Array Value} {below : List Frame} {meth : Method} {c : Code} {T : State} {locs : List Loc} {cells slots : Nat}
theorem vx_callV (X : Stand p l e R s m args below meth c T locs cells slots) (hexec : p.tables.exec = Jvm.exec) {own C : String} {index : Nat} {y : MethodName} {bytes : ByteArray} {maxL : Nat} {ret : Option FieldType}
    (hown : s.vm.findClass own = some m.cls) (hlink : (Cond.methodLink own index y).before args s = true) (hinst : (Cond.instanceMethod y).before args s = true) (hsel : (Cond.selects C y y).before args s = true)
    (hcode : (Cond.code y bytes maxL ret).before args s = true) (hy : y.cls ≠ "java/lang/invoke/MethodHandle" ∧ y.cls ≠ "java/lang/invoke/VarHandle")
    {W9 : Nat} {Pre : Pt → Array Value → Prop} {Post : Pt → Array Value → Option Value → Pt → Prop} {PostX : Pt → Array Value → Addr → Pt → Prop} (hK : vx_Back l R p e below s args y 3 W9 Pre Post PostX)
    {b : Addr} {cellB : Cell} (hcell : T.heap[b]? = some cellB) (hobj : cellB.vm.isStatics = false) (hcls : s.vm.findClass C = some cellB.cls)
    {g : JFrame} (hg : g.method = m) (hsize : g.locals.size = c.maxLocals) {argsL rest : List Value} (hlen : ∀ sig, parseMethodDescriptor y.desc = some sig → argsL.length = sig.parameters.length)
    (hstack : g.stack = argsL.reverse ++ .ref b :: rest) (hW : 2 * g.monitorRoom + (rest.map fun v => v.category).sum ≤ W9) (hdg : decode c.code g.pc = .ok (.invokevirtual index, 3))
    (hpre : ∀ vm₁, s.WarmedH vm₁ → Pre ⟨T.setVm vm₁, locs, cells, slots⟩ (Value.ref b :: argsL).toArray) :
    (∃ (v : Option Value) (vm₁ : Vm) (B : Pt), s.WarmedH vm₁ ∧ Stand p l e R s m args below meth c B.U B.locs B.cells B.slots ∧ Post ⟨T.setVm vm₁, locs, cells, slots⟩ (Value.ref b :: argsL).toArray v B ∧
      ∀ target, Steps p.tables e below (B.U.setTop { g with pc := g.pc + 3, stack := v.toList ++ rest }) target → Steps p.tables e below (T.setTop g) target) ∨
    (∃ (q : Addr) (vm₁ : Vm) (B : Pt), s.WarmedH vm₁ ∧ Stand p l e R s m args below meth c B.U B.locs B.cells B.slots ∧ PostX ⟨T.setVm vm₁, locs, cells, slots⟩ (Value.ref b :: argsL).toArray q B ∧
      Steps p.tables e below (T.setTop g) ((B.U.setTop { g with stack := rest }).pushFrame (.throwing q))) := by
  obtain ⟨mk, methM, hnamed, hmethM, hstM, habM⟩ := Cond.instanceMethod_spec hinst
  obtain ⟨methM', cM, hmethM', -, -, -, -, -, -, hsigM⟩ := Cond.code_spec hnamed hcode
  cases hmethM.symm.trans hmethM'
  obtain ⟨c2, r2, m2, q1, q2, q3, q4, kP, hkP, hkPi⟩ := Cond.selects_spec hsel
  cases hcls.symm.trans q1
  cases (State.methodFound?_of_named hnamed hy).symm.trans q2
  cases hnamed.symm.trans q3
  have hselP : selectMethod e.platform s.vm cellB.cls mk = .method mk := by rw [Launch.admits_selectMethod X.admits]; exact q4
  obtain ⟨vm₁, X₁, hstep₁⟩ := X.invokevirtual hexec hown hlink hnamed hmethM hstM hkP hkPi hy (a := b) (cell := cellB) hcell
    (fun z h => by rw [h] at hobj; cases hobj) hselP hmethM habM hkP hkPi (g := g) hg (argsL := argsL) (rest := rest) (hlen _ hsigM) hstack hdg
  rcases hK m meth c ⟨T.setVm vm₁, locs, cells, slots⟩ { g with stack := rest } (.invokevirtual index) mk (Value.ref b :: argsL).toArray X₁ hg hsize hdg hW (X₁.named hnamed) (hpre vm₁ X₁.warmed) with ⟨v, B, X', hpost, hsteps⟩ | ⟨q, B, X', hpost, hsteps⟩
  · exact Or.inl ⟨v, vm₁, B, X₁.warmed, X', hpost, fun target h => hstep₁ _ fun acts => by rw [doInvoke_state]; exact hsteps.trans h⟩
  · exact Or.inr ⟨q, vm₁, B, X₁.warmed, X', hpost, hstep₁ _ fun acts => by rw [doInvoke_state]; exact hsteps⟩
theorem vx_callS (X : Stand p l e R s m args below meth c T locs cells slots) (hexec : p.tables.exec = Jvm.exec) {own : String} {index : Nat} {y : MethodName} {bytes : ByteArray} {maxL : Nat} {ret : Option FieldType}
    (hown : s.vm.findClass own = some m.cls) (hlink : (Cond.methodLink own index y).before args s = true) (hstat : (Cond.static y).before args s = true) (hinit : (Cond.initialized y.cls).before args s = true)
    (hcode : (Cond.code y bytes maxL ret).before args s = true) (hy : y.cls ≠ "java/lang/invoke/MethodHandle" ∧ y.cls ≠ "java/lang/invoke/VarHandle")
    {W9 : Nat} {Pre : Pt → Array Value → Prop} {Post : Pt → Array Value → Option Value → Pt → Prop} {PostX : Pt → Array Value → Addr → Pt → Prop} (hK : vx_Back l R p e below s args y 3 W9 Pre Post PostX)
    {g : JFrame} (hg : g.method = m) (hsize : g.locals.size = c.maxLocals) {argsL rest : List Value} (hlen : ∀ sig, parseMethodDescriptor y.desc = some sig → argsL.length = sig.parameters.length)
    (hstack : g.stack = argsL.reverse ++ rest) (hW : 2 * g.monitorRoom + (rest.map fun v => v.category).sum ≤ W9) (hdg : decode c.code g.pc = .ok (.invokestatic index, 3))
    (hpre : ∀ vm₁, s.WarmedH vm₁ → Pre ⟨T.setVm vm₁, locs, cells, slots⟩ argsL.toArray) :
    (∃ (v : Option Value) (vm₁ : Vm) (B : Pt), s.WarmedH vm₁ ∧ Stand p l e R s m args below meth c B.U B.locs B.cells B.slots ∧ Post ⟨T.setVm vm₁, locs, cells, slots⟩ argsL.toArray v B ∧
      ∀ target, Steps p.tables e below (B.U.setTop { g with pc := g.pc + 3, stack := v.toList ++ rest }) target → Steps p.tables e below (T.setTop g) target) ∨
    (∃ (q : Addr) (vm₁ : Vm) (B : Pt), s.WarmedH vm₁ ∧ Stand p l e R s m args below meth c B.U B.locs B.cells B.slots ∧ PostX ⟨T.setVm vm₁, locs, cells, slots⟩ argsL.toArray q B ∧
      Steps p.tables e below (T.setTop g) ((B.U.setTop { g with stack := rest }).pushFrame (.throwing q))) := by
  obtain ⟨mk, hnamed⟩ := Cond.code_named hcode
  obtain ⟨methM, cM, hmethM, -, -, -, -, -, -, hsigM⟩ := Cond.code_spec hnamed hcode
  have hstatic : methM.isStatic = true := Cond.static_spec hnamed hmethM hstat
  obtain ⟨kP, hkP, -⟩ := className_of_methodNamed hnamed
  have hinitP : kP.init = .initialized := Cond.initialized_spec (findClass_of_methodNamed hnamed) hkP hinit
  obtain ⟨vm₁, X₁, hstep₁⟩ := X.invokestatic hexec hown hlink hnamed hmethM hstatic hkP hinitP hy (g := g) hg (argsL := argsL) (rest := rest) (hlen _ hsigM) hstack hdg
  rcases hK m meth c ⟨T.setVm vm₁, locs, cells, slots⟩ { g with stack := rest } (.invokestatic index) mk argsL.toArray X₁ hg hsize hdg hW (X₁.named hnamed) (hpre vm₁ X₁.warmed) with ⟨v, B, X', hpost, hsteps⟩ | ⟨q, B, X', hpost, hsteps⟩
  · exact Or.inl ⟨v, vm₁, B, X₁.warmed, X', hpost, fun target h => hstep₁ _ fun acts => by rw [doInvoke_state]; exact hsteps.trans h⟩
  · exact Or.inr ⟨q, vm₁, B, X₁.warmed, X', hpost, hstep₁ _ fun acts => by rw [doInvoke_state]; exact hsteps⟩
end Calls
theorem vx_cls {s : State} {T : State} {vm₁ : Vm} {E : String} {k : ClassId} (hW : s.WarmedH vm₁) (h : (T.setVm vm₁).vm.findClass E = some k) : s.vm.findClass E = some k := by
  have h1 : vm₁.findClass E = some k := h
  rw [hW.alike.findClass] at h1
  exact h1
/-- the method's frame g, with q thrown over it -/
def vx_W (p : Program) (l : Launch) (e : Env) (R : Room) (s : State) (m : MethodId) (args : Array Value) (below : List Frame) (meth : Method) (c : Code) (H : Heap) (locs : List Loc) (cells slots : Nat) (Q : State → Prop) (g : JFrame) (q : Addr) : Prop :=
  ∀ T : State, T.heap = H → Stand p l e R s m args below meth c T locs cells slots → ∃ t, Steps p.tables e below ((T.setTop g).pushFrame (.throwing q)) t ∧ Q t
def vx_Run (p : Program) (l : Launch) (e : Env) (R : Room) (s : State) (m : MethodId) (args : Array Value) (below : List Frame) (meth : Method) (c : Code) (H : Heap) (locs : List Loc) (cells slots mc ms : Nat) (g : JFrame) (rest : List Value) (Qa : State → Outcome → State → Prop) (XC : String → State → State → Prop) (free : Addr → Prop) : Prop :=
  ∀ T : State, T.heap = H → Stand p l e R s m args below meth c T locs cells slots →
    (∃ (v : Option Value) (st₀ t T' : State) (L : List Loc), st₀.heap = H ∧ Stand p l e R s m args below meth c T' (locs ++ L) (cells + mc) (slots + ms) ∧ (∀ q ∈ L, free q.base) ∧ T'.heap = t.heap ∧ T'.vm = t.vm ∧ Qa st₀ (.returned v) t ∧
      Goes p e below T g T' { g with pc := g.pc + 3, stack := v.toList ++ rest }) ∨
    (∃ (q : Addr) (st₀ t T' : State) (L : List Loc) (E : String) (ce : Cell), st₀.heap = H ∧ Stand p l e R s m args below meth c T' (locs ++ L) (cells + mc) (slots + ms) ∧ (∀ z ∈ L, free z.base) ∧ T'.heap = t.heap ∧ T'.vm = t.vm ∧ XC E st₀ t ∧ t.heap[q]? = some ce ∧ ce.vm = .none ∧ s.vm.findClass E = some ce.cls ∧
      Steps p.tables e below (T.setTop g) ((T'.setTop { g with stack := rest }).pushFrame (.throwing q)))
def vx_X {S : Type} (px : S → Prop) (B : String → S → State → Prop) (A : Nat → Prop) : String → State → State → Prop := fun E st t => ∃ u : S, px u ∧ B E u t ∧ va_F A st t
section Runs
variable {p : Program} {l : Launch} {e : Env} {R : Room} {s : State} {m : MethodId} {args : Array Value} {below : List Frame} {meth : Method} {c : Code} {H : Heap} {locs : List Loc} {cells slots : Nat}
variable {y : MethodName} {bytes cc : ByteArray} {maxL nL mc ms n index : Nat} {ret : Option FieldType} {ws : List Cond} {rm : Room} {Pc : Array Value → State → Prop} {Qc : Array Value → State → Outcome → State → Prop} {XC : String → State → State → Prop} {free : Addr → Prop} {Ts : List Cond} {own C : String} {b : Addr} {As rest : List Value} {g : JFrame}
theorem vx_callBack (cb : CallB R s args own index y bytes maxL ret ws rm mc ms n) (hM : vx_Met l y ws rm Pc Qc XC mc ms free) (hbl : FrameBlind Pc) : vx_Back l R p e below s args y 3 8 (PreOf R mc ms Pc) (PostOf Qc mc ms free) (vx_Post XC mc ms free) := by
  obtain ⟨hrc, hrs, hfr, hlo, hws, hcw, -, hini, -⟩ := cb
  exact vx_back (bytes := bytes) (maxL := maxL) (ret := ret) hM hbl hrc hrs hfr hlo hws hcw (fun a' U hW => word_at hW (Or.inl (by first | rfl | simp [Cond.onTables, Cond.keeps, Cond.steady])) hini)
theorem vx_runV (S : CallFix p m c cc nL s args Ts own) (hM : vx_Met l y ws rm Pc Qc XC mc ms free) (cw : CallW R s args own C index y bytes maxL ret ws rm mc ms n) (hp : PreV s H C b Pc As)
    (hg : g.method = m) (hn : As.length = n) (hsize : g.locals.size = nL) (hstack : g.stack = As.reverse ++ .ref b :: rest) (hW : 2 * g.monitorRoom + (rest.map fun v => v.category).sum ≤ 8) (hdg : decode cc g.pc = .ok (.invokevirtual index, 3)) (hf : cells + mc ≤ R.cells ∧ slots + ms ≤ R.slots) :
    vx_Run p l e R s m args below meth c H locs cells slots mc ms g rest (Qc (Value.ref b :: As).toArray) XC free := by
  have hK : vx_Back l R p e below s args y 3 8 (PreOf R mc ms Pc) (PostOf Qc mc ms free) (vx_Post XC mc ms free) := vx_callBack cw.1 hM hp.1
  obtain ⟨⟨-, -, -, -, -, -, hcode, -, hy, hlen, hl⟩, hin, hse⟩ := cw
  obtain ⟨hx, hb, hml, ho, -⟩ := S
  obtain ⟨-, ⟨cellB, hcB, hoB, hclB⟩, hPc⟩ := hp
  intro T hT X
  rcases vx_callV X hx (C := C) (bytes := bytes) (maxL := maxL) (ret := ret) ho hl hin hse hcode hy hK (by rw [hT]; exact hcB) hoB hclB hg (hsize.trans hml.symm) (argsL := As) (rest := rest) (fun sig h => hn.trans (hlen sig h)) hstack hW (by rw [hb]; exact hdg)
    (fun vm₁ hW₁ => ⟨hf.1, hf.2, hPc (T.setVm vm₁) hT hW₁⟩) with ⟨v, vm₁, ⟨U', l2, c2, s2⟩, hW₁, X', ⟨g', mk, t, L, e1, e2, hq, h1, hL, h2, h3⟩, st⟩ | ⟨q, vm₁, ⟨U', l2, c2, s2⟩, hW₁, X', ⟨g', mk, t, L, E, ce, e1, e2, hq, hce, hcv, hcl, h1, hL, h2, h3⟩, st⟩
  · dsimp only [Pt.U, Pt.locs, Pt.cells, Pt.slots] at X' e1 e2 h1 h2 h3 st
    subst h1; subst h2; subst h3
    exact Or.inl ⟨v, (T.setVm vm₁).calling g' mk (Value.ref b :: As).toArray, t, U', L, hT, X', hL, e1, e2, hq, st⟩
  · dsimp only [Pt.U, Pt.locs, Pt.cells, Pt.slots] at X' e1 e2 h1 h2 h3 st hcl
    subst h1; subst h2; subst h3
    exact Or.inr ⟨q, (T.setVm vm₁).calling g' mk (Value.ref b :: As).toArray, t, U', L, E, ce, hT, X', hL, e1, e2, hq, hce, hcv, vx_cls hW₁ hcl, st⟩
theorem vx_runS (S : CallFix p m c cc nL s args Ts own) (hM : vx_Met l y ws rm Pc Qc XC mc ms free) (cw : CallB R s args own index y bytes maxL ret ws rm mc ms n ∧ (Cond.static y).before args s = true) (hp : PreS s H Pc As)
    (hg : g.method = m) (hn : As.length = n) (hsize : g.locals.size = nL) (hstack : g.stack = As.reverse ++ rest) (hW : 2 * g.monitorRoom + (rest.map fun v => v.category).sum ≤ 8) (hdg : decode cc g.pc = .ok (.invokestatic index, 3)) (hf : cells + mc ≤ R.cells ∧ slots + ms ≤ R.slots) :
    vx_Run p l e R s m args below meth c H locs cells slots mc ms g rest (Qc As.toArray) XC free := by
  have hK : vx_Back l R p e below s args y 3 8 (PreOf R mc ms Pc) (PostOf Qc mc ms free) (vx_Post XC mc ms free) := vx_callBack cw.1 hM hp.1
  obtain ⟨⟨-, -, -, -, -, -, hcode, hini, hy, hlen, hl⟩, hstt⟩ := cw
  obtain ⟨hx, hb, hml, ho, -⟩ := S
  intro T hT X
  rcases vx_callS X hx (bytes := bytes) (maxL := maxL) (ret := ret) ho hl hstt hini hcode hy hK hg (hsize.trans hml.symm) (argsL := As) (rest := rest) (fun sig h => hn.trans (hlen sig h)) hstack hW (by rw [hb]; exact hdg)
    (fun vm₁ hW₁ => ⟨hf.1, hf.2, hp.2 (T.setVm vm₁) hT hW₁⟩) with ⟨v, vm₁, ⟨U', l2, c2, s2⟩, hW₁, X', ⟨g', mk, t, L, e1, e2, hq, h1, hL, h2, h3⟩, st⟩ | ⟨q, vm₁, ⟨U', l2, c2, s2⟩, hW₁, X', ⟨g', mk, t, L, E, ce, e1, e2, hq, hce, hcv, hcl, h1, hL, h2, h3⟩, st⟩
  · dsimp only [Pt.U, Pt.locs, Pt.cells, Pt.slots] at X' e1 e2 h1 h2 h3 st
    subst h1; subst h2; subst h3
    exact Or.inl ⟨v, (T.setVm vm₁).calling g' mk As.toArray, t, U', L, hT, X', hL, e1, e2, hq, st⟩
  · dsimp only [Pt.U, Pt.locs, Pt.cells, Pt.slots] at X' e1 e2 h1 h2 h3 st hcl
    subst h1; subst h2; subst h3
    exact Or.inr ⟨q, (T.setVm vm₁).calling g' mk As.toArray, t, U', L, E, ce, hT, X', hL, e1, e2, hq, hce, hcv, vx_cls hW₁ hcl, st⟩
end Runs
section Rows
variable {p : Program} {l : Launch} {e : Env} {R : Room} {s : State} {m : MethodId} {args : Array Value} {below : List Frame} {meth : Method} {c : Code} {H : Heap} {locs : List Loc} {cells slots : Nat} {Q : State → Prop}
variable {mc ms : Nat} {free : Addr → Prop} {A0 A1 : Nat → Prop} {H0 : Heap} {a : Array Value} {pc : Nat} {ls : Array Slot} {st0 rest : List Value}
theorem vx_keep {st₀ t T' : State} {L : List Loc} (h0 : st₀.heap = H) (e1 : T'.heap = t.heap) (hS : va_S A0 H0 H locs) (hA : ∀ q, q < H.size → A1 q → A0 q) (hf : ∀ q, free q → A0 q) (hL : ∀ q ∈ L, free q.base) (hF : va_F A1 st₀ t) :
    H.size ≤ T'.heap.size ∧ (∀ q : Nat, q < H.size → ¬ A1 q → T'.heap[q]? = H[q]?) ∧ va_S A0 H0 T'.heap (locs ++ L) := by
  obtain ⟨hz, hk⟩ := hF
  rw [h0] at hz hk
  exact ⟨by rw [e1]; exact hz, fun q h1 h2 => by rw [e1]; exact hk q h1 h2,
    ⟨Nat.le_trans hS.1 (by rw [e1]; exact hz), fun q h1 h2 => by rw [e1, hk q (Nat.lt_of_lt_of_le h1 hS.1) (fun z => h2 (hA q (Nat.lt_of_lt_of_le h1 hS.1) z))]; exact hS.2.1 q h1 h2, fun q hq => by
      rcases List.mem_append.mp hq with h | h
      · exact hS.2.2 q h
      · exact hf _ (hL q h)⟩⟩
theorem vx_calli {S SX : Type} {post : Int32 → S → Prop} {px : SX → Prop} {B : S → State → Prop} {BX : String → SX → State → Prop} {AX : Nat → Prop} (hr : vx_Run p l e R s m args below meth c H locs cells slots mc ms (F0 m pc ls st0) rest (va_Qi post B A1 a) (vx_X px BX AX) free) (hS : va_S A0 H0 H locs) (hA : ∀ q, q < H.size → A1 q → A0 q) (hf : ∀ q, free q → A0 q) (hAX : ∀ q, q < H.size → AX q → A0 q)
    (kx : ∀ (E : String) (ce : Cell) (q9 : Addr) (u : SX) (t : State) (H1 : Heap) (locs1 : List Loc), t.heap = H1 → s.vm.Alike t.vm → px u → BX E u t → H.size ≤ H1.size → (∀ q : Nat, q < H.size → ¬ AX q → H1[q]? = H[q]?) → va_S A0 H0 H1 locs1 → H1[q9]? = some ce → ce.vm = .none → s.vm.findClass E = some ce.cls → vx_W p l e R s m args below meth c H1 locs1 (cells + mc) (slots + ms) Q (F0 m pc ls rest) q9)
    (kk : ∀ (r : Int32) (u : S) (t : State) (H1 : Heap) (locs1 : List Loc), t.heap = H1 → s.vm.Alike t.vm → post r u → B u t → H.size ≤ H1.size → (∀ q : Nat, q < H.size → ¬ A1 q → H1[q]? = H[q]?) → va_S A0 H0 H1 locs1 → W p l e R s m args below meth c H1 locs1 (cells + mc) (slots + ms) Q (F0 m (pc + 3) ls (.int r :: rest))) : W p l e R s m args below meth c H locs cells slots Q (F0 m pc ls st0) := by
  intro T hT X
  rcases hr T hT X with ⟨v, st₀, t, T', L, h0, X', hL, e1, e2, ⟨⟨r, u, hv, hp, hb⟩, hF⟩, st⟩ | ⟨q, st₀, t, T', L, E, ce, h0, X', hL, e1, e2, ⟨u, hp, hb, hF⟩, hce, hcv, hcl, st⟩
  · cases hv
    obtain ⟨k1, k2, k3⟩ := vx_keep h0 e1 hS hA hf hL hF
    obtain ⟨t2, a1, b1⟩ := kk r u t T'.heap (locs ++ L) e1.symm (by rw [← e2]; exact X'.warmed.alike) hp hb k1 k2 k3 T' rfl X'
    exact ⟨t2, st t2 a1, b1⟩
  · obtain ⟨k1, k2, k3⟩ := vx_keep h0 e1 hS hAX hf hL hF
    obtain ⟨t2, a1, b1⟩ := kx E ce q u t T'.heap (locs ++ L) e1.symm (by rw [← e2]; exact X'.warmed.alike) hp hb k1 k2 k3 (by rw [e1]; exact hce) hcv hcl T' rfl X'
    exact ⟨t2, st.trans a1, b1⟩
theorem vx_calll {S SX : Type} {post : Int64 → S → Prop} {px : SX → Prop} {B : S → State → Prop} {BX : String → SX → State → Prop} {AX : Nat → Prop} (hr : vx_Run p l e R s m args below meth c H locs cells slots mc ms (F0 m pc ls st0) rest (va_Ql post B A1 a) (vx_X px BX AX) free) (hS : va_S A0 H0 H locs) (hA : ∀ q, q < H.size → A1 q → A0 q) (hf : ∀ q, free q → A0 q) (hAX : ∀ q, q < H.size → AX q → A0 q)
    (kx : ∀ (E : String) (ce : Cell) (q9 : Addr) (u : SX) (t : State) (H1 : Heap) (locs1 : List Loc), t.heap = H1 → s.vm.Alike t.vm → px u → BX E u t → H.size ≤ H1.size → (∀ q : Nat, q < H.size → ¬ AX q → H1[q]? = H[q]?) → va_S A0 H0 H1 locs1 → H1[q9]? = some ce → ce.vm = .none → s.vm.findClass E = some ce.cls → vx_W p l e R s m args below meth c H1 locs1 (cells + mc) (slots + ms) Q (F0 m pc ls rest) q9)
    (kk : ∀ (r : Int64) (u : S) (t : State) (H1 : Heap) (locs1 : List Loc), t.heap = H1 → s.vm.Alike t.vm → post r u → B u t → H.size ≤ H1.size → (∀ q : Nat, q < H.size → ¬ A1 q → H1[q]? = H[q]?) → va_S A0 H0 H1 locs1 → W p l e R s m args below meth c H1 locs1 (cells + mc) (slots + ms) Q (F0 m (pc + 3) ls (.long r :: rest))) : W p l e R s m args below meth c H locs cells slots Q (F0 m pc ls st0) := by
  intro T hT X
  rcases hr T hT X with ⟨v, st₀, t, T', L, h0, X', hL, e1, e2, ⟨⟨r, u, hv, hp, hb⟩, hF⟩, st⟩ | ⟨q, st₀, t, T', L, E, ce, h0, X', hL, e1, e2, ⟨u, hp, hb, hF⟩, hce, hcv, hcl, st⟩
  · cases hv
    obtain ⟨k1, k2, k3⟩ := vx_keep h0 e1 hS hA hf hL hF
    obtain ⟨t2, a1, b1⟩ := kk r u t T'.heap (locs ++ L) e1.symm (by rw [← e2]; exact X'.warmed.alike) hp hb k1 k2 k3 T' rfl X'
    exact ⟨t2, st t2 a1, b1⟩
  · obtain ⟨k1, k2, k3⟩ := vx_keep h0 e1 hS hAX hf hL hF
    obtain ⟨t2, a1, b1⟩ := kx E ce q u t T'.heap (locs ++ L) e1.symm (by rw [← e2]; exact X'.warmed.alike) hp hb k1 k2 k3 (by rw [e1]; exact hce) hcv hcl T' rfl X'
    exact ⟨t2, st.trans a1, b1⟩
theorem vx_callf {S SX : Type} {post : UInt32 → S → Prop} {px : SX → Prop} {B : S → State → Prop} {BX : String → SX → State → Prop} {AX : Nat → Prop} (hr : vx_Run p l e R s m args below meth c H locs cells slots mc ms (F0 m pc ls st0) rest (va_Qf post B A1 a) (vx_X px BX AX) free) (hS : va_S A0 H0 H locs) (hA : ∀ q, q < H.size → A1 q → A0 q) (hf : ∀ q, free q → A0 q) (hAX : ∀ q, q < H.size → AX q → A0 q)
    (kx : ∀ (E : String) (ce : Cell) (q9 : Addr) (u : SX) (t : State) (H1 : Heap) (locs1 : List Loc), t.heap = H1 → s.vm.Alike t.vm → px u → BX E u t → H.size ≤ H1.size → (∀ q : Nat, q < H.size → ¬ AX q → H1[q]? = H[q]?) → va_S A0 H0 H1 locs1 → H1[q9]? = some ce → ce.vm = .none → s.vm.findClass E = some ce.cls → vx_W p l e R s m args below meth c H1 locs1 (cells + mc) (slots + ms) Q (F0 m pc ls rest) q9)
    (kk : ∀ (r : UInt32) (u : S) (t : State) (H1 : Heap) (locs1 : List Loc), t.heap = H1 → s.vm.Alike t.vm → post r u → B u t → H.size ≤ H1.size → (∀ q : Nat, q < H.size → ¬ A1 q → H1[q]? = H[q]?) → va_S A0 H0 H1 locs1 → W p l e R s m args below meth c H1 locs1 (cells + mc) (slots + ms) Q (F0 m (pc + 3) ls (.float r :: rest))) : W p l e R s m args below meth c H locs cells slots Q (F0 m pc ls st0) := by
  intro T hT X
  rcases hr T hT X with ⟨v, st₀, t, T', L, h0, X', hL, e1, e2, ⟨⟨r, u, hv, hp, hb⟩, hF⟩, st⟩ | ⟨q, st₀, t, T', L, E, ce, h0, X', hL, e1, e2, ⟨u, hp, hb, hF⟩, hce, hcv, hcl, st⟩
  · cases hv
    obtain ⟨k1, k2, k3⟩ := vx_keep h0 e1 hS hA hf hL hF
    obtain ⟨t2, a1, b1⟩ := kk r u t T'.heap (locs ++ L) e1.symm (by rw [← e2]; exact X'.warmed.alike) hp hb k1 k2 k3 T' rfl X'
    exact ⟨t2, st t2 a1, b1⟩
  · obtain ⟨k1, k2, k3⟩ := vx_keep h0 e1 hS hAX hf hL hF
    obtain ⟨t2, a1, b1⟩ := kx E ce q u t T'.heap (locs ++ L) e1.symm (by rw [← e2]; exact X'.warmed.alike) hp hb k1 k2 k3 (by rw [e1]; exact hce) hcv hcl T' rfl X'
    exact ⟨t2, st.trans a1, b1⟩
theorem vx_calld {S SX : Type} {post : UInt64 → S → Prop} {px : SX → Prop} {B : S → State → Prop} {BX : String → SX → State → Prop} {AX : Nat → Prop} (hr : vx_Run p l e R s m args below meth c H locs cells slots mc ms (F0 m pc ls st0) rest (va_Qd post B A1 a) (vx_X px BX AX) free) (hS : va_S A0 H0 H locs) (hA : ∀ q, q < H.size → A1 q → A0 q) (hf : ∀ q, free q → A0 q) (hAX : ∀ q, q < H.size → AX q → A0 q)
    (kx : ∀ (E : String) (ce : Cell) (q9 : Addr) (u : SX) (t : State) (H1 : Heap) (locs1 : List Loc), t.heap = H1 → s.vm.Alike t.vm → px u → BX E u t → H.size ≤ H1.size → (∀ q : Nat, q < H.size → ¬ AX q → H1[q]? = H[q]?) → va_S A0 H0 H1 locs1 → H1[q9]? = some ce → ce.vm = .none → s.vm.findClass E = some ce.cls → vx_W p l e R s m args below meth c H1 locs1 (cells + mc) (slots + ms) Q (F0 m pc ls rest) q9)
    (kk : ∀ (r : UInt64) (u : S) (t : State) (H1 : Heap) (locs1 : List Loc), t.heap = H1 → s.vm.Alike t.vm → post r u → B u t → H.size ≤ H1.size → (∀ q : Nat, q < H.size → ¬ A1 q → H1[q]? = H[q]?) → va_S A0 H0 H1 locs1 → W p l e R s m args below meth c H1 locs1 (cells + mc) (slots + ms) Q (F0 m (pc + 3) ls (.double r :: rest))) : W p l e R s m args below meth c H locs cells slots Q (F0 m pc ls st0) := by
  intro T hT X
  rcases hr T hT X with ⟨v, st₀, t, T', L, h0, X', hL, e1, e2, ⟨⟨r, u, hv, hp, hb⟩, hF⟩, st⟩ | ⟨q, st₀, t, T', L, E, ce, h0, X', hL, e1, e2, ⟨u, hp, hb, hF⟩, hce, hcv, hcl, st⟩
  · cases hv
    obtain ⟨k1, k2, k3⟩ := vx_keep h0 e1 hS hA hf hL hF
    obtain ⟨t2, a1, b1⟩ := kk r u t T'.heap (locs ++ L) e1.symm (by rw [← e2]; exact X'.warmed.alike) hp hb k1 k2 k3 T' rfl X'
    exact ⟨t2, st t2 a1, b1⟩
  · obtain ⟨k1, k2, k3⟩ := vx_keep h0 e1 hS hAX hf hL hF
    obtain ⟨t2, a1, b1⟩ := kx E ce q u t T'.heap (locs ++ L) e1.symm (by rw [← e2]; exact X'.warmed.alike) hp hb k1 k2 k3 (by rw [e1]; exact hce) hcv hcl T' rfl X'
    exact ⟨t2, st.trans a1, b1⟩
theorem vx_callv {S SX : Type} {post : S → Prop} {px : SX → Prop} {B : S → State → Prop} {BX : String → SX → State → Prop} {AX : Nat → Prop} (hr : vx_Run p l e R s m args below meth c H locs cells slots mc ms (F0 m pc ls st0) rest (va_Qv post B A1 a) (vx_X px BX AX) free) (hS : va_S A0 H0 H locs) (hA : ∀ q, q < H.size → A1 q → A0 q) (hf : ∀ q, free q → A0 q) (hAX : ∀ q, q < H.size → AX q → A0 q)
    (kx : ∀ (E : String) (ce : Cell) (q9 : Addr) (u : SX) (t : State) (H1 : Heap) (locs1 : List Loc), t.heap = H1 → s.vm.Alike t.vm → px u → BX E u t → H.size ≤ H1.size → (∀ q : Nat, q < H.size → ¬ AX q → H1[q]? = H[q]?) → va_S A0 H0 H1 locs1 → H1[q9]? = some ce → ce.vm = .none → s.vm.findClass E = some ce.cls → vx_W p l e R s m args below meth c H1 locs1 (cells + mc) (slots + ms) Q (F0 m pc ls rest) q9)
    (kk : ∀ (u : S) (t : State) (H1 : Heap) (locs1 : List Loc), t.heap = H1 → s.vm.Alike t.vm → post u → B u t → H.size ≤ H1.size → (∀ q : Nat, q < H.size → ¬ A1 q → H1[q]? = H[q]?) → va_S A0 H0 H1 locs1 → W p l e R s m args below meth c H1 locs1 (cells + mc) (slots + ms) Q (F0 m (pc + 3) ls (rest))) : W p l e R s m args below meth c H locs cells slots Q (F0 m pc ls st0) := by
  intro T hT X
  rcases hr T hT X with ⟨v, st₀, t, T', L, h0, X', hL, e1, e2, ⟨⟨u, hv, hp, hb⟩, hF⟩, st⟩ | ⟨q, st₀, t, T', L, E, ce, h0, X', hL, e1, e2, ⟨u, hp, hb, hF⟩, hce, hcv, hcl, st⟩
  · cases hv
    obtain ⟨k1, k2, k3⟩ := vx_keep h0 e1 hS hA hf hL hF
    obtain ⟨t2, a1, b1⟩ := kk u t T'.heap (locs ++ L) e1.symm (by rw [← e2]; exact X'.warmed.alike) hp hb k1 k2 k3 T' rfl X'
    exact ⟨t2, st t2 a1, b1⟩
  · obtain ⟨k1, k2, k3⟩ := vx_keep h0 e1 hS hAX hf hL hF
    obtain ⟨t2, a1, b1⟩ := kx E ce q u t T'.heap (locs ++ L) e1.symm (by rw [← e2]; exact X'.warmed.alike) hp hb k1 k2 k3 (by rw [e1]; exact hce) hcv hcl T' rfl X'
    exact ⟨t2, st.trans a1, b1⟩
/-- caught by the row x of this method's table; the rows ahead don't take it -/
theorem vx_catch {own name : String} {E : String} {ce : Cell} {q : Addr} (hown : s.vm.findClass own = some m.cls) (pre : List ExceptionTableEntry) (x : ExceptionTableEntry) (suf : List ExceptionTableEntry) (hsplit : c.exceptionTable.toList = pre ++ x :: suf)
    (hpass : ∀ z ∈ pre, covers z pc = false ∨ (z.catchType ≠ 0 ∧ ∃ nm : String, (Cond.classLink own z.catchType nm).before args s = true ∧ va_Nc E nm s)) (hx : covers x pc = true) (h0 : x.catchType ≠ 0)
    (hlink : (Cond.classLink own x.catchType name).before args s = true) (hcast : (Cond.castable E name).before args s = true) (hcell : H[q]? = some ce) (hv : ce.vm = .none) (hcl : s.vm.findClass E = some ce.cls)
    (kk : W p l e R s m args below meth c H locs cells slots Q (F0 m x.handlerPc ls [.ref q])) : vx_W p l e R s m args below meth c H locs cells slots Q (F0 m pc ls rest) q := by
  intro T hT X
  have hpl : e.platform.magicAccessors = ({} : Platform).magicAccessors := by rw [X.admits.platform]
  obtain ⟨c3, c4, hc3, hc4, hasg⟩ := Cond.castable_spec hcast
  cases Option.some.inj (hc3.symm.trans hcl)
  obtain ⟨c5, hc5, hcl5⟩ := Cond.classLink_spec hown hlink e.platform hpl
  cases Option.some.inj (hc4.symm.trans hc5)
  obtain ⟨vm', X', st⟩ := X.thenCaughtThrough q (g := F0 m pc ls rest) rfl (Steps.refl _) (by rw [hT]; exact hcell) (by rw [hv]; rfl) (by obtain ⟨k9, h9, -⟩ := Vm.findClass_spec hcl; exact ⟨k9, h9⟩) pre x suf hsplit
    (fun z hz => by
      rcases hpass z hz with h | ⟨hz0, nm, hl1, hn1⟩
      · exact Or.inl h
      · obtain ⟨c6, hc6, hcl6⟩ := Cond.classLink_spec hown hl1 e.platform hpl
        obtain ⟨a8, b8, h1, h2, h3⟩ := hn1
        cases Option.some.inj (h1.symm.trans hcl)
        cases Option.some.inj (h2.symm.trans hc6)
        exact Or.inr ⟨hz0, _, hcl6, h3⟩) hx (Or.inr ⟨h0, c4, hcl5, hasg⟩)
  obtain ⟨t, a1, b1⟩ := kk (T.setVm vm') hT X'
  exact ⟨t, st.trans a1, b1⟩
end Rows
section Ends
variable {p : Program} {l : Launch} {e : Env} {R : Room} {s : State} {m : MethodId} {args : Array Value} {below : List Frame} {meth : Method} {c : Code} {H : Heap} {locs : List Loc} {cells slots : Nat} {Q : State → Prop}
variable {mc ms : Nat} {free : Addr → Prop} {A0 A1 : Nat → Prop} {H0 : Heap} {a : Array Value} {ls : Array Slot} {st0 rest : List Value}
variable {Qc : Array Value → State → Outcome → State → Prop} {XC : String → State → State → Prop}
/-- what a body that may throw owes at its end -/
def vx_MQ (below : List Frame) (Qc : Array Value → State → Outcome → State → Prop) (XC : String → State → State → Prop) (a : Array Value) (s : State) (mc ms : Nat) (free : Addr → Prop) : State → Prop := fun t =>
  ∃ o, t.status = .running ∧ Ended t below o ∧ vx_Q Qc XC mc ms free a s o t
theorem vx_ret {g : JFrame} {mc ms : Nat} (k : W p l e R s m args below meth c H locs cells slots (MQ below Qc args s mc ms free) g) : W p l e R s m args below meth c H locs cells slots (vx_MQ below Qc XC args s mc ms free) g := by
  intro T hT X
  obtain ⟨t, a1, o, b1, b2, b3, b4⟩ := k T hT X
  exact ⟨t, a1, o, b1, b2, Or.inl ⟨b3, b4⟩⟩
/-- not caught here: it goes on to the caller -/
theorem vx_widen {g : JFrame} {q : Addr} {k n : Nat} (h1 : cells ≤ k) (h2 : slots ≤ n) (kk : vx_W p l e R s m args below meth c H locs k n Q g q) : vx_W p l e R s m args below meth c H locs cells slots Q g q := fun T hT X => kk T hT (stand_widen X h1 h2)
theorem vx_out {pc : Nat} {E : String} {ce : Cell} {q : Addr} {mc ms : Nat} (hout : ∀ x ∈ c.exceptionTable.toList, covers x pc = false) (hlocks : meth.locks = false) (hcell : H[q]? = some ce) (hv : ce.vm = .none) (hcl : s.vm.findClass E = some ce.cls)
    (hx : ∀ t : State, t.heap = H → s.vm.Alike t.vm → XC E s t) (hf : ∀ z ∈ locs, free z.base) (hc : cells ≤ mc) (hs : slots ≤ ms) :
    vx_W p l e R s m args below meth c H locs cells slots (vx_MQ below Qc XC args s mc ms free) (F0 m pc ls rest) q := by
  intro T hT X
  obtain ⟨st1, hrun, hend, hW, hsm⟩ := X.leaveThrown q (g := F0 m pc ls rest) rfl rfl rfl hout hlocks
  have hcell9 : (T.setFrames (.throwing q :: below)).heap[q]? = some ce := by
    show T.heap[q]? = some ce
    rw [hT]; exact hcell
  exact ⟨_, st1, .threw q, hrun, hend, Or.inr ⟨q, rfl, E, ce, locs, hx _ hT hW.alike, hcell9, hv, hcl, hW, hsm.mono hc hs, hf⟩⟩
theorem vx_frame {U : State} {k n : Nat} (h : s.sameButNew ({ U with vm := s.vm } : State) locs k n) : s.heap.size ≤ U.heap.size ∧ ∀ q : Nat, q < s.heap.size → (∀ z ∈ locs, z.base ≠ q) → U.heap[q]? = s.heap[q]? := by
  obtain ⟨-, h2, -, -, -, h6⟩ := h
  refine ⟨h2, fun q hq hz => ?_⟩
  obtain ⟨c9, e1, e2, e3, e4⟩ := h6 q _ (Array.getElem?_eq_getElem hq)
  have hs : c9.slots = (s.heap[q]).slots := Array.ext_getElem? fun i => e4 i fun hm => hz _ hm rfl
  have h9 : c9 = s.heap[q] := by
    rw [hs] at e2
    exact e2
  have e5 : U.heap[q]? = some c9 := e1
  rw [e5, h9, Array.getElem?_eq_getElem hq]
/-- the words of a throw but the four that speak of the heap -/
def vx_no (w : Cond) : Bool := decide (w ≠ .isRef (.static Bundle.tN "UNASSIGNED_STACK" Bundle.steD)) && decide (w ≠ .isRef (.static Bundle.tN "SUPPRESSED_SENTINEL" Bundle.listD)) && decide (w ≠ .laysStatic Bundle.tN "UNASSIGNED_STACK" Bundle.steD) && decide (w ≠ .laysStatic Bundle.tN "SUPPRESSED_SENTINEL" Bundle.listD)
def vx_at0 (own : String) (ic : Nat) (X : String) (names : List String) : List Cond := (Bundle.ownAtoms0 own ic X names).filter vx_no
def vx_atS (own : String) (ic : Nat) (X : String) (names : List String) : List Cond := (Bundle.ownAtoms own ic X names).filter vx_no
/-- a word that the tables alone decide, or a good one -/
def vx_ot (w : Cond) : Bool := w.onTables || goodWord w
theorem vx_ot_at {args a' : Array Value} {s U : State} {w : Cond} (hW : s.WarmedH U.vm) (hvm : s.vm = U.vm) (hg : vx_ot w = true) (h : w.before args s = true) : w.before a' U = true := by
  simp only [vx_ot, Bool.or_eq_true] at hg
  rcases hg with hg | hg
  · exact va_tabs hg hvm h
  · exact word_at hW (good_of_word hg) h
/-- a list's words: the good ones out of the method's own list, the others by premises of their own -/
theorem vx_hat {args : Array Value} {s : State} {L B : List Cond} (h1 : ∀ w ∈ L.filter goodWord, w.before args s = true) (h2 : ∀ w ∈ L.filter (fun w => !goodWord w), w ∈ B) (h3 : ∀ w ∈ B, w.before args s = true) : ∀ w ∈ L, w.before args s = true := by
  intro w hw
  by_cases g : goodWord w = true
  · exact h1 w (List.mem_filter.mpr ⟨hw, g⟩)
  · refine h3 w (h2 w (List.mem_filter.mpr ⟨hw, ?_⟩))
    show (!goodWord w) = true
    cases hgw : goodWord w
    · rfl
    · exact absurd hgw g
theorem vx_c {args : Array Value} {s : State} {w : Cond} {B : List Cond} (h : w.before args s = true) (t : ∀ w ∈ B, w.before args s = true) : ∀ w' ∈ w :: B, w'.before args s = true := fun w' h' => (List.mem_cons.mp h').elim (fun e => by rw [e]; exact h) (t w')
theorem vx_n {args : Array Value} {s : State} : ∀ w ∈ ([] : List Cond), w.before args s = true := fun _ h => nomatch h
theorem vx_own {args : Array Value} {s : State} {L : List Cond} (h1 : ∀ w ∈ L.filter vx_no, w.before args s = true)
    (hU : (Cond.isRef (.static Bundle.tN "UNASSIGNED_STACK" Bundle.steD)).before args s = true) (hN : (Cond.isRef (.static Bundle.tN "SUPPRESSED_SENTINEL" Bundle.listD)).before args s = true)
    (lU : (Cond.laysStatic Bundle.tN "UNASSIGNED_STACK" Bundle.steD).before args s = true) (lN : (Cond.laysStatic Bundle.tN "SUPPRESSED_SENTINEL" Bundle.listD).before args s = true) : ∀ w ∈ L, w.before args s = true := by
  intro w hw
  by_cases e1 : w = .isRef (.static Bundle.tN "UNASSIGNED_STACK" Bundle.steD)
  · rw [e1]; exact hU
  · by_cases e2 : w = .isRef (.static Bundle.tN "SUPPRESSED_SENTINEL" Bundle.listD)
    · rw [e2]; exact hN
    · by_cases e3 : w = .laysStatic Bundle.tN "UNASSIGNED_STACK" Bundle.steD
      · rw [e3]; exact lU
      · by_cases e4 : w = .laysStatic Bundle.tN "SUPPRESSED_SENTINEL" Bundle.listD
        · rw [e4]; exact lN
        · exact h1 w (List.mem_filter.mpr ⟨hw, by unfold vx_no; rw [decide_eq_true e1, decide_eq_true e2, decide_eq_true e3, decide_eq_true e4]; rfl⟩)
/-- where a static field lies, its class's statics cell in H -/
def vx_L (C n d : String) (A : Nat → Prop) (U : State) (H : Heap) : Prop := ∃ (c : ClassId) (k : Class) (i : Nat) (f : Field) (a : Nat) (cell : Cell), U.vm.findClass C = some c ∧ U.fieldFound? C n d = some (c, k, i, f) ∧ f.isStatic = true ∧ k.statics = some a ∧ H[a]? = some cell ∧ cell.vm.isStatics = true ∧ cell.cls = c ∧ f.slot < cell.slots.size ∧ k.staticTypes[f.slot]? = some f.type ∧ ¬ A a
theorem vx_L.moved {C n d : String} {A : Nat → Prop} {u U : State} {H : Heap} (hvm : u.vm.Alike U.vm) (h : vx_L C n d A u H) : vx_L C n d A U H := by
  obtain ⟨c, k, i, f, a, cell, h1, h2, h3, h4, h5, h6, h7, h8, h9, h10⟩ := h
  obtain ⟨k', hi', he⟩ := State.fieldFound?_setVm hvm h2
  exact ⟨c, k', i, f, a, cell, by rw [hvm.findClass]; exact h1, hi', h3, by rw [he]; exact h4, h5, h6, h7, h8, by rw [he]; exact h9, h10⟩
theorem vx_L.kept {C n d : String} {A : Nat → Prop} {U : State} {H H1 : Heap} (h : vx_L C n d A U H) (hq : ∀ a : Nat, a < H.size → ¬ A a → H1[a]? = H[a]?) : vx_L C n d A U H1 := by
  obtain ⟨c, k, i, f, a, cell, h1, h2, h3, h4, h5, h6, h7, h8, h9, h10⟩ := h
  exact ⟨c, k, i, f, a, cell, h1, h2, h3, h4, by rw [hq a (Array.getElem?_eq_some_iff.mp h5).1 h10]; exact h5, h6, h7, h8, h9, h10⟩
theorem vx_L.narrow {C n d : String} {A B : Nat → Prop} {U : State} {H : Heap} (h : vx_L C n d A U H) (hAB : ∀ q, B q → A q) : vx_L C n d B U H := by
  obtain ⟨c, k, i, f, a, cell, h1, h2, h3, h4, h5, h6, h7, h8, h9, h10⟩ := h
  exact ⟨c, k, i, f, a, cell, h1, h2, h3, h4, h5, h6, h7, h8, h9, fun z => h10 (hAB _ z)⟩
theorem vx_L.word {C n d : String} {A : Nat → Prop} {s : State} {args : Array Value} (h : vx_L C n d A s s.heap) : (Cond.laysStatic C n d).before args s = true := by
  obtain ⟨c, k, i, f, a, cell, h1, h2, h3, h4, h5, h6, h7, h8, h9, -⟩ := h
  show (Cond.laysStatic C n d).holds args s none s [] = true
  exact Cond.laysStatic_of h1 h2 h3 h4 h5 h6 h7 h8 h9
/-- .. and what it holds: null or some reference -/
def vx_Zq (C n d : String) (A : Nat → Prop) (U : State) (H : Heap) : Prop := va_Zq C n d A U H ∧ vx_L C n d A U H
theorem vx_Zq.moved {C n d : String} {A : Nat → Prop} {u U : State} {H : Heap} (hvm : u.vm.Alike U.vm) (h : vx_Zq C n d A u H) : vx_Zq C n d A U H := ⟨va_Zq.moved hvm h.1, vx_L.moved hvm h.2⟩
theorem vx_Zq.kept {C n d : String} {A : Nat → Prop} {U : State} {H H1 : Heap} (h : vx_Zq C n d A U H) (hq : ∀ a : Nat, a < H.size → ¬ A a → H1[a]? = H[a]?) : vx_Zq C n d A U H1 := ⟨va_Zq.kept h.1 hq, vx_L.kept h.2 hq⟩
theorem vx_Zq.narrow {C n d : String} {A B : Nat → Prop} {U : State} {H : Heap} (h : vx_Zq C n d A U H) (hAB : ∀ q, B q → A q) : vx_Zq C n d B U H := ⟨va_Zq.narrow h.1 hAB, vx_L.narrow h.2 hAB⟩
theorem vx_Zqof {args : Array Value} {s : State} {C n d : String} {A : Nat → Prop} (hl : (Cond.laysStatic C n d).before args s = true) (hini : (Cond.initialized C).before args s = true) (h : (Cond.isRef (.static C n d)).before args s = true) (hA : ∀ a : Nat, a < s.heap.size → ¬ A a) : vx_Zq C n d A s s.heap := by
  refine ⟨va_Zqof hl hini h hA, ?_⟩
  obtain ⟨c, k, i, f, a, cell, h1, h2, h3, h4, h5, h6, h7, h8, h9⟩ := Cond.laysStatic_spec hl
  exact ⟨c, k, i, f, a, cell, h1, h2, h3, h4, h5, h6, h7, h8, h9, hA a (Array.getElem?_eq_some_iff.mp h5).1⟩
theorem vx_isRef {C n d : String} {v : Value} {A : Nat → Prop} {s : State} {args : Array Value} (h : va_Z C n d v A s s.heap) (hv : v.isRef = true) : (Cond.isRef (.static C n d)).before args s = true := by
  obtain ⟨cf, kf, fi, f, a, cell, h1, h2, h3, h4, h5, h6, h7, -⟩ := h
  have he : (Term.static C n d).eval args s none [] s = some v := by
    simp [Term.eval, State.fieldNamed?, h1, h2, h4, h5, h6, h7]
  simp only [Cond.before, Cond.holds, Cond.value, he]
  cases v <;> simp_all [Value.isRef]
theorem vx_isRefq {C n d : String} {A : Nat → Prop} {s : State} {args : Array Value} (h : va_Zq C n d A s s.heap) : (Cond.isRef (.static C n d)).before args s = true := by
  rcases h with h | ⟨t, h⟩
  · exact vx_isRef h rfl
  · exact vx_isRef h rfl
/-- the same frame, seen from here: as if the method were called anew in this heap -/
theorem vx_rebase {T : State} (X : Stand p l e R s m args below meth c T locs cells slots) {R' : Room} (hf : R'.frames ≤ R.frames) (hl : R'.locals ≤ R.locals) (hc : cells + R'.cells ≤ R.cells) (hs : slots + R'.slots ≤ R.slots) :
    Stand p l e R' ((T.setVm s.vm).setFrames (.invoking m args :: below)) m args below meth c T [] 0 0 := by
  have htop : (T.setVm s.vm).topJava?.isSome := X.here.top
  have hF : ((T.setVm s.vm).setFrames (.invoking m args :: below)).frames = .invoking m args :: below := State.frames_setFrames _ (State.cur_lt_of_top htop)
  obtain ⟨g₀, hg0⟩ := Option.isSome_iff_exists.mp htop
  obtain ⟨r, hr⟩ := State.topJava?_eq_some.mp hg0
  have hl9 : e.platform.stackLimits (T.setVm s.vm).me = e.platform.stackLimits s.me := X.limits
  have hb9 : (T.setVm s.vm).me.stackBytes = s.me.stackBytes := X.bytes
  refine ⟨X.admits, X.cas, X.clock, hF, ?_, X.hears, X.method, X.code, X.here, X.tail, X.warmed, ?_, ?_, ?_⟩
  · have h := X.room
    have hU : ((T.setVm s.vm).setFrames (.invoking m args :: below)).localsInUse = s.localsInUse := by
      rw [State.localsInUse_invoking hF (meth := meth) (c := c) X.method X.code, State.localsInUse_invoking X.frames X.method X.code]
    simp only [State.hasRoom, Bool.and_eq_true, decide_eq_true_eq] at h ⊢
    obtain ⟨⟨⟨⟨h1, h2, h3, h4, h5, h6⟩, h7⟩, h8⟩, h9⟩ := h
    rw [X.frames, List.length_cons] at h2 h3
    have q1 := X.heapSize
    have q2 := X.used
    simp only [hF, hU, List.length_cons, State.stackLimits_setFrames, State.stackBytes_setFrames, hl9, hb9]
    refine ⟨⟨⟨⟨by omega, by omega, by omega, by omega, by omega, h6⟩, ?_⟩, ?_⟩, X.book⟩
    · show T.heap.size + R'.cells ≤ e.platform.maxCells
      omega
    · show T.slotsUsed + R'.slots ≤ e.platform.maxSlots
      omega
  · rw [State.stackLimits_setFrames]; rfl
  · rw [State.stackBytes_setFrames]; rfl
  · refine ⟨?_, Nat.le_refl _, Nat.le_refl _, ?_, ?_, fun a c9 h9 => ⟨c9, h9, rfl, rfl, fun _ _ => rfl⟩⟩
    · obtain ⟨t, ht, -⟩ := State.frames_cons hr
      show T.setVm s.vm = { ((T.setVm s.vm).setFrames (.invoking m args :: below)).setFrames (T.setVm s.vm).frames with heap := T.heap, slotsUsed := T.slotsUsed }
      rw [State.setFrames_setFrames, State.setFrames_self ht]
      rfl
    · show T.slotsUsed = T.slotsUsed + ((T.heap.toList.drop T.heap.size).map (·.slots.size)).sum
      rw [List.drop_eq_nil_of_le (Nat.le_of_eq Array.length_toList)]
      rfl
    · show ((T.heap.toList.drop T.heap.size).map (·.slots.size)).sum ≤ 0
      rw [List.drop_eq_nil_of_le (Nat.le_of_eq Array.length_toList)]
      exact Nat.le_refl _
/-- 'throw new E()': new; dup; invokespecial; athrow -/
theorem vx_throw0 {cc : ByteArray} {pc : Nat} (hexec : p.tables.exec = Jvm.exec) (hb : c.code = cc) (hl : l.stackTraces = false) {own cls : String} {names : List String} {ik ic mc ms : Nat} {A : Nat → Prop}
    (hown : s.vm.findClass own = some m.cls) (hcls : Bundle.fit cls = true) (hnames : ∀ n ∈ names, Bundle.fit n = true)
    (hk : (Cond.classLink own ik cls).before args s = true) (hini : (Cond.initialized cls).before args s = true) (hat : ∀ w ∈ vx_at0 own ic cls names, w.before args s = true)
    (hgood : ∀ w ∈ Cond.classLink own ik cls :: Cond.initialized cls :: vx_at0 own ic cls names, vx_ot w = true)
    (hU : vx_Zq Bundle.tN "UNASSIGNED_STACK" Bundle.steD A s s.heap) (hN : vx_Zq Bundle.tN "SUPPRESSED_SENTINEL" Bundle.listD A s s.heap) (hS : va_S A s.heap H locs) (hsize : ls.size = c.maxLocals)
    (d0 : decode cc pc = .ok (.new ik, 3)) (d3 : decode cc (pc + 3) = .ok (.dup, 1)) (d4 : decode cc (pc + 4) = .ok (.invokespecial ic, 3)) (d7 : decode cc (pc + 7) = .ok (.athrow, 1))
    (hout : ∀ x ∈ c.exceptionTable.toList, covers x (pc + 7) = false)
    (hRframes : names.length + 3 < R.frames) (hRlocals : (rest.map fun v => v.category).sum + (13 * (names.length + 1) + 42) ≤ R.locals) (hRcells : cells + 1 ≤ R.cells) (hRslots : slots + 6 ≤ R.slots) (hlocks : meth.locks = false)
    (hx : ∀ t : State, s.vm.Alike t.vm → H.size ≤ t.heap.size → (∀ q : Nat, q < H.size → t.heap[q]? = H[q]?) → XC cls s t)
    (hf : ∀ z ∈ locs, free z.base) (hc : cells + 1 ≤ mc) (hs : slots + 6 ≤ ms) :
    W p l e R s m args below meth c H locs cells slots (vx_MQ below Qc XC args s mc ms free) (F0 m pc ls rest) := by
  intro T hT X
  have htr : e.platform.stackTraces = false := (show e.platform.stackTraces = l.stackTraces by rw [X.admits.platform]).trans hl
  have Y := vx_rebase X (R' := { frames := R.frames, locals := R.locals, cells := 1, slots := 6 }) (Nat.le_refl _) (Nat.le_refl _) hRcells hRslots
  obtain ⟨s', hA⟩ : ∃ z, z = (T.setVm s.vm).setFrames (.invoking m args :: below) := ⟨_, rfl⟩
  rw [← hA] at Y
  have hvm : s'.vm = s.vm := by rw [hA]; rfl
  have hhp : s'.heap = H := by rw [hA]; exact hT
  have hW0 : s.WarmedH s'.vm := by rw [hvm]; exact State.WarmedH.refl s
  have hat' : ∀ w ∈ vx_at0 own ic cls names, w.before args s' = true := fun w hw => vx_ot_at hW0 hvm.symm (hgood w (List.mem_cons_of_mem _ (List.mem_cons_of_mem _ hw))) (hat w hw)
  have hk' : (Cond.classLink own ik cls).before args s' = true := vx_ot_at hW0 hvm.symm (hgood _ List.mem_cons_self) hk
  have hini' : (Cond.initialized cls).before args s' = true := vx_ot_at hW0 hvm.symm (hgood _ (List.mem_cons_of_mem _ List.mem_cons_self)) hini
  have hU' : vx_Zq Bundle.tN "UNASSIGNED_STACK" Bundle.steD A s' s'.heap := by rw [hhp]; exact vx_Zq.moved hW0.alike (hU.kept hS.2.1)
  have hN' : vx_Zq Bundle.tN "SUPPRESSED_SENTINEL" Bundle.listD A s' s'.heap := by rw [hhp]; exact vx_Zq.moved hW0.alike (hN.kept hS.2.1)
  have h : ∀ w ∈ Bundle.ownAtoms0 own ic cls names, w.before args s' = true := vx_own hat' (vx_isRefq hU'.1) (vx_isRefq hN'.1) hU'.2.word hN'.2.word
  have hown' : s'.vm.findClass own = some m.cls := by rw [hvm]; exact hown
  have hins : (Cond.instantiable cls 6).before args s' = true := h _ (by simp [Bundle.ownAtoms0])
  obtain ⟨vm₁, cX, kX, hfX, hkX, -, -, X₁, st1⟩ := Y.newCold hexec (own := own) (C := cls) (index := ik) (n := 6) hown' hk' hins hini'
    (g := F0 m pc ls rest) rfl (by rw [hb]; exact d0) (Nat.le_refl _) (Nat.le_refl _)
  generalize hT1 : (T.setVm vm₁).pushCell { cls := cX, slots := kX.instanceTypes.map defaultValue, vm := .none } = T1 at X₁ st1
  have hcat : (Value.ref T.heap.size).category = 1 := rfl
  have hcellA : T1.heap[T.heap.size]? = some (freshCell cX kX) := by rw [← hT1]; exact State.heap_pushCell_size _ _
  have d3' : decode c.code (pc + 3) = .ok (.dup, 1) := by rw [hb]; exact d3
  obtain ⟨U, hsteps, hrun, hend, hW, hsame, ce, hce, hO⟩ := X₁.ctorThrow0 hexec htr (own := own) (cls := cls) (names := names) (ic := ic) hown' hcls hnames h (fun x hx => nomatch hx) hfX hkX hcellA (by rw [hhp, hT]; exact Nat.le_refl _)
    (g := { method := m, pc := pc + 4, locals := ls, stack := .ref T.heap.size :: .ref T.heap.size :: rest, locked := none }) rfl hsize rfl rfl (rest := rest) rfl
    (by rw [hb]; exact d4) (by rw [hb]; exact d7) hout hRframes (by simp only [List.map_cons, List.sum_cons, hcat]; omega) hlocks
  obtain ⟨f1, f2⟩ := vx_frame hsame
  rw [hhp] at f1 f2
  have hWs : s.WarmedH U.vm := State.WarmedH.trans hW0 hW
  have hcl : s.vm.findClass cls = some ce.cls := by
    have h9 := hO.cls
    rw [hvm] at h9
    exact h9
  have hall : s.sameButNew ({ U with vm := s.vm } : State) locs mc ms := by
    subst hA
    obtain ⟨e1, e2⟩ := hsame
    rw [State.setFrames_setFrames] at e1
    have h2 : (T.setVm s.vm).sameButNew ({ U with vm := s.vm } : State) [] (0 + 1) (0 + 6) := ⟨e1, e2⟩
    have h3 := X.same.trans h2
    rw [List.append_nil] at h3
    exact h3.mono hc hs
  refine ⟨U, ?_, .threw T.heap.size, hrun, hend, Or.inr ⟨T.heap.size, rfl, cls, ce, locs, hx U hWs.alike f1 (fun q hq => f2 q hq (fun z hz => nomatch hz)), hce, hO.vm, hcl, hWs, hall, hf⟩⟩
  refine st1 _ ?_
  show Steps p.tables e below (T1.setTop { method := m, pc := pc + 3, locals := ls, stack := .ref T.heap.size :: rest, locked := none }) _
  jvm_step X₁.here [X₁.here.top, hexec, d3', Value.category]
  exact hsteps
/-- 'throw new E("text")': new; dup; ldc; invokespecial; athrow -/
theorem vx_throwS {cc : ByteArray} {pc : Nat} (hexec : p.tables.exec = Jvm.exec) (hb : c.code = cc) (hl : l.stackTraces = false) {own cls text : String} {names : List String} {ik is ic mc ms sa : Nat} {A : Nat → Prop}
    (hown : s.vm.findClass own = some m.cls) (hcls : Bundle.fit cls = true) (hnames : ∀ n ∈ names, Bundle.fit n = true)
    (hk : (Cond.classLink own ik cls).before args s = true) (hini : (Cond.initialized cls).before args s = true) (hstr : vk_R own is text sa s) (hat : ∀ w ∈ vx_atS own ic cls names, w.before args s = true)
    (hgood : ∀ w ∈ Cond.classLink own ik cls :: Cond.initialized cls :: vx_atS own ic cls names, vx_ot w = true)
    (hU : vx_Zq Bundle.tN "UNASSIGNED_STACK" Bundle.steD A s s.heap) (hN : vx_Zq Bundle.tN "SUPPRESSED_SENTINEL" Bundle.listD A s s.heap) (hS : va_S A s.heap H locs) (hsize : ls.size = c.maxLocals)
    (d0 : decode cc pc = .ok (.new ik, 3)) (d3 : decode cc (pc + 3) = .ok (.dup, 1)) (d4 : decode cc (pc + 4) = .ok (.ldc is, 2)) (d6 : decode cc (pc + 6) = .ok (.invokespecial ic, 3)) (d9 : decode cc (pc + 9) = .ok (.athrow, 1))
    (hout : ∀ x ∈ c.exceptionTable.toList, covers x (pc + 9) = false)
    (hRframes : names.length + 3 < R.frames) (hRlocals : (rest.map fun v => v.category).sum + (13 * (names.length + 1) + 43) ≤ R.locals) (hRcells : cells + 1 ≤ R.cells) (hRslots : slots + 6 ≤ R.slots) (hlocks : meth.locks = false)
    (hx : ∀ t : State, s.vm.Alike t.vm → H.size ≤ t.heap.size → (∀ q : Nat, q < H.size → t.heap[q]? = H[q]?) → XC cls s t)
    (hf : ∀ z ∈ locs, free z.base) (hc : cells + 1 ≤ mc) (hs : slots + 6 ≤ ms) :
    W p l e R s m args below meth c H locs cells slots (vx_MQ below Qc XC args s mc ms free) (F0 m pc ls rest) := by
  intro T hT X
  have htr : e.platform.stackTraces = false := (show e.platform.stackTraces = l.stackTraces by rw [X.admits.platform]).trans hl
  have Y := vx_rebase X (R' := { frames := R.frames, locals := R.locals, cells := 1, slots := 6 }) (Nat.le_refl _) (Nat.le_refl _) hRcells hRslots
  obtain ⟨s', hA⟩ : ∃ z, z = (T.setVm s.vm).setFrames (.invoking m args :: below) := ⟨_, rfl⟩
  rw [← hA] at Y
  have hvm : s'.vm = s.vm := by rw [hA]; rfl
  have hhp : s'.heap = H := by rw [hA]; exact hT
  have hW0 : s.WarmedH s'.vm := by rw [hvm]; exact State.WarmedH.refl s
  have hat' : ∀ w ∈ vx_atS own ic cls names, w.before args s' = true := fun w hw => vx_ot_at hW0 hvm.symm (hgood w (List.mem_cons_of_mem _ (List.mem_cons_of_mem _ hw))) (hat w hw)
  have hk' : (Cond.classLink own ik cls).before args s' = true := vx_ot_at hW0 hvm.symm (hgood _ List.mem_cons_self) hk
  have hini' : (Cond.initialized cls).before args s' = true := vx_ot_at hW0 hvm.symm (hgood _ (List.mem_cons_of_mem _ List.mem_cons_self)) hini
  have hU' : vx_Zq Bundle.tN "UNASSIGNED_STACK" Bundle.steD A s' s'.heap := by rw [hhp]; exact vx_Zq.moved hW0.alike (hU.kept hS.2.1)
  have hN' : vx_Zq Bundle.tN "SUPPRESSED_SENTINEL" Bundle.listD A s' s'.heap := by rw [hhp]; exact vx_Zq.moved hW0.alike (hN.kept hS.2.1)
  have h : ∀ w ∈ Bundle.ownAtoms own ic cls names, w.before args s' = true := vx_own hat' (vx_isRefq hU'.1) (vx_isRefq hN'.1) hU'.2.word hN'.2.word
  have hown' : s'.vm.findClass own = some m.cls := by rw [hvm]; exact hown
  have hins : (Cond.instantiable cls 6).before args s' = true := h _ (by simp [Bundle.ownAtoms])
  obtain ⟨vm₁, cX, kX, hfX, hkX, -, -, X₁, st1⟩ := Y.newCold hexec (own := own) (C := cls) (index := ik) (n := 6) hown' hk' hins hini'
    (g := F0 m pc ls rest) rfl (by rw [hb]; exact d0) (Nat.le_refl _) (Nat.le_refl _)
  generalize hT1 : (T.setVm vm₁).pushCell { cls := cX, slots := kX.instanceTypes.map defaultValue, vm := .none } = T1 at X₁ st1
  have hcat : (Value.ref T.heap.size).category = 1 := rfl
  have hcellA : T1.heap[T.heap.size]? = some (freshCell cX kX) := by rw [← hT1]; exact State.heap_pushCell_size _ _
  have d3' : decode c.code (pc + 3) = .ok (.dup, 1) := by rw [hb]; exact d3
  have d4' : decode c.code (pc + 4) = .ok (.ldc is, 2) := by rw [hb]; exact d4
  have hstr' : vk_R own is text sa s' := vk_R.warm hW0 hstr
  obtain ⟨U, hsteps, hrun, hend, hW, hsame, ce, hce, hO⟩ := X₁.ctorThrowS hexec htr (own := own) (cls := cls) (names := names) (ic := ic) hown' hcls hnames h (fun x hx => nomatch hx) hfX hkX hcellA (by rw [hhp, hT]; exact Nat.le_refl _) (msg := .ref sa) rfl
    (g := { method := m, pc := pc + 6, locals := ls, stack := .ref sa :: .ref T.heap.size :: .ref T.heap.size :: rest, locked := none }) rfl hsize rfl rfl (rest := rest) rfl
    (by rw [hb]; exact d6) (by rw [hb]; exact d9) hout hRframes (by simp only [List.map_cons, List.sum_cons, hcat]; omega) hlocks
  obtain ⟨f1, f2⟩ := vx_frame hsame
  rw [hhp] at f1 f2
  have hWs : s.WarmedH U.vm := State.WarmedH.trans hW0 hW
  have hcl : s.vm.findClass cls = some ce.cls := by
    have h9 := hO.cls
    rw [hvm] at h9
    exact h9
  have hall : s.sameButNew ({ U with vm := s.vm } : State) locs mc ms := by
    subst hA
    obtain ⟨e1, e2⟩ := hsame
    rw [State.setFrames_setFrames] at e1
    have h2 : (T.setVm s.vm).sameButNew ({ U with vm := s.vm } : State) [] (0 + 1) (0 + 6) := ⟨e1, e2⟩
    have h3 := X.same.trans h2
    rw [List.append_nil] at h3
    exact h3.mono hc hs
  refine ⟨U, ?_, .threw T.heap.size, hrun, hend, Or.inr ⟨T.heap.size, rfl, cls, ce, locs, hx U hWs.alike f1 (fun q hq => f2 q hq (fun z hz => nomatch hz)), hce, hO.vm, hcl, hWs, hall, hf⟩⟩
  refine st1 _ ?_
  show Steps p.tables e below (T1.setTop { method := m, pc := pc + 3, locals := ls, stack := .ref T.heap.size :: rest, locked := none }) _
  jvm_step X₁.here [X₁.here.top, hexec, d3', Value.category]
  exact X₁.ldcString hexec (own := own) (text := text) (index := is) (a := sa) hown' hstr'.1 hstr'.2
    (g := { method := m, pc := pc + 4, locals := ls, stack := .ref T.heap.size :: .ref T.heap.size :: rest, locked := none }) rfl d4' _ hsteps
/-- 'throw new E("text")', the text by a wide index -/
theorem vx_throwSW {cc : ByteArray} {pc : Nat} (hexec : p.tables.exec = Jvm.exec) (hb : c.code = cc) (hl : l.stackTraces = false) {own cls text : String} {names : List String} {ik is ic mc ms sa : Nat} {A : Nat → Prop}
    (hown : s.vm.findClass own = some m.cls) (hcls : Bundle.fit cls = true) (hnames : ∀ n ∈ names, Bundle.fit n = true)
    (hk : (Cond.classLink own ik cls).before args s = true) (hini : (Cond.initialized cls).before args s = true) (hstr : vk_R own is text sa s) (hat : ∀ w ∈ vx_atS own ic cls names, w.before args s = true)
    (hgood : ∀ w ∈ Cond.classLink own ik cls :: Cond.initialized cls :: vx_atS own ic cls names, vx_ot w = true)
    (hU : vx_Zq Bundle.tN "UNASSIGNED_STACK" Bundle.steD A s s.heap) (hN : vx_Zq Bundle.tN "SUPPRESSED_SENTINEL" Bundle.listD A s s.heap) (hS : va_S A s.heap H locs) (hsize : ls.size = c.maxLocals)
    (d0 : decode cc pc = .ok (.new ik, 3)) (d3 : decode cc (pc + 3) = .ok (.dup, 1)) (d4 : decode cc (pc + 4) = .ok (.ldc_w is, 3)) (d7 : decode cc (pc + 7) = .ok (.invokespecial ic, 3)) (d10 : decode cc (pc + 10) = .ok (.athrow, 1))
    (hout : ∀ x ∈ c.exceptionTable.toList, covers x (pc + 10) = false)
    (hRframes : names.length + 3 < R.frames) (hRlocals : (rest.map fun v => v.category).sum + (13 * (names.length + 1) + 43) ≤ R.locals) (hRcells : cells + 1 ≤ R.cells) (hRslots : slots + 6 ≤ R.slots) (hlocks : meth.locks = false)
    (hx : ∀ t : State, s.vm.Alike t.vm → H.size ≤ t.heap.size → (∀ q : Nat, q < H.size → t.heap[q]? = H[q]?) → XC cls s t)
    (hf : ∀ z ∈ locs, free z.base) (hc : cells + 1 ≤ mc) (hs : slots + 6 ≤ ms) :
    W p l e R s m args below meth c H locs cells slots (vx_MQ below Qc XC args s mc ms free) (F0 m pc ls rest) := by
  intro T hT X
  have htr : e.platform.stackTraces = false := (show e.platform.stackTraces = l.stackTraces by rw [X.admits.platform]).trans hl
  have Y := vx_rebase X (R' := { frames := R.frames, locals := R.locals, cells := 1, slots := 6 }) (Nat.le_refl _) (Nat.le_refl _) hRcells hRslots
  obtain ⟨s', hA⟩ : ∃ z, z = (T.setVm s.vm).setFrames (.invoking m args :: below) := ⟨_, rfl⟩
  rw [← hA] at Y
  have hvm : s'.vm = s.vm := by rw [hA]; rfl
  have hhp : s'.heap = H := by rw [hA]; exact hT
  have hW0 : s.WarmedH s'.vm := by rw [hvm]; exact State.WarmedH.refl s
  have hat' : ∀ w ∈ vx_atS own ic cls names, w.before args s' = true := fun w hw => vx_ot_at hW0 hvm.symm (hgood w (List.mem_cons_of_mem _ (List.mem_cons_of_mem _ hw))) (hat w hw)
  have hk' : (Cond.classLink own ik cls).before args s' = true := vx_ot_at hW0 hvm.symm (hgood _ List.mem_cons_self) hk
  have hini' : (Cond.initialized cls).before args s' = true := vx_ot_at hW0 hvm.symm (hgood _ (List.mem_cons_of_mem _ List.mem_cons_self)) hini
  have hU' : vx_Zq Bundle.tN "UNASSIGNED_STACK" Bundle.steD A s' s'.heap := by rw [hhp]; exact vx_Zq.moved hW0.alike (hU.kept hS.2.1)
  have hN' : vx_Zq Bundle.tN "SUPPRESSED_SENTINEL" Bundle.listD A s' s'.heap := by rw [hhp]; exact vx_Zq.moved hW0.alike (hN.kept hS.2.1)
  have h : ∀ w ∈ Bundle.ownAtoms own ic cls names, w.before args s' = true := vx_own hat' (vx_isRefq hU'.1) (vx_isRefq hN'.1) hU'.2.word hN'.2.word
  have hown' : s'.vm.findClass own = some m.cls := by rw [hvm]; exact hown
  have hins : (Cond.instantiable cls 6).before args s' = true := h _ (by simp [Bundle.ownAtoms])
  obtain ⟨vm₁, cX, kX, hfX, hkX, -, -, X₁, st1⟩ := Y.newCold hexec (own := own) (C := cls) (index := ik) (n := 6) hown' hk' hins hini'
    (g := F0 m pc ls rest) rfl (by rw [hb]; exact d0) (Nat.le_refl _) (Nat.le_refl _)
  generalize hT1 : (T.setVm vm₁).pushCell { cls := cX, slots := kX.instanceTypes.map defaultValue, vm := .none } = T1 at X₁ st1
  have hcat : (Value.ref T.heap.size).category = 1 := rfl
  have hcellA : T1.heap[T.heap.size]? = some (freshCell cX kX) := by rw [← hT1]; exact State.heap_pushCell_size _ _
  have d3' : decode c.code (pc + 3) = .ok (.dup, 1) := by rw [hb]; exact d3
  have d4' : decode c.code (pc + 4) = .ok (.ldc_w is, 3) := by rw [hb]; exact d4
  have hstr' : vk_R own is text sa s' := vk_R.warm hW0 hstr
  obtain ⟨U, hsteps, hrun, hend, hW, hsame, ce, hce, hO⟩ := X₁.ctorThrowS hexec htr (own := own) (cls := cls) (names := names) (ic := ic) hown' hcls hnames h (fun x hx => nomatch hx) hfX hkX hcellA (by rw [hhp, hT]; exact Nat.le_refl _) (msg := .ref sa) rfl
    (g := { method := m, pc := pc + 7, locals := ls, stack := .ref sa :: .ref T.heap.size :: .ref T.heap.size :: rest, locked := none }) rfl hsize rfl rfl (rest := rest) rfl
    (by rw [hb]; exact d7) (by rw [hb]; exact d10) hout hRframes (by simp only [List.map_cons, List.sum_cons, hcat]; omega) hlocks
  obtain ⟨f1, f2⟩ := vx_frame hsame
  rw [hhp] at f1 f2
  have hWs : s.WarmedH U.vm := State.WarmedH.trans hW0 hW
  have hcl : s.vm.findClass cls = some ce.cls := by
    have h9 := hO.cls
    rw [hvm] at h9
    exact h9
  have hall : s.sameButNew ({ U with vm := s.vm } : State) locs mc ms := by
    subst hA
    obtain ⟨e1, e2⟩ := hsame
    rw [State.setFrames_setFrames] at e1
    have h2 : (T.setVm s.vm).sameButNew ({ U with vm := s.vm } : State) [] (0 + 1) (0 + 6) := ⟨e1, e2⟩
    have h3 := X.same.trans h2
    rw [List.append_nil] at h3
    exact h3.mono hc hs
  refine ⟨U, ?_, .threw T.heap.size, hrun, hend, Or.inr ⟨T.heap.size, rfl, cls, ce, locs, hx U hWs.alike f1 (fun q hq => f2 q hq (fun z hz => nomatch hz)), hce, hO.vm, hcl, hWs, hall, hf⟩⟩
  refine st1 _ ?_
  show Steps p.tables e below (T1.setTop { method := m, pc := pc + 3, locals := ls, stack := .ref T.heap.size :: rest, locked := none }) _
  jvm_step X₁.here [X₁.here.top, hexec, d3', Value.category]
  exact X₁.ldcStringW hexec (own := own) (text := text) (index := is) (a := sa) hown' hstr'.1 hstr'.2
    (g := { method := m, pc := pc + 4, locals := ls, stack := .ref T.heap.size :: .ref T.heap.size :: rest, locked := none }) rfl d4' _ hsteps
end Ends
section Bodies
variable {l : Launch}
theorem vx_ofW {y : MethodName} {ws ws' : List Cond} {rm : Room} {Pc : Array Value → State → Prop} {Qc : Array Value → State → Outcome → State → Prop} {XC : String → State → State → Prop} {mc ms : Nat} {free : Addr → Prop} {cc : ByteArray} {maxL : Nat} {ret : Option FieldType}
    (hy : plainName y.cls = true) (hw : ws = Cond.code y cc maxL ret :: ws')
    (body : ∀ p e s m args below meth c s₁, BodyLoose p l y (headSpec ws rm) cc maxL ret e s m args below meth c s₁ → c.maxLocals = maxL → (∀ x ∈ c.exceptionTable.toList, False) → Pc args s →
      W p l e (headSpec ws rm).room s m args below meth c s.heap [] 0 0 (vx_MQ below Qc XC args s mc ms free) (entryFrame m args maxL)) : vx_Met l y ws rm Pc Qc XC mc ms free := by
  refine MetFree.of_bodyS (code := cc) (maxLocals := maxL) (ret := ret) hy ?_ ?_
  · intro args s m h hn
    obtain ⟨meth, c, h1, h2, h3, h4, h5, h6, -, -⟩ := Cond.code_spec hn (atoms_spec (ws := ws) h _ (by rw [hw]; exact List.mem_cons_self))
    exact ⟨meth, c, h1, h2, h3, h4, h5, h6⟩
  · intro p e s m args below meth c s₁ B hml hP _
    have hh0 : s₁.heap = s.heap := by rw [B.state]; rfl
    have ht : ∀ x ∈ c.exceptionTable.toList, False := by
      obtain ⟨meth9, c9, h1, h2, -, -, -, -, h7, -⟩ := Cond.code_spec B.named (atoms_spec (ws := ws) B.pre _ (by rw [hw]; exact List.mem_cons_self))
      cases Option.some.inj (h1.symm.trans B.method)
      cases Option.some.inj (h2.symm.trans (Stand.of_body B).code)
      intro x hx
      rw [Array.isEmpty_iff.mp h7] at hx
      cases hx
    obtain ⟨t, a1, o, b1, b2, b3⟩ := body p e s m args below meth c s₁ B hml ht hP s₁ hh0 (Stand.of_body B)
    exact ⟨t, o, a1, b1, b2, b3⟩
/-- the table of a body with handlers -/
theorem vx_table {p : Program} {x y : MethodName} {S : Spec} {cc bytes : ByteArray} {maxL maxL' : Nat} {ret ret' : Option FieldType} {e : Env} {s s₁ : State} {m : MethodId} {args : Array Value} {below : List Frame} {meth : Method} {c : Code} {hh : List (Nat × Nat × Nat × Nat)}
    (B : BodyLoose p l y S cc maxL ret e s m args below meth c s₁) (h : (Cond.codeWith y bytes maxL' ret' hh).before args s = true) : c.exceptionTable.toList = tableOf hh := by
  obtain ⟨m9, meth9, c9, hn9, h1, h2, -, -, h6, -⟩ := Cond.codeWith_spec h
  cases Option.some.inj (hn9.symm.trans B.named)
  cases Option.some.inj (h1.symm.trans B.method)
  cases Option.some.inj (h2.symm.trans (Stand.of_body B).code)
  rw [← h6, table_eq]
end Bodies
end VXA
/-! ===== END ===== -/
/-! ===== BEGIN a static call of a method with an exception table ===== -/
section VXS
variable {p : Program} {l : Launch} {e : Env} {R : Room} {s : State} {m : MethodId} {args : Array Value} {below : List Frame} {meth : Method} {c : Code} {T : State} {H : Heap} {locs : List Loc} {cells slots : Nat}
abbrev vx_CSW (R : Room) (s : State) (args : Array Value) (own : String) (index : Nat) (y : MethodName) (bytes : ByteArray) (maxL : Nat) (ret : Option FieldType) (hh : List (Nat × Nat × Nat × Nat)) (ws : List Cond) (rm : Room) (mc ms n : Nat) : Prop :=
  (rm.cells = mc ∧ rm.slots = ms ∧ rm.frames + 1 ≤ R.frames ∧ 8 + (maxL + 11) + rm.locals ≤ R.locals ∧ (∀ w ∈ ws, ∀ (a' : Array Value) (U : State), s.WarmedH U.vm → w.before a' U = true) ∧ Cond.codeWith y bytes maxL ret hh ∈ ws) ∧
  (Cond.codeWith y bytes maxL ret hh).before args s = true ∧ (Cond.initialized y.cls).before args s = true ∧ (y.cls ≠ "java/lang/invoke/MethodHandle" ∧ y.cls ≠ "java/lang/invoke/VarHandle") ∧
  (∀ sig, parseMethodDescriptor y.desc = some sig → n = sig.parameters.length) ∧ (Cond.methodLink own index y).before args s = true ∧ (Cond.static y).before args s = true
theorem vx_cwSW {own : String} {index maxL mc ms : Nat} {y : MethodName} {bytes : ByteArray} {ret : Option FieldType} {hh : List (Nat × Nat × Nat × Nat)} {Ts ws ws' : List Cond} {rm : Room} (n : Nat) (ht : ∀ w ∈ Ts, w.before args s = true) (hT : GoodIn Ts (va_wsS own index y ws)) (hw : ws = Cond.codeWith y bytes maxL ret hh :: ws') (hrc : rm.cells = mc) (hrs : rm.slots = ms)
    (hd : y.cls ≠ "java/lang/invoke/MethodHandle" ∧ y.cls ≠ "java/lang/invoke/VarHandle" ∧ (parseMethodDescriptor y.desc).map (fun d => d.parameters.length) = some n) (hR : rm.frames + 1 ≤ R.frames ∧ 8 + (maxL + 11) + rm.locals ≤ R.locals) :
    vx_CSW R s args own index y bytes maxL ret hh ws rm mc ms n := by
  have ok : ∀ w ∈ va_wsS own index y ws, w.before args s = true := fun w h => ht w (hT w h).1
  have hG : GoodIn Ts ws := fun w h => hT w (by unfold va_wsS; exact List.mem_append_right _ h)
  have hc : Cond.codeWith y bytes maxL ret hh ∈ ws := by rw [hw]; exact List.mem_cons_self
  refine ⟨⟨hrc, hrs, hR.1, hR.2, pay_in ht hG, hc⟩, ht _ (hG _ hc).1, ok _ (by simp [va_wsS]), ⟨hd.1, hd.2.1⟩, fun sig h => ?_, ok _ (by simp [va_wsS]), ok _ (by simp [va_wsS])⟩
  have h2 := hd.2.2
  rw [h] at h2
  exact (Option.some.inj h2).symm
theorem vx_callSW (X : Stand p l e R s m args below meth c T locs cells slots) (hexec : p.tables.exec = Jvm.exec) {own : String} {index : Nat} {y : MethodName} {bytes : ByteArray} {maxL : Nat} {ret : Option FieldType} {hh : List (Nat × Nat × Nat × Nat)}
    (hown : s.vm.findClass own = some m.cls) (hlink : (Cond.methodLink own index y).before args s = true) (hstat : (Cond.static y).before args s = true) (hinit : (Cond.initialized y.cls).before args s = true)
    (hcode : (Cond.codeWith y bytes maxL ret hh).before args s = true) (hy : y.cls ≠ "java/lang/invoke/MethodHandle" ∧ y.cls ≠ "java/lang/invoke/VarHandle")
    {W9 : Nat} {Pre : Pt → Array Value → Prop} {Post : Pt → Array Value → Option Value → Pt → Prop} (hK : Back l R p e below s args y 3 W9 Pre Post)
    {g : JFrame} (hg : g.method = m) (hsize : g.locals.size = c.maxLocals) {argsL rest : List Value} (hlen : ∀ sig, parseMethodDescriptor y.desc = some sig → argsL.length = sig.parameters.length)
    (hstack : g.stack = argsL.reverse ++ rest) (hW : 2 * g.monitorRoom + (rest.map fun v => v.category).sum ≤ W9) (hdg : decode c.code g.pc = .ok (.invokestatic index, 3))
    (hpre : ∀ vm₁, s.WarmedH vm₁ → Pre ⟨T.setVm vm₁, locs, cells, slots⟩ argsL.toArray) :
    ∃ (v : Option Value) (vm₁ : Vm) (B : Pt), s.WarmedH vm₁ ∧ Stand p l e R s m args below meth c B.U B.locs B.cells B.slots ∧ Post ⟨T.setVm vm₁, locs, cells, slots⟩ argsL.toArray v B ∧
      ∀ target, Steps p.tables e below (B.U.setTop { g with pc := g.pc + 3, stack := v.toList ++ rest }) target → Steps p.tables e below (T.setTop g) target := by
  obtain ⟨mk, methM, cM, hnamed, hmethM, -, -, -, -, -, -, hsigM⟩ := Cond.codeWith_spec hcode
  have hstatic : methM.isStatic = true := Cond.static_spec hnamed hmethM hstat
  obtain ⟨kP, hkP, -⟩ := className_of_methodNamed hnamed
  have hinitP : kP.init = .initialized := Cond.initialized_spec (findClass_of_methodNamed hnamed) hkP hinit
  obtain ⟨vm₁, X₁, hstep₁⟩ := X.invokestatic hexec hown hlink hnamed hmethM hstatic hkP hinitP hy (g := g) hg (argsL := argsL) (rest := rest) (hlen _ hsigM) hstack hdg
  obtain ⟨v, B, X', hpost, hsteps⟩ := hK m meth c ⟨T.setVm vm₁, locs, cells, slots⟩ { g with stack := rest } (.invokestatic index) mk argsL.toArray X₁ hg hsize hdg hW (X₁.named hnamed) (hpre vm₁ X₁.warmed)
  exact ⟨v, vm₁, B, X₁.warmed, X', hpost, fun target h => hstep₁ _ fun acts => by rw [doInvoke_state]; exact hsteps.trans h⟩
theorem vx_runSW {y : MethodName} {bytes cc : ByteArray} {maxL nL mc ms n index : Nat} {ret : Option FieldType} {hh : List (Nat × Nat × Nat × Nat)} {ws : List Cond} {rm : Room} {Pc : Array Value → State → Prop} {Qc : Array Value → State → Outcome → State → Prop} {free : Addr → Prop} {Ts : List Cond} {own : String} {As rest : List Value} {g : JFrame}
    (S : CallFix p m c cc nL s args Ts own) (hM : Met l y ws rm Pc Qc mc ms free) (cw : vx_CSW R s args own index y bytes maxL ret hh ws rm mc ms n) (hp : PreS s H Pc As)
    (hg : g.method = m) (hn : As.length = n) (hsize : g.locals.size = nL) (hstack : g.stack = As.reverse ++ rest) (hW : 2 * g.monitorRoom + (rest.map fun v => v.category).sum ≤ 8) (hdg : decode cc g.pc = .ok (.invokestatic index, 3)) (hf : cells + mc ≤ R.cells ∧ slots + ms ≤ R.slots) :
    va_Run p l e R s m args below meth c H locs cells slots mc ms g rest (Qc As.toArray) (free) := by
  obtain ⟨⟨hrc, hrs, hfr, hlo, hws, hcw⟩, hcode, hini, hy, hlen, hl, hstt⟩ := cw
  have hK : Back l R p e below s args y 3 8 (PreOf R mc ms Pc) (PostOf Qc mc ms free) := va_backW (hh := hh) (bytes := bytes) (maxL := maxL) (ret := ret) hM hp.1 hrc hrs hfr hlo hws hcw (fun a' U hW => word_at hW (Or.inl (by first | rfl | simp [Cond.onTables, Cond.keeps, Cond.steady])) hini)
  obtain ⟨hx, hb, hml, ho, -⟩ := S
  intro T hT X
  obtain ⟨v, vm₁, ⟨U', l2, c2, s2⟩, hW₁, X', ⟨g', mk, t, L, e1, e2, hq, h1, hL, h2, h3⟩, st⟩ := vx_callSW X hx (hh := hh) (bytes := bytes) (maxL := maxL) (ret := ret) ho hl hstt hini hcode hy hK hg (hsize.trans hml.symm) (argsL := As) (rest := rest) (fun sig h => hn.trans (hlen sig h)) hstack hW (by rw [hb]; exact hdg)
    (fun vm₁ hW₁ => ⟨hf.1, hf.2, hp.2 (T.setVm vm₁) hT hW₁⟩)
  dsimp only [Pt.U, Pt.locs, Pt.cells, Pt.slots] at X' e1 e2 h1 h2 h3 st
  subst h1; subst h2; subst h3
  exact ⟨v, (T.setVm vm₁).calling g' mk As.toArray, t, U', L, hT, X', hL, e1, e2, hq, st⟩
/-- not caught here, past rows that name other classes: it goes on to the caller -/
theorem vx_outP {p : Program} {l : Launch} {e : Env} {R : Room} {s : State} {m : MethodId} {args : Array Value} {below : List Frame} {meth : Method} {c : Code} {H : Heap} {locs : List Loc} {cells slots : Nat} {free : Addr → Prop} {ls : Array Slot} {rest : List Value} {Qc : Array Value → State → Outcome → State → Prop} {XC : String → State → State → Prop}
    {pc : Nat} {own E : String} {ce : Cell} {q : Addr} {mc ms : Nat} (hown : s.vm.findClass own = some m.cls) (hlocks : meth.locks = false)
    (hpass : ∀ z ∈ c.exceptionTable.toList, covers z pc = false ∨ (z.catchType ≠ 0 ∧ ∃ nm : String, (Cond.classLink own z.catchType nm).before args s = true ∧ va_Nc E nm s)) (hcell : H[q]? = some ce) (hv : ce.vm = .none) (hcl : s.vm.findClass E = some ce.cls)
    (hx : ∀ t : State, t.heap = H → s.vm.Alike t.vm → XC E s t) (hf : ∀ z ∈ locs, free z.base) (hc : cells ≤ mc) (hs : slots ≤ ms) :
    vx_W p l e R s m args below meth c H locs cells slots (vx_MQ below Qc XC args s mc ms free) (F0 m pc ls rest) q := by
  intro T hT X
  have hpl : e.platform.magicAccessors = ({} : Platform).magicAccessors := by rw [X.admits.platform]
  obtain ⟨vm', hW', X', st⟩ := X.outThrough hlocks q (g := F0 m pc ls rest) rfl rfl rfl (cell := ce) (by rw [hT]; exact hcell) (by rw [hv]; rfl)
    (by obtain ⟨k9, h9, -⟩ := Vm.findClass_spec hcl; exact ⟨k9, h9⟩) (fun z hz => by
      rcases hpass z hz with h | ⟨hz0, nm, hl1, hn1⟩
      · exact Or.inl h
      · obtain ⟨c6, hc6, hcl6⟩ := Cond.classLink_spec hown hl1 e.platform hpl
        obtain ⟨a8, b8, h1, h2, h3⟩ := hn1
        cases Option.some.inj (h1.symm.trans hcl)
        cases Option.some.inj (h2.symm.trans hc6)
        exact Or.inr ⟨hz0, _, hcl6, h3⟩)
  obtain ⟨g₀, hfr⟩ := X'.frames_eq
  have hcell9 : ((T.setVm vm').setFrames (.throwing q :: below)).heap[q]? = some ce := by
    show T.heap[q]? = some ce
    rw [hT]; exact hcell
  have hend : Ended ((T.setVm vm').setFrames (.throwing q :: below)) below (.threw q) := State.frames_setFrames _ (State.cur_lt_of_frames hfr)
  refine ⟨(T.setVm vm').setFrames (.throwing q :: below), ?_, .threw q, X'.here.running, hend, Or.inr ⟨q, rfl, E, ce, locs, hx _ hT (X'.ends _).1.alike, hcell9, hv, hcl, (X'.ends _).1, (X'.ends _).2.mono hc hs, hf⟩⟩
  rw [X.pushThrowing_eq]
  exact st
/-- a thing of a world lies in the heap -/
theorem vx_lt {D : va_G} {cl : List vw_C} {ws : va_W} {H1 : Heap} (h : va_P D cl ws H1) {k : Nat} {q : Nat × va_E} (hk : ws[k]? = some q) : q.1 < H1.size := (h k q hk).lt
end VXS
/-! ===== END ===== -/
/-! ===== BEGIN methods with a table of their own: called by a name, returning or throwing ===== -/
section VXH
/-! vx_backW, vx_callVX, vx_callSX, vx_callVW, vx_runVW, vx_runVX, vx_runSX, vx_ofWH follow the same proofs as their sisters above (Free/Laws.lean, Shelf42/LK1.lean); vx_outP calls Shelf42/NT130.lean (outThrough). -/
section
variable {l : Launch} {R : Room} {p : Program} {e : Env} {below : List Frame} {s : State} {sargs : Array Value} {y : MethodName} {len W9 : Nat}
theorem vx_backW {ws : List Cond} {rm : Room} {Pc : Array Value → State → Prop} {Qc : Array Value → State → Outcome → State → Prop} {XC : String → State → State → Prop} {mc ms : Nat} {free : Addr → Prop} {bytes : ByteArray} {maxL : Nat} {ret : Option FieldType} {hh : List (Nat × Nat × Nat × Nat)}
    (hM : vx_Met l y ws rm Pc Qc XC mc ms free) (hblind : FrameBlind Pc) (hrc : rm.cells = mc) (hrs : rm.slots = ms)
    (hframes : rm.frames + 1 ≤ R.frames) (hlocals : W9 + (maxL + 11) + rm.locals ≤ R.locals)
    (hws : ∀ w ∈ ws, ∀ a' U, s.WarmedH U.vm → w.before a' U = true) (hcode : Cond.codeWith y bytes maxL ret hh ∈ ws) (hinit : ∀ a' U, s.WarmedH U.vm → (Cond.initialized y.cls).before a' U = true) :
    vx_Back l R p e below s sargs y len W9 (PreOf R mc ms Pc) (PostOf Qc mc ms free) (vx_Post XC mc ms free) := by
  intro m meth c A g ig mk a X hg hsize hdg hW hn hp
  have h1 : (headSpec ws rm).pre.before a A.U = true := atoms_intro fun w hw => hws w hw _ _ X.warmed
  have h2 : (Cond.codeWith y bytes maxL ret hh).before a A.U = true := hws _ hcode _ _ X.warmed
  have h3 : (Cond.initialized y.cls).before a A.U = true := hinit _ _ X.warmed
  have h4 : A.cells + (headSpec ws rm).room.cells ≤ R.cells := by rw [show (headSpec ws rm).room.cells = mc from hrc]; exact hp.1
  have h5 : A.slots + (headSpec ws rm).room.slots ≤ R.slots := by rw [show (headSpec ws rm).room.slots = ms from hrs]; exact hp.2.1
  have hPc : Pc a (A.U.calling g mk a) := hblind _ _ _ _ hp.2.2
  obtain ⟨U, Ls, c0, s0⟩ := A
  dsimp only [Pt.U, Pt.locs, Pt.cells, Pt.slots] at h1 h2 h3 h4 h5 X hn hPc ⊢
  obtain ⟨m9, methY, cY, hn9, hmY, hcY, -, hlY, -⟩ := Cond.codeWith_spec h2
  cases Option.some.inj (hn9.symm.trans hn)
  obtain ⟨kY, hkY, -⟩ := className_of_methodNamed hn
  have hinitY : kY.init = .initialized := Cond.initialized_spec (findClass_of_methodNamed hn) hkY h3
  have h : At U g.method c below := by rw [hg]; exact X.here
  have hlocals9 : W9 + (maxL + 11) + (headSpec ws rm).room.locals ≤ R.locals := hlocals
  have happ : (headSpec ws rm).appliesLoose y e.platform (U.calling g mk a) = true :=
    Spec.appliesLoose_calling (g := g) h hdg hn hkY hinitY
      (X.room_calling (g := g) (R' := (headSpec ws rm).room) hsize hmY hcY hframes (by rw [hlY]; omega) h4 h5) h1
  obtain ⟨mid, hmid⟩ := h.above
  have hfr : (U.setTop g).frames = (.java g :: mid) ++ below := by rw [State.frames_setTop' g h.top, hmid]; rfl
  obtain ⟨o, s₂, hsteps, -, hend, hq⟩ := Steps.callFree hM p X.admits X.cas X.clock (acts := []) hfr happ hPc trivial
  have hq' : vx_Q Qc XC mc ms free a (U.calling g mk a) o s₂ := hq
  rw [State.frames_setTop' g h.top] at hend
  obtain ⟨g₀, hg0⟩ := Option.isSome_iff_exists.mp h.top
  obtain ⟨r, hr⟩ := State.topJava?_eq_some.mp hg0
  have hr' : (({ U with heap := s₂.heap, slotsUsed := s₂.slotsUsed } : State).setVm s₂.vm).frames = .java g₀ :: r := hr
  rcases hq' with ⟨hqc, L, hfe, hL⟩ | ⟨q, rfl, E, ce, L, hx, hce, hcv, hcl, hW₂, hsm, hL⟩
  · obtain ⟨⟨v, rfl⟩, hW₂, e2, q2, q3, q4, q5, q6⟩ := id hfe
    have e3 : s₂ = ({ (U.calling g mk a).setFrames s₂.frames with heap := s₂.heap, slotsUsed := s₂.slotsUsed } : State).setVm s₂.vm := by
      have : s₂ = ({ s₂ with vm := (U.calling g mk a).vm } : State).setVm s₂.vm := rfl
      rw [e2] at this
      exact this
    obtain ⟨c₂, i₂, len₂, hc₂, hd₂, hf₂⟩ := hend
    have hW' : U.WarmedH s₂.vm := hW₂
    have hcc : c₂ = c := by
      have h1 : s₂.code? g.method = U.code? g.method := by
        rw [State.code?_eq, State.code?_eq, hW'.alike.method?]
      exact Option.some.inj (hc₂.symm.trans (h1.trans h.code))
    subst hcc
    have hlen : len₂ = len := by rw [hdg] at hd₂; cases hd₂; rfl
    subst hlen
    have hs₂ : s₂ = (({ U with heap := s₂.heap, slotsUsed := s₂.slotsUsed } : State).setVm s₂.vm).setTop { g with pc := g.pc + len₂, stack := v.toList ++ g.stack } := by
      refine e3.trans ?_
      rw [hf₂, State.calling_eq h.top, State.setFrames_setFrames, State.setTop_of_frames _ hr', hr]
      rfl
    have hsame : U.sameButNew ({ U with heap := s₂.heap, slotsUsed := s₂.slotsUsed } : State) L mc ms := by
      refine ⟨?_, q2, q3, q4, q5, q6⟩
      obtain ⟨t, ht, -⟩ := State.frames_cons hr
      show ({ U with heap := s₂.heap, slotsUsed := s₂.slotsUsed } : State) = { U.setFrames U.frames with heap := s₂.heap, slotsUsed := s₂.slotsUsed }
      rw [State.setFrames_self ht]
    subst hg
    refine Or.inl ⟨v, ⟨(({ U with heap := s₂.heap, slotsUsed := s₂.slotsUsed } : State).setVm s₂.vm), Ls ++ L, c0 + mc, s0 + ms⟩,
      ⟨X.admits, X.cas, X.clock, X.frames, X.room, X.hears, X.method, X.code, (X.here.setHeapUsed s₂.heap s₂.slotsUsed).setVm hW'.alike, X.tail, State.WarmedH.trans X.warmed hW', X.limits, X.bytes, X.same.trans (hsame.setVm s.vm)⟩,
      ⟨g, mk, s₂, L, rfl, rfl, hqc, rfl, hL, rfl, rfl⟩, ?_⟩
    show Steps p.tables e below _ ((({ U with heap := s₂.heap, slotsUsed := s₂.slotsUsed } : State).setVm s₂.vm).setTop { g with pc := g.pc + len₂, stack := v.toList ++ g.stack })
    rw [← hs₂]
    exact hsteps
  · obtain ⟨e2, q2, q3, q4, q5, q6⟩ := id hsm
    have e3 : s₂ = ({ (U.calling g mk a).setFrames s₂.frames with heap := s₂.heap, slotsUsed := s₂.slotsUsed } : State).setVm s₂.vm := by
      have : s₂ = ({ s₂ with vm := (U.calling g mk a).vm } : State).setVm s₂.vm := rfl
      rw [e2] at this
      exact this
    have hf₂ : s₂.frames = .throwing q :: .java g :: U.frames.tail := hend
    have hW' : U.WarmedH s₂.vm := hW₂
    have hs₂ : s₂ = ((({ U with heap := s₂.heap, slotsUsed := s₂.slotsUsed } : State).setVm s₂.vm).setTop g).pushFrame (.throwing q) := by
      refine e3.trans ?_
      rw [hf₂, State.calling_eq h.top, State.setFrames_setFrames, State.pushFrame, State.frames_setTop _ hr', State.setTop_of_frames _ hr', State.setFrames_setFrames, hr]
      rfl
    have hsame : U.sameButNew ({ U with heap := s₂.heap, slotsUsed := s₂.slotsUsed } : State) L mc ms := by
      refine ⟨?_, q2, q3, q4, q5, q6⟩
      obtain ⟨t, ht, -⟩ := State.frames_cons hr
      show ({ U with heap := s₂.heap, slotsUsed := s₂.slotsUsed } : State) = { U.setFrames U.frames with heap := s₂.heap, slotsUsed := s₂.slotsUsed }
      rw [State.setFrames_self ht]
    subst hg
    refine Or.inr ⟨q, ⟨(({ U with heap := s₂.heap, slotsUsed := s₂.slotsUsed } : State).setVm s₂.vm), Ls ++ L, c0 + mc, s0 + ms⟩,
      ⟨X.admits, X.cas, X.clock, X.frames, X.room, X.hears, X.method, X.code, (X.here.setHeapUsed s₂.heap s₂.slotsUsed).setVm hW'.alike, X.tail, State.WarmedH.trans X.warmed hW', X.limits, X.bytes, X.same.trans (hsame.setVm s.vm)⟩,
      ⟨g, mk, s₂, L, E, ce, rfl, rfl, hx, hce, hcv, hcl, rfl, hL, rfl, rfl⟩, ?_⟩
    show Steps p.tables e below _ (((({ U with heap := s₂.heap, slotsUsed := s₂.slotsUsed } : State).setVm s₂.vm).setTop g).pushFrame (.throwing q))
    rw [← hs₂]
    exact hsteps
end
variable {p : Program} {l : Launch} {e : Env} {R : Room} {s : State} {m : MethodId} {args : Array Value} {below : List Frame} {meth : Method} {c : Code} {T : State} {H : Heap} {locs : List Loc} {cells slots : Nat}
theorem vx_callVX (X : Stand p l e R s m args below meth c T locs cells slots) (hexec : p.tables.exec = Jvm.exec) {own C : String} {index : Nat} {y : MethodName} {bytes : ByteArray} {maxL : Nat} {ret : Option FieldType} {hh : List (Nat × Nat × Nat × Nat)}
    (hown : s.vm.findClass own = some m.cls) (hlink : (Cond.methodLink own index y).before args s = true) (hinst : (Cond.instanceMethod y).before args s = true) (hsel : (Cond.selects C y y).before args s = true)
    (hcode : (Cond.codeWith y bytes maxL ret hh).before args s = true) (hy : y.cls ≠ "java/lang/invoke/MethodHandle" ∧ y.cls ≠ "java/lang/invoke/VarHandle")
    {W9 : Nat} {Pre : Pt → Array Value → Prop} {Post : Pt → Array Value → Option Value → Pt → Prop} {PostX : Pt → Array Value → Addr → Pt → Prop} (hK : vx_Back l R p e below s args y 3 W9 Pre Post PostX)
    {b : Addr} {cellB : Cell} (hcell : T.heap[b]? = some cellB) (hobj : cellB.vm.isStatics = false) (hcls : s.vm.findClass C = some cellB.cls)
    {g : JFrame} (hg : g.method = m) (hsize : g.locals.size = c.maxLocals) {argsL rest : List Value} (hlen : ∀ sig, parseMethodDescriptor y.desc = some sig → argsL.length = sig.parameters.length)
    (hstack : g.stack = argsL.reverse ++ .ref b :: rest) (hW : 2 * g.monitorRoom + (rest.map fun v => v.category).sum ≤ W9) (hdg : decode c.code g.pc = .ok (.invokevirtual index, 3))
    (hpre : ∀ vm₁, s.WarmedH vm₁ → Pre ⟨T.setVm vm₁, locs, cells, slots⟩ (Value.ref b :: argsL).toArray) :
    (∃ (v : Option Value) (vm₁ : Vm) (B : Pt), s.WarmedH vm₁ ∧ Stand p l e R s m args below meth c B.U B.locs B.cells B.slots ∧ Post ⟨T.setVm vm₁, locs, cells, slots⟩ (Value.ref b :: argsL).toArray v B ∧
      ∀ target, Steps p.tables e below (B.U.setTop { g with pc := g.pc + 3, stack := v.toList ++ rest }) target → Steps p.tables e below (T.setTop g) target) ∨
    (∃ (q : Addr) (vm₁ : Vm) (B : Pt), s.WarmedH vm₁ ∧ Stand p l e R s m args below meth c B.U B.locs B.cells B.slots ∧ PostX ⟨T.setVm vm₁, locs, cells, slots⟩ (Value.ref b :: argsL).toArray q B ∧
      Steps p.tables e below (T.setTop g) ((B.U.setTop { g with stack := rest }).pushFrame (.throwing q))) := by
  obtain ⟨mk, methM, hnamed, hmethM, hstM, habM⟩ := Cond.instanceMethod_spec hinst
  obtain ⟨m8, methM', cM, hn8, hmethM', -, -, -, -, -, -, hsigM⟩ := Cond.codeWith_spec hcode
  cases Option.some.inj (hn8.symm.trans hnamed)
  cases hmethM.symm.trans hmethM'
  obtain ⟨c2, r2, m2, q1, q2, q3, q4, kP, hkP, hkPi⟩ := Cond.selects_spec hsel
  cases hcls.symm.trans q1
  cases (State.methodFound?_of_named hnamed hy).symm.trans q2
  cases hnamed.symm.trans q3
  have hselP : selectMethod e.platform s.vm cellB.cls mk = .method mk := by rw [Launch.admits_selectMethod X.admits]; exact q4
  obtain ⟨vm₁, X₁, hstep₁⟩ := X.invokevirtual hexec hown hlink hnamed hmethM hstM hkP hkPi hy (a := b) (cell := cellB) hcell
    (fun z h => by rw [h] at hobj; cases hobj) hselP hmethM habM hkP hkPi (g := g) hg (argsL := argsL) (rest := rest) (hlen _ hsigM) hstack hdg
  rcases hK m meth c ⟨T.setVm vm₁, locs, cells, slots⟩ { g with stack := rest } (.invokevirtual index) mk (Value.ref b :: argsL).toArray X₁ hg hsize hdg hW (X₁.named hnamed) (hpre vm₁ X₁.warmed) with ⟨v, B, X', hpost, hsteps⟩ | ⟨q, B, X', hpost, hsteps⟩
  · exact Or.inl ⟨v, vm₁, B, X₁.warmed, X', hpost, fun target h => hstep₁ _ fun acts => by rw [doInvoke_state]; exact hsteps.trans h⟩
  · exact Or.inr ⟨q, vm₁, B, X₁.warmed, X', hpost, hstep₁ _ fun acts => by rw [doInvoke_state]; exact hsteps⟩
theorem vx_callSX (X : Stand p l e R s m args below meth c T locs cells slots) (hexec : p.tables.exec = Jvm.exec) {own : String} {index : Nat} {y : MethodName} {bytes : ByteArray} {maxL : Nat} {ret : Option FieldType} {hh : List (Nat × Nat × Nat × Nat)}
    (hown : s.vm.findClass own = some m.cls) (hlink : (Cond.methodLink own index y).before args s = true) (hstat : (Cond.static y).before args s = true) (hinit : (Cond.initialized y.cls).before args s = true)
    (hcode : (Cond.codeWith y bytes maxL ret hh).before args s = true) (hy : y.cls ≠ "java/lang/invoke/MethodHandle" ∧ y.cls ≠ "java/lang/invoke/VarHandle")
    {W9 : Nat} {Pre : Pt → Array Value → Prop} {Post : Pt → Array Value → Option Value → Pt → Prop} {PostX : Pt → Array Value → Addr → Pt → Prop} (hK : vx_Back l R p e below s args y 3 W9 Pre Post PostX)
    {g : JFrame} (hg : g.method = m) (hsize : g.locals.size = c.maxLocals) {argsL rest : List Value} (hlen : ∀ sig, parseMethodDescriptor y.desc = some sig → argsL.length = sig.parameters.length)
    (hstack : g.stack = argsL.reverse ++ rest) (hW : 2 * g.monitorRoom + (rest.map fun v => v.category).sum ≤ W9) (hdg : decode c.code g.pc = .ok (.invokestatic index, 3))
    (hpre : ∀ vm₁, s.WarmedH vm₁ → Pre ⟨T.setVm vm₁, locs, cells, slots⟩ argsL.toArray) :
    (∃ (v : Option Value) (vm₁ : Vm) (B : Pt), s.WarmedH vm₁ ∧ Stand p l e R s m args below meth c B.U B.locs B.cells B.slots ∧ Post ⟨T.setVm vm₁, locs, cells, slots⟩ argsL.toArray v B ∧
      ∀ target, Steps p.tables e below (B.U.setTop { g with pc := g.pc + 3, stack := v.toList ++ rest }) target → Steps p.tables e below (T.setTop g) target) ∨
    (∃ (q : Addr) (vm₁ : Vm) (B : Pt), s.WarmedH vm₁ ∧ Stand p l e R s m args below meth c B.U B.locs B.cells B.slots ∧ PostX ⟨T.setVm vm₁, locs, cells, slots⟩ argsL.toArray q B ∧
      Steps p.tables e below (T.setTop g) ((B.U.setTop { g with stack := rest }).pushFrame (.throwing q))) := by
  obtain ⟨mk, methM, cM, hnamed, hmethM, -, -, -, -, -, -, hsigM⟩ := Cond.codeWith_spec hcode
  have hstatic : methM.isStatic = true := Cond.static_spec hnamed hmethM hstat
  obtain ⟨kP, hkP, -⟩ := className_of_methodNamed hnamed
  have hinitP : kP.init = .initialized := Cond.initialized_spec (findClass_of_methodNamed hnamed) hkP hinit
  obtain ⟨vm₁, X₁, hstep₁⟩ := X.invokestatic hexec hown hlink hnamed hmethM hstatic hkP hinitP hy (g := g) hg (argsL := argsL) (rest := rest) (hlen _ hsigM) hstack hdg
  rcases hK m meth c ⟨T.setVm vm₁, locs, cells, slots⟩ { g with stack := rest } (.invokestatic index) mk argsL.toArray X₁ hg hsize hdg hW (X₁.named hnamed) (hpre vm₁ X₁.warmed) with ⟨v, B, X', hpost, hsteps⟩ | ⟨q, B, X', hpost, hsteps⟩
  · exact Or.inl ⟨v, vm₁, B, X₁.warmed, X', hpost, fun target h => hstep₁ _ fun acts => by rw [doInvoke_state]; exact hsteps.trans h⟩
  · exact Or.inr ⟨q, vm₁, B, X₁.warmed, X', hpost, hstep₁ _ fun acts => by rw [doInvoke_state]; exact hsteps⟩
theorem vx_callVW (X : Stand p l e R s m args below meth c T locs cells slots) (hexec : p.tables.exec = Jvm.exec) {own C : String} {index : Nat} {y : MethodName} {bytes : ByteArray} {maxL : Nat} {ret : Option FieldType} {hh : List (Nat × Nat × Nat × Nat)}
    (hown : s.vm.findClass own = some m.cls) (hlink : (Cond.methodLink own index y).before args s = true) (hinst : (Cond.instanceMethod y).before args s = true) (hsel : (Cond.selects C y y).before args s = true)
    (hcode : (Cond.codeWith y bytes maxL ret hh).before args s = true) (hy : y.cls ≠ "java/lang/invoke/MethodHandle" ∧ y.cls ≠ "java/lang/invoke/VarHandle")
    {W9 : Nat} {Pre : Pt → Array Value → Prop} {Post : Pt → Array Value → Option Value → Pt → Prop} (hK : Back l R p e below s args y 3 W9 Pre Post)
    {b : Addr} {cellB : Cell} (hcell : T.heap[b]? = some cellB) (hobj : cellB.vm.isStatics = false) (hcls : s.vm.findClass C = some cellB.cls)
    {g : JFrame} (hg : g.method = m) (hsize : g.locals.size = c.maxLocals) {argsL rest : List Value} (hlen : ∀ sig, parseMethodDescriptor y.desc = some sig → argsL.length = sig.parameters.length)
    (hstack : g.stack = argsL.reverse ++ .ref b :: rest) (hW : 2 * g.monitorRoom + (rest.map fun v => v.category).sum ≤ W9) (hdg : decode c.code g.pc = .ok (.invokevirtual index, 3))
    (hpre : ∀ vm₁, s.WarmedH vm₁ → Pre ⟨T.setVm vm₁, locs, cells, slots⟩ (Value.ref b :: argsL).toArray) :
    ∃ (v : Option Value) (vm₁ : Vm) (B : Pt), s.WarmedH vm₁ ∧ Stand p l e R s m args below meth c B.U B.locs B.cells B.slots ∧ Post ⟨T.setVm vm₁, locs, cells, slots⟩ (Value.ref b :: argsL).toArray v B ∧
      ∀ target, Steps p.tables e below (B.U.setTop { g with pc := g.pc + 3, stack := v.toList ++ rest }) target → Steps p.tables e below (T.setTop g) target := by
  obtain ⟨mk, methM, hnamed, hmethM, hstM, habM⟩ := Cond.instanceMethod_spec hinst
  obtain ⟨m8, methM', cM, hn8, hmethM', -, -, -, -, -, -, hsigM⟩ := Cond.codeWith_spec hcode
  cases Option.some.inj (hn8.symm.trans hnamed)
  cases hmethM.symm.trans hmethM'
  obtain ⟨c2, r2, m2, q1, q2, q3, q4, kP, hkP, hkPi⟩ := Cond.selects_spec hsel
  cases hcls.symm.trans q1
  cases (State.methodFound?_of_named hnamed hy).symm.trans q2
  cases hnamed.symm.trans q3
  have hselP : selectMethod e.platform s.vm cellB.cls mk = .method mk := by rw [Launch.admits_selectMethod X.admits]; exact q4
  obtain ⟨vm₁, X₁, hstep₁⟩ := X.invokevirtual hexec hown hlink hnamed hmethM hstM hkP hkPi hy (a := b) (cell := cellB) hcell
    (fun z h => by rw [h] at hobj; cases hobj) hselP hmethM habM hkP hkPi (g := g) hg (argsL := argsL) (rest := rest) (hlen _ hsigM) hstack hdg
  obtain ⟨v, B, X', hpost, hsteps⟩ := hK m meth c ⟨T.setVm vm₁, locs, cells, slots⟩ { g with stack := rest } (.invokevirtual index) mk (Value.ref b :: argsL).toArray X₁ hg hsize hdg hW (X₁.named hnamed) (hpre vm₁ X₁.warmed)
  exact ⟨v, vm₁, B, X₁.warmed, X', hpost, fun target h => hstep₁ _ fun acts => by rw [doInvoke_state]; exact hsteps.trans h⟩
abbrev vx_CVW (R : Room) (s : State) (args : Array Value) (own C : String) (index : Nat) (y : MethodName) (bytes : ByteArray) (maxL : Nat) (ret : Option FieldType) (hh : List (Nat × Nat × Nat × Nat)) (ws : List Cond) (rm : Room) (mc ms n : Nat) : Prop :=
  (rm.cells = mc ∧ rm.slots = ms ∧ rm.frames + 1 ≤ R.frames ∧ 8 + (maxL + 11) + rm.locals ≤ R.locals ∧ (∀ w ∈ ws, ∀ (a' : Array Value) (U : State), s.WarmedH U.vm → w.before a' U = true) ∧ Cond.codeWith y bytes maxL ret hh ∈ ws) ∧
  (Cond.codeWith y bytes maxL ret hh).before args s = true ∧ (Cond.initialized y.cls).before args s = true ∧ (y.cls ≠ "java/lang/invoke/MethodHandle" ∧ y.cls ≠ "java/lang/invoke/VarHandle") ∧
  (∀ sig, parseMethodDescriptor y.desc = some sig → n = sig.parameters.length) ∧ (Cond.methodLink own index y).before args s = true ∧ (Cond.instanceMethod y).before args s = true ∧ (Cond.selects C y y).before args s = true
theorem vx_cwVW {own C : String} {index maxL mc ms : Nat} {y : MethodName} {bytes : ByteArray} {ret : Option FieldType} {hh : List (Nat × Nat × Nat × Nat)} {Ts ws ws' : List Cond} {rm : Room} (n : Nat) (ht : ∀ w ∈ Ts, w.before args s = true) (hT : GoodIn Ts (wsV own index C y ws)) (hw : ws = Cond.codeWith y bytes maxL ret hh :: ws') (hrc : rm.cells = mc) (hrs : rm.slots = ms)
    (hd : y.cls = C ∧ y.cls ≠ "java/lang/invoke/MethodHandle" ∧ y.cls ≠ "java/lang/invoke/VarHandle" ∧ (parseMethodDescriptor y.desc).map (fun d => d.parameters.length) = some n) (hR : rm.frames + 1 ≤ R.frames ∧ 8 + (maxL + 11) + rm.locals ≤ R.locals) :
    vx_CVW R s args own C index y bytes maxL ret hh ws rm mc ms n := by
  obtain ⟨hC, hd⟩ := hd
  subst hC
  have ok : ∀ w ∈ wsV own index y.cls y ws, w.before args s = true := fun w h => ht w (hT w h).1
  have hG : GoodIn Ts ws := fun w h => hT w (by unfold wsV; exact List.mem_append_right _ h)
  have hc : Cond.codeWith y bytes maxL ret hh ∈ ws := by rw [hw]; exact List.mem_cons_self
  refine ⟨⟨hrc, hrs, hR.1, hR.2, pay_in ht hG, hc⟩, ht _ (hG _ hc).1, ok _ (by simp [wsV]), ⟨hd.1, hd.2.1⟩, fun sig h => ?_, ok _ (by simp [wsV]), ok _ (by simp [wsV]), ok _ (by simp [wsV])⟩
  have h2 := hd.2.2
  rw [h] at h2
  exact (Option.some.inj h2).symm
theorem vx_runVW {y : MethodName} {bytes cc : ByteArray} {maxL nL mc ms n index : Nat} {ret : Option FieldType} {hh : List (Nat × Nat × Nat × Nat)} {ws : List Cond} {rm : Room} {Pc : Array Value → State → Prop} {Qc : Array Value → State → Outcome → State → Prop} {free : Addr → Prop} {Ts : List Cond} {own C : String} {b : Addr} {As rest : List Value} {g : JFrame}
    (S : CallFix p m c cc nL s args Ts own) (hM : Met l y ws rm Pc Qc mc ms free) (cw : vx_CVW R s args own C index y bytes maxL ret hh ws rm mc ms n) (hp : PreV s H C b Pc As)
    (hg : g.method = m) (hn : As.length = n) (hsize : g.locals.size = nL) (hstack : g.stack = As.reverse ++ .ref b :: rest) (hW : 2 * g.monitorRoom + (rest.map fun v => v.category).sum ≤ 8) (hdg : decode cc g.pc = .ok (.invokevirtual index, 3)) (hf : cells + mc ≤ R.cells ∧ slots + ms ≤ R.slots) :
    va_Run p l e R s m args below meth c H locs cells slots mc ms g rest (Qc (Value.ref b :: As).toArray) free := by
  obtain ⟨⟨hrc, hrs, hfr, hlo, hws, hcw⟩, hcode, hini, hy, hlen, hl, hin, hse⟩ := cw
  have hK : Back l R p e below s args y 3 8 (PreOf R mc ms Pc) (PostOf Qc mc ms free) := va_backW (hh := hh) (bytes := bytes) (maxL := maxL) (ret := ret) hM hp.1 hrc hrs hfr hlo hws hcw (fun a' U hW => word_at hW (Or.inl (by first | rfl | simp [Cond.onTables, Cond.keeps, Cond.steady])) hini)
  obtain ⟨hx, hb, hml, ho, -⟩ := S
  obtain ⟨-, ⟨cellB, hcB, hoB, hclB⟩, hPc⟩ := hp
  intro T hT X
  obtain ⟨v, vm₁, ⟨U', l2, c2, s2⟩, hW₁, X', ⟨g', mk, t, L, e1, e2, hq, h1, hL, h2, h3⟩, st⟩ := vx_callVW X hx (C := C) (hh := hh) (bytes := bytes) (maxL := maxL) (ret := ret) ho hl hin hse hcode hy hK (by rw [hT]; exact hcB) hoB hclB hg (hsize.trans hml.symm) (argsL := As) (rest := rest) (fun sig h => hn.trans (hlen sig h)) hstack hW (by rw [hb]; exact hdg)
    (fun vm₁ hW₁ => ⟨hf.1, hf.2, hPc (T.setVm vm₁) hT hW₁⟩)
  dsimp only [Pt.U, Pt.locs, Pt.cells, Pt.slots] at X' e1 e2 h1 h2 h3 st
  subst h1; subst h2; subst h3
  exact ⟨v, (T.setVm vm₁).calling g' mk (Value.ref b :: As).toArray, t, U', L, hT, X', hL, e1, e2, hq, st⟩
section
variable {y : MethodName} {bytes cc : ByteArray} {maxL nL mc ms n index : Nat} {ret : Option FieldType} {ws : List Cond} {rm : Room} {Pc : Array Value → State → Prop} {Qc : Array Value → State → Outcome → State → Prop} {XC : String → State → State → Prop} {free : Addr → Prop} {Ts : List Cond} {own C : String} {b : Addr} {As rest : List Value} {g : JFrame}
theorem vx_runVX {hh : List (Nat × Nat × Nat × Nat)} (S : CallFix p m c cc nL s args Ts own) (hM : vx_Met l y ws rm Pc Qc XC mc ms free) (cw : vx_CVW R s args own C index y bytes maxL ret hh ws rm mc ms n) (hp : PreV s H C b Pc As)
    (hg : g.method = m) (hn : As.length = n) (hsize : g.locals.size = nL) (hstack : g.stack = As.reverse ++ .ref b :: rest) (hW : 2 * g.monitorRoom + (rest.map fun v => v.category).sum ≤ 8) (hdg : decode cc g.pc = .ok (.invokevirtual index, 3)) (hf : cells + mc ≤ R.cells ∧ slots + ms ≤ R.slots) :
    vx_Run p l e R s m args below meth c H locs cells slots mc ms g rest (Qc (Value.ref b :: As).toArray) XC free := by
  obtain ⟨⟨hrc, hrs, hfr, hlo, hws, hcw⟩, hcode, hini, hy, hlen, hl, hin, hse⟩ := cw
  have hK : vx_Back l R p e below s args y 3 8 (PreOf R mc ms Pc) (PostOf Qc mc ms free) (vx_Post XC mc ms free) := vx_backW (hh := hh) (bytes := bytes) (maxL := maxL) (ret := ret) hM hp.1 hrc hrs hfr hlo hws hcw (fun a' U hW => word_at hW (Or.inl (by first | rfl | simp [Cond.onTables, Cond.keeps, Cond.steady])) hini)
  obtain ⟨hx, hb, hml, ho, -⟩ := S
  obtain ⟨-, ⟨cellB, hcB, hoB, hclB⟩, hPc⟩ := hp
  intro T hT X
  rcases vx_callVX X hx (C := C) (hh := hh) (bytes := bytes) (maxL := maxL) (ret := ret) ho hl hin hse hcode hy hK (by rw [hT]; exact hcB) hoB hclB hg (hsize.trans hml.symm) (argsL := As) (rest := rest) (fun sig h => hn.trans (hlen sig h)) hstack hW (by rw [hb]; exact hdg)
    (fun vm₁ hW₁ => ⟨hf.1, hf.2, hPc (T.setVm vm₁) hT hW₁⟩) with ⟨v, vm₁, ⟨U', l2, c2, s2⟩, hW₁, X', ⟨g', mk, t, L, e1, e2, hq, h1, hL, h2, h3⟩, st⟩ | ⟨q, vm₁, ⟨U', l2, c2, s2⟩, hW₁, X', ⟨g', mk, t, L, E, ce, e1, e2, hq, hce, hcv, hcl, h1, hL, h2, h3⟩, st⟩
  · dsimp only [Pt.U, Pt.locs, Pt.cells, Pt.slots] at X' e1 e2 h1 h2 h3 st
    subst h1; subst h2; subst h3
    exact Or.inl ⟨v, (T.setVm vm₁).calling g' mk (Value.ref b :: As).toArray, t, U', L, hT, X', hL, e1, e2, hq, st⟩
  · dsimp only [Pt.U, Pt.locs, Pt.cells, Pt.slots] at X' e1 e2 h1 h2 h3 st hcl
    subst h1; subst h2; subst h3
    exact Or.inr ⟨q, (T.setVm vm₁).calling g' mk (Value.ref b :: As).toArray, t, U', L, E, ce, hT, X', hL, e1, e2, hq, hce, hcv, vx_cls hW₁ hcl, st⟩
theorem vx_runSX {hh : List (Nat × Nat × Nat × Nat)} (S : CallFix p m c cc nL s args Ts own) (hM : vx_Met l y ws rm Pc Qc XC mc ms free) (cw : vx_CSW R s args own index y bytes maxL ret hh ws rm mc ms n) (hp : PreS s H Pc As)
    (hg : g.method = m) (hn : As.length = n) (hsize : g.locals.size = nL) (hstack : g.stack = As.reverse ++ rest) (hW : 2 * g.monitorRoom + (rest.map fun v => v.category).sum ≤ 8) (hdg : decode cc g.pc = .ok (.invokestatic index, 3)) (hf : cells + mc ≤ R.cells ∧ slots + ms ≤ R.slots) :
    vx_Run p l e R s m args below meth c H locs cells slots mc ms g rest (Qc As.toArray) XC free := by
  obtain ⟨⟨hrc, hrs, hfr, hlo, hws, hcw⟩, hcode, hini, hy, hlen, hl, hstt⟩ := cw
  have hK : vx_Back l R p e below s args y 3 8 (PreOf R mc ms Pc) (PostOf Qc mc ms free) (vx_Post XC mc ms free) := vx_backW (hh := hh) (bytes := bytes) (maxL := maxL) (ret := ret) hM hp.1 hrc hrs hfr hlo hws hcw (fun a' U hW => word_at hW (Or.inl (by first | rfl | simp [Cond.onTables, Cond.keeps, Cond.steady])) hini)
  obtain ⟨hx, hb, hml, ho, -⟩ := S
  intro T hT X
  rcases vx_callSX X hx (hh := hh) (bytes := bytes) (maxL := maxL) (ret := ret) ho hl hstt hini hcode hy hK hg (hsize.trans hml.symm) (argsL := As) (rest := rest) (fun sig h => hn.trans (hlen sig h)) hstack hW (by rw [hb]; exact hdg)
    (fun vm₁ hW₁ => ⟨hf.1, hf.2, hp.2 (T.setVm vm₁) hT hW₁⟩) with ⟨v, vm₁, ⟨U', l2, c2, s2⟩, hW₁, X', ⟨g', mk, t, L, e1, e2, hq, h1, hL, h2, h3⟩, st⟩ | ⟨q, vm₁, ⟨U', l2, c2, s2⟩, hW₁, X', ⟨g', mk, t, L, E, ce, e1, e2, hq, hce, hcv, hcl, h1, hL, h2, h3⟩, st⟩
  · dsimp only [Pt.U, Pt.locs, Pt.cells, Pt.slots] at X' e1 e2 h1 h2 h3 st
    subst h1; subst h2; subst h3
    exact Or.inl ⟨v, (T.setVm vm₁).calling g' mk As.toArray, t, U', L, hT, X', hL, e1, e2, hq, st⟩
  · dsimp only [Pt.U, Pt.locs, Pt.cells, Pt.slots] at X' e1 e2 h1 h2 h3 st hcl
    subst h1; subst h2; subst h3
    exact Or.inr ⟨q, (T.setVm vm₁).calling g' mk As.toArray, t, U', L, E, ce, hT, X', hL, e1, e2, hq, hce, hcv, vx_cls hW₁ hcl, st⟩
end
end VXH
theorem vx_ofWH {l : Launch} {y : MethodName} {ws ws' : List Cond} {rm : Room} {Pc : Array Value → State → Prop} {Qc : Array Value → State → Outcome → State → Prop} {XC : String → State → State → Prop} {mc ms : Nat} {free : Addr → Prop} {cc : ByteArray} {maxL : Nat} {ret : Option FieldType} {hh : List (Nat × Nat × Nat × Nat)}
    (hy : plainName y.cls = true) (hw : ws = Cond.codeWith y cc maxL ret hh :: ws')
    (body : ∀ p e s m args below meth c s₁, BodyLoose p l y (headSpec ws rm) cc maxL ret e s m args below meth c s₁ → c.maxLocals = maxL → Pc args s →
      W p l e (headSpec ws rm).room s m args below meth c s.heap [] 0 0 (vx_MQ below Qc XC args s mc ms free) (entryFrame m args maxL)) : vx_Met l y ws rm Pc Qc XC mc ms free := by
  refine MetFree.of_bodyS (code := cc) (maxLocals := maxL) (ret := ret) hy ?_ ?_
  · intro args s m h hn
    obtain ⟨m9, meth, c, hn9, h1, h2, h3, h4, -, h5, h6, -⟩ := Cond.codeWith_spec (atoms_spec (ws := ws) h _ (by rw [hw]; exact List.mem_cons_self))
    cases hn.symm.trans hn9
    exact ⟨meth, c, h1, h2, h3, h4, h5, h6⟩
  · intro p e s m args below meth c s₁ B hml hP _
    have hh0 : s₁.heap = s.heap := by rw [B.state]; rfl
    obtain ⟨t, a1, o, b1, b2, b3⟩ := body p e s m args below meth c s₁ B hml hP s₁ hh0 (Stand.of_body B)
    exact ⟨t, o, a1, b1, b2, b3⟩
/-! ===== END ===== -/
end
section
/-! ===== BEGIN printed: names, fields, word lists, decode rows ===== -/
def RX0 : String := "Ringroll$Campaign"
def TX0 : u_T := fun k => match k with
  | 0 => ("Ringroll$Campaign", "number", "I", true)
  | 1 => ("Ringroll$Campaign", "target", "I", false)
  | 2 => ("Ringroll$Campaign", "kinds", "I", false)
  | 3 => ("Ringroll$Campaign", "versions", "I", false)
  | 4 => ("Ringroll$Campaign", "firstShare", "I", false)
  | 5 => ("Ringroll$Campaign", "secondShare", "I", false)
  | 6 => ("Ringroll$Campaign", "needs", "I", false)
  | 7 => ("Ringroll$Campaign", "thousandths", "I", false)
  | 8 => ("Ringroll$Campaign", "isActive", "Z", false)
  | 9 => ("Ringroll$Campaign", "ring", "I", false)
  | 10 => ("Ringroll$Campaign", "reports", "I", false)
  | 11 => ("Ringroll$Campaign", "failures", "I", false)
  | _ => ("Ringroll$Campaign", "reporters", "I", false)
def tyX0 : Nat → FieldType := fun k => match k with
  | 0 => .int
  | 1 => .int
  | 2 => .int
  | 3 => .int
  | 4 => .int
  | 5 => .int
  | 6 => .int
  | 7 => .int
  | 8 => .boolean
  | 9 => .int
  | 10 => .int
  | 11 => .int
  | _ => .int
abbrev wsX00 : List Cond := u_ws RX0 TX0 13
theorem nmX0 : ∀ a, a < 13 → ∀ b, b < 13 → a ≠ b → (TX0 a).2.1 ≠ (TX0 b).2.1 := by decide +kernel
theorem tyX0_ok : ∀ k, k < 13 → parseFieldDescriptor (TX0 k).2.2.1 = some (tyX0 k) := by decide +kernel
abbrev cX0_init : ByteArray := prog_2_method_1_code
def yX0_init : MethodName := ⟨RX0, "<init>", "(I)V"⟩
abbrev cX0_isFor : ByteArray := prog_2_method_2_code
def yX0_isFor : MethodName := ⟨RX0, "isFor", "(LRingroll$Device;)Z"⟩
abbrev cX0_countReport : ByteArray := prog_2_method_3_code
def yX0_countReport : MethodName := ⟨RX0, "countReport", "(LRingroll$Device;Z)V"⟩
abbrev cX0_judgeRing : ByteArray := prog_2_method_4_code
def yX0_judgeRing : MethodName := ⟨RX0, "judgeRing", "()V"⟩
abbrev cX0_beginRing : ByteArray := prog_2_method_5_code
def yX0_beginRing : MethodName := ⟨RX0, "beginRing", "(I)V"⟩
abbrev cX0_drawOf : ByteArray := prog_2_method_6_code
def yX0_drawOf : MethodName := ⟨RX0, "drawOf", "(LRingroll$Device;)I"⟩
abbrev cX0_share : ByteArray := prog_2_method_7_code
def yX0_share : MethodName := ⟨RX0, "share", "()I"⟩
def RX1 : String := "Ringroll$Device"
def TX1 : u_T := fun k => match k with
  | 0 => ("Ringroll$Device", "number", "I", true)
  | 1 => ("Ringroll$Device", "kind", "I", false)
  | 2 => ("Ringroll$Device", "version", "I", false)
  | 3 => ("Ringroll$Device", "battery", "I", false)
  | 4 => ("Ringroll$Device", "firstHour", "I", false)
  | 5 => ("Ringroll$Device", "lastHour", "I", false)
  | 6 => ("Ringroll$Device", "state", "I", false)
  | 7 => ("Ringroll$Device", "campaign", "I", false)
  | _ => ("Ringroll$Device", "bytesToGo", "I", false)
def tyX1 : Nat → FieldType := fun k => match k with
  | 0 => .int
  | 1 => .int
  | 2 => .int
  | 3 => .int
  | 4 => .int
  | 5 => .int
  | 6 => .int
  | 7 => .int
  | _ => .int
abbrev wsX10 : List Cond := u_ws RX1 TX1 9
theorem nmX1 : ∀ a, a < 9 → ∀ b, b < 9 → a ≠ b → (TX1 a).2.1 ≠ (TX1 b).2.1 := by decide +kernel
theorem tyX1_ok : ∀ k, k < 9 → parseFieldDescriptor (TX1 k).2.2.1 = some (tyX1 k) := by decide +kernel
abbrev cX1_init : ByteArray := prog_3_method_1_code
def yX1_init : MethodName := ⟨RX1, "<init>", "(I)V"⟩
abbrev cX1_take : ByteArray := prog_3_method_2_code
def yX1_take : MethodName := ⟨RX1, "take", "(LRingroll$Campaign;I)V"⟩
abbrev cX1_canLoad : ByteArray := prog_3_method_3_code
def yX1_canLoad : MethodName := ⟨RX1, "canLoad", "(I)Z"⟩
abbrev cX1_load : ByteArray := prog_3_method_4_code
def yX1_load : MethodName := ⟨RX1, "load", "()V"⟩
abbrev cX1_isInWindow : ByteArray := prog_3_method_5_code
def yX1_isInWindow : MethodName := ⟨RX1, "isInWindow", "(I)Z"⟩
def RX2 : String := "Ringroll$Ways"
def TX2 : u_T := fun k => match k with
  | 0 => ("Ringroll$Ways", "images", "[I", true)
  | 1 => ("Ringroll$Ways", "deltas", "[[I", true)
  | 2 => ("Ringroll$Ways", "leastByDeltas", "[[I", true)
  | _ => ("Ringroll$Ways", "leastByImage", "[I", true)
def tyX2 : Nat → FieldType := fun k => match k with
  | 0 => .array .int
  | 1 => .array (.array .int)
  | 2 => .array (.array .int)
  | _ => .array .int
abbrev wsX20 : List Cond := u_ws RX2 TX2 4
theorem nmX2 : ∀ a, a < 4 → ∀ b, b < 4 → a ≠ b → (TX2 a).2.1 ≠ (TX2 b).2.1 := by decide +kernel
theorem tyX2_ok : ∀ k, k < 4 → parseFieldDescriptor (TX2 k).2.2.1 = some (tyX2 k) := by decide +kernel
abbrev cX2_init : ByteArray := prog_4_method_1_code
def yX2_init : MethodName := ⟨RX2, "<init>", "()V"⟩
abbrev cX2_changeImage : ByteArray := prog_4_method_2_code
def yX2_changeImage : MethodName := ⟨RX2, "changeImage", "(II)I"⟩
abbrev cX2_changeDelta : ByteArray := prog_4_method_3_code
def yX2_changeDelta : MethodName := ⟨RX2, "changeDelta", "(III)I"⟩
abbrev cX2_leastBytes : ByteArray := prog_4_method_4_code
def yX2_leastBytes : MethodName := ⟨RX2, "leastBytes", "(II)I"⟩
abbrev cX2_leastBytesOfAllWays : ByteArray := prog_4_method_5_code
def yX2_leastBytesOfAllWays : MethodName := ⟨RX2, "leastBytesOfAllWays", "(II)I"⟩
abbrev cX2_leastAlong : ByteArray := prog_4_method_6_code
def yX2_leastAlong : MethodName := ⟨RX2, "leastAlong", "([[IIIII)I"⟩
abbrev cX2_measure : ByteArray := prog_4_method_7_code
def yX2_measure : MethodName := ⟨RX2, "measure", "()V"⟩
abbrev cX2_measureVia : ByteArray := prog_4_method_8_code
def yX2_measureVia : MethodName := ⟨RX2, "measureVia", "(I)V"⟩
abbrev cX2_orFar : ByteArray := prog_4_method_9_code
def yX2_orFar : MethodName := ⟨RX2, "orFar", "(I)I"⟩
abbrev cX2_orNone : ByteArray := prog_4_method_10_code
def yX2_orNone : MethodName := ⟨RX2, "orNone", "(I)I"⟩
def RX3 : String := "Ringroll"
def TX3 : u_T := fun k => match k with
  | 0 => ("Ringroll", "kindsOfVersion", "[I", true)
  | 1 => ("Ringroll", "ways", "LRingroll$Ways;", true)
  | 2 => ("Ringroll", "fleet", "[LRingroll$Device;", true)
  | 3 => ("Ringroll", "campaigns", "[LRingroll$Campaign;", true)
  | 4 => ("Ringroll", "deviceCount", "I", false)
  | 5 => ("Ringroll", "campaignCount", "I", false)
  | _ => ("Ringroll", "hourOfDay", "I", false)
def tyX3 : Nat → FieldType := fun k => match k with
  | 0 => .array .int
  | 1 => .object "Ringroll$Ways"
  | 2 => .array (.object "Ringroll$Device")
  | 3 => .array (.object "Ringroll$Campaign")
  | 4 => .int
  | 5 => .int
  | _ => .int
abbrev wsX30 : List Cond := u_ws RX3 TX3 7
theorem nmX3 : ∀ a, a < 7 → ∀ b, b < 7 → a ≠ b → (TX3 a).2.1 ≠ (TX3 b).2.1 := by decide +kernel
theorem tyX3_ok : ∀ k, k < 7 → parseFieldDescriptor (TX3 k).2.2.1 = some (tyX3 k) := by decide +kernel
abbrev cX3_init : ByteArray := prog_1_method_1_code
def yX3_init : MethodName := ⟨RX3, "<init>", "()V"⟩
abbrev cX3_allow : ByteArray := prog_1_method_2_code
def yX3_allow : MethodName := ⟨RX3, "allow", "(II)I"⟩
abbrev cX3_setImage : ByteArray := prog_1_method_3_code
def yX3_setImage : MethodName := ⟨RX3, "setImage", "(II)I"⟩
abbrev cX3_setDelta : ByteArray := prog_1_method_4_code
def yX3_setDelta : MethodName := ⟨RX3, "setDelta", "(III)I"⟩
abbrev cX3_size : ByteArray := prog_1_method_5_code
def yX3_size : MethodName := ⟨RX3, "size", "(II)I"⟩
abbrev cX3_sizeByWays : ByteArray := prog_1_method_6_code
def yX3_sizeByWays : MethodName := ⟨RX3, "sizeByWays", "(II)I"⟩
abbrev cX3_addDevice : ByteArray := prog_1_method_7_code
def yX3_addDevice : MethodName := ⟨RX3, "addDevice", "(II)I"⟩
abbrev cX3_charge : ByteArray := prog_1_method_8_code
def yX3_charge : MethodName := ⟨RX3, "charge", "(II)I"⟩
abbrev cX3_setWindow : ByteArray := prog_1_method_9_code
def yX3_setWindow : MethodName := ⟨RX3, "setWindow", "(III)V"⟩
abbrev cX3_report : ByteArray := prog_1_method_10_code
def yX3_report : MethodName := ⟨RX3, "report", "(IZ)I"⟩
abbrev cX3_devices : ByteArray := prog_1_method_11_code
def yX3_devices : MethodName := ⟨RX3, "devices", "()I"⟩
abbrev cX3_state : ByteArray := prog_1_method_12_code
def yX3_state : MethodName := ⟨RX3, "state", "(I)I"⟩
abbrev cX3_version : ByteArray := prog_1_method_13_code
def yX3_version : MethodName := ⟨RX3, "version", "(I)I"⟩
abbrev cX3_campaignOf : ByteArray := prog_1_method_14_code
def yX3_campaignOf : MethodName := ⟨RX3, "campaignOf", "(I)I"⟩
abbrev cX3_toGo : ByteArray := prog_1_method_15_code
def yX3_toGo : MethodName := ⟨RX3, "toGo", "(I)I"⟩
abbrev cX3_battery : ByteArray := prog_1_method_16_code
def yX3_battery : MethodName := ⟨RX3, "battery", "(I)I"⟩
abbrev cX3_begin : ByteArray := prog_1_method_17_code
def yX3_begin : MethodName := ⟨RX3, "begin", "(IIII)I"⟩
abbrev cX3_setRules : ByteArray := prog_1_method_18_code
def yX3_setRules : MethodName := ⟨RX3, "setRules", "(IIIII)V"⟩
abbrev cX3_toggle : ByteArray := prog_1_method_19_code
def yX3_toggle : MethodName := ⟨RX3, "toggle", "(I)Z"⟩
abbrev cX3_isActive : ByteArray := prog_1_method_20_code
def yX3_isActive : MethodName := ⟨RX3, "isActive", "(I)Z"⟩
abbrev cX3_ring : ByteArray := prog_1_method_21_code
def yX3_ring : MethodName := ⟨RX3, "ring", "(I)I"⟩
abbrev cX3_reports : ByteArray := prog_1_method_22_code
def yX3_reports : MethodName := ⟨RX3, "reports", "(I)I"⟩
abbrev cX3_eligible : ByteArray := prog_1_method_23_code
def yX3_eligible : MethodName := ⟨RX3, "eligible", "(I)I"⟩
abbrev cX3_pass : ByteArray := prog_1_method_24_code
def yX3_pass : MethodName := ⟨RX3, "pass", "(I)I"⟩
abbrev cX3_passOneHour : ByteArray := prog_1_method_25_code
def yX3_passOneHour : MethodName := ⟨RX3, "passOneHour", "()I"⟩
abbrev cX3_takeLowestCampaign : ByteArray := prog_1_method_26_code
def yX3_takeLowestCampaign : MethodName := ⟨RX3, "takeLowestCampaign", "(LRingroll$Device;)V"⟩
abbrev cX3_mayTake : ByteArray := prog_1_method_27_code
def yX3_mayTake : MethodName := ⟨RX3, "mayTake", "(LRingroll$Device;LRingroll$Campaign;)Z"⟩
abbrev cX3_deviceAt : ByteArray := prog_1_method_28_code
def yX3_deviceAt : MethodName := ⟨RX3, "deviceAt", "(I)LRingroll$Device;"⟩
abbrev cX3_campaignAt : ByteArray := prog_1_method_29_code
def yX3_campaignAt : MethodName := ⟨RX3, "campaignAt", "(I)LRingroll$Campaign;"⟩
abbrev cX3_needCampaign : ByteArray := prog_1_method_30_code
def yX3_needCampaign : MethodName := ⟨RX3, "needCampaign", "(I)V"⟩
abbrev cX3_needVersion : ByteArray := prog_1_method_31_code
def yX3_needVersion : MethodName := ⟨RX3, "needVersion", "(I)V"⟩
abbrev cX3_needBytesOrNone : ByteArray := prog_1_method_32_code
def yX3_needBytesOrNone : MethodName := ⟨RX3, "needBytesOrNone", "(I)V"⟩
abbrev cX3_needRange : ByteArray := prog_1_method_33_code
def yX3_needRange : MethodName := ⟨RX3, "needRange", "(III)V"⟩
abbrev cX3_has : ByteArray := prog_1_method_34_code
def yX3_has : MethodName := ⟨RX3, "has", "(II)Z"⟩
def RX4 : String := "RingrollModel"
def TX4 : u_T := fun k => match k with
  | 0 => ("RingrollModel", "refusal", "I", false)
  | 1 => ("RingrollModel", "clock", "I", false)
  | 2 => ("RingrollModel", "allowed", "[I", true)
  | 3 => ("RingrollModel", "images", "[I", true)
  | 4 => ("RingrollModel", "deltas", "[I", true)
  | 5 => ("RingrollModel", "reached", "[I", true)
  | 6 => ("RingrollModel", "devices", "I", false)
  | 7 => ("RingrollModel", "kinds", "[I", true)
  | 8 => ("RingrollModel", "versions", "[I", true)
  | 9 => ("RingrollModel", "batteries", "[I", true)
  | 10 => ("RingrollModel", "froms", "[I", true)
  | 11 => ("RingrollModel", "tos", "[I", true)
  | 12 => ("RingrollModel", "states", "[I", true)
  | 13 => ("RingrollModel", "taken", "[I", true)
  | 14 => ("RingrollModel", "left", "[I", true)
  | 15 => ("RingrollModel", "campaigns", "I", false)
  | 16 => ("RingrollModel", "targets", "[I", true)
  | 17 => ("RingrollModel", "forKinds", "[I", true)
  | 18 => ("RingrollModel", "forVersions", "[I", true)
  | 19 => ("RingrollModel", "isActive", "[Z", true)
  | 20 => ("RingrollModel", "rings", "[I", true)
  | 21 => ("RingrollModel", "shares", "[I", true)
  | 22 => ("RingrollModel", "needs", "[I", true)
  | 23 => ("RingrollModel", "bears", "[I", true)
  | 24 => ("RingrollModel", "reports", "[I", true)
  | 25 => ("RingrollModel", "failures", "[I", true)
  | _ => ("RingrollModel", "reporters", "[I", true)
def tyX4 : Nat → FieldType := fun k => match k with
  | 0 => .int
  | 1 => .int
  | 2 => .array .int
  | 3 => .array .int
  | 4 => .array .int
  | 5 => .array .int
  | 6 => .int
  | 7 => .array .int
  | 8 => .array .int
  | 9 => .array .int
  | 10 => .array .int
  | 11 => .array .int
  | 12 => .array .int
  | 13 => .array .int
  | 14 => .array .int
  | 15 => .int
  | 16 => .array .int
  | 17 => .array .int
  | 18 => .array .int
  | 19 => .array .boolean
  | 20 => .array .int
  | 21 => .array .int
  | 22 => .array .int
  | 23 => .array .int
  | 24 => .array .int
  | 25 => .array .int
  | _ => .array .int
abbrev wsX40 : List Cond := u_ws RX4 TX4 27
theorem nmX4 : ∀ a, a < 27 → ∀ b, b < 27 → a ≠ b → (TX4 a).2.1 ≠ (TX4 b).2.1 := by decide +kernel
theorem tyX4_ok : ∀ k, k < 27 → parseFieldDescriptor (TX4 k).2.2.1 = some (tyX4 k) := by decide +kernel
abbrev cX4_init : ByteArray := prog_6_method_1_code
def yX4_init : MethodName := ⟨RX4, "<init>", "()V"⟩
abbrev cX4_thrown : ByteArray := prog_6_method_2_code
def yX4_thrown : MethodName := ⟨RX4, "thrown", "()I"⟩
abbrev cX4_refused : ByteArray := prog_6_method_3_code
def yX4_refused : MethodName := ⟨RX4, "refused", "(I)Z"⟩
abbrev cX4_fine : ByteArray := prog_6_method_4_code
def yX4_fine : MethodName := ⟨RX4, "fine", "(I)I"⟩
abbrev cX4_in : ByteArray := prog_6_method_5_code
def yX4_in : MethodName := ⟨RX4, "in", "(III)Z"⟩
abbrev cX4_isVersion : ByteArray := prog_6_method_6_code
def yX4_isVersion : MethodName := ⟨RX4, "isVersion", "(I)Z"⟩
abbrev cX4_isSize : ByteArray := prog_6_method_7_code
def yX4_isSize : MethodName := ⟨RX4, "isSize", "(I)Z"⟩
abbrev cX4_isDevice : ByteArray := prog_6_method_8_code
def yX4_isDevice : MethodName := ⟨RX4, "isDevice", "(I)Z"⟩
abbrev cX4_isCampaign : ByteArray := prog_6_method_9_code
def yX4_isCampaign : MethodName := ⟨RX4, "isCampaign", "(I)Z"⟩
abbrev cX4_allow : ByteArray := prog_6_method_10_code
def yX4_allow : MethodName := ⟨RX4, "allow", "(II)I"⟩
abbrev cX4_setImage : ByteArray := prog_6_method_11_code
def yX4_setImage : MethodName := ⟨RX4, "setImage", "(II)I"⟩
abbrev cX4_setDelta : ByteArray := prog_6_method_12_code
def yX4_setDelta : MethodName := ⟨RX4, "setDelta", "(III)I"⟩
abbrev cX4_sizeOf : ByteArray := prog_6_method_13_code
def yX4_sizeOf : MethodName := ⟨RX4, "sizeOf", "(II)I"⟩
abbrev cX4_size : ByteArray := prog_6_method_14_code
def yX4_size : MethodName := ⟨RX4, "size", "(II)I"⟩
abbrev cX4_sizeByWays : ByteArray := prog_6_method_15_code
def yX4_sizeByWays : MethodName := ⟨RX4, "sizeByWays", "(II)I"⟩
abbrev cX4_addDevice : ByteArray := prog_6_method_16_code
def yX4_addDevice : MethodName := ⟨RX4, "addDevice", "(II)I"⟩
abbrev cX4_charge : ByteArray := prog_6_method_17_code
def yX4_charge : MethodName := ⟨RX4, "charge", "(II)I"⟩
abbrev cX4_setWindow : ByteArray := prog_6_method_18_code
def yX4_setWindow : MethodName := ⟨RX4, "setWindow", "(III)V"⟩
abbrev cX4_judge : ByteArray := prog_6_method_19_code
def yX4_judge : MethodName := ⟨RX4, "judge", "(I)V"⟩
abbrev cX4_report : ByteArray := prog_6_method_20_code
def yX4_report : MethodName := ⟨RX4, "report", "(IZ)I"⟩
abbrev cX4_devices : ByteArray := prog_6_method_21_code
def yX4_devices : MethodName := ⟨RX4, "devices", "()I"⟩
abbrev cX4_noDevice : ByteArray := prog_6_method_22_code
def yX4_noDevice : MethodName := ⟨RX4, "noDevice", "(I)Z"⟩
abbrev cX4_state : ByteArray := prog_6_method_23_code
def yX4_state : MethodName := ⟨RX4, "state", "(I)I"⟩
abbrev cX4_version : ByteArray := prog_6_method_24_code
def yX4_version : MethodName := ⟨RX4, "version", "(I)I"⟩
abbrev cX4_campaignOf : ByteArray := prog_6_method_25_code
def yX4_campaignOf : MethodName := ⟨RX4, "campaignOf", "(I)I"⟩
abbrev cX4_toGo : ByteArray := prog_6_method_26_code
def yX4_toGo : MethodName := ⟨RX4, "toGo", "(I)I"⟩
abbrev cX4_battery : ByteArray := prog_6_method_27_code
def yX4_battery : MethodName := ⟨RX4, "battery", "(I)I"⟩
abbrev cX4_begin : ByteArray := prog_6_method_28_code
def yX4_begin : MethodName := ⟨RX4, "begin", "(IIII)I"⟩
abbrev cX4_setRules : ByteArray := prog_6_method_29_code
def yX4_setRules : MethodName := ⟨RX4, "setRules", "(IIIII)V"⟩
abbrev cX4_noCampaign : ByteArray := prog_6_method_30_code
def yX4_noCampaign : MethodName := ⟨RX4, "noCampaign", "(I)Z"⟩
abbrev cX4_toggle : ByteArray := prog_6_method_31_code
def yX4_toggle : MethodName := ⟨RX4, "toggle", "(I)Z"⟩
abbrev cX4_isActive : ByteArray := prog_6_method_32_code
def yX4_isActive : MethodName := ⟨RX4, "isActive", "(I)Z"⟩
abbrev cX4_ring : ByteArray := prog_6_method_33_code
def yX4_ring : MethodName := ⟨RX4, "ring", "(I)I"⟩
abbrev cX4_reports : ByteArray := prog_6_method_34_code
def yX4_reports : MethodName := ⟨RX4, "reports", "(I)I"⟩
abbrev cX4_mayTake : ByteArray := prog_6_method_35_code
def yX4_mayTake : MethodName := ⟨RX4, "mayTake", "(II)Z"⟩
abbrev cX4_eligible : ByteArray := prog_6_method_36_code
def yX4_eligible : MethodName := ⟨RX4, "eligible", "(I)I"⟩
abbrev cX4_take : ByteArray := prog_6_method_37_code
def yX4_take : MethodName := ⟨RX4, "take", "(I)V"⟩
abbrev cX4_isOpen : ByteArray := prog_6_method_38_code
def yX4_isOpen : MethodName := ⟨RX4, "isOpen", "(I)Z"⟩
abbrev cX4_pass : ByteArray := prog_6_method_39_code
def yX4_pass : MethodName := ⟨RX4, "pass", "(I)I"⟩
def RJx145de : String := "java/io/Serializable"
def TJx145de : u_T := fun k => match k with
  | _ => ("", "", "", false)
def tyJx145de : Nat → FieldType := fun k => match k with
  | _ => .int
abbrev wsJx145de0 : List Cond := u_ws RJx145de TJx145de 0
theorem nmJx145de : ∀ a, a < 0 → ∀ b, b < 0 → a ≠ b → (TJx145de a).2.1 ≠ (TJx145de b).2.1 := by decide +kernel
theorem tyJx145de_ok : ∀ k, k < 0 → parseFieldDescriptor (TJx145de k).2.2.1 = some (tyJx145de k) := by decide +kernel
def RJ9 : String := "java/lang/Math"
def TJ9 : u_T := fun k => match k with
  | _ => ("", "", "", false)
def tyJ9 : Nat → FieldType := fun k => match k with
  | _ => .int
abbrev wsJ90 : List Cond := u_ws RJ9 TJ9 0
theorem nmJ9 : ∀ a, a < 0 → ∀ b, b < 0 → a ≠ b → (TJ9 a).2.1 ≠ (TJ9 b).2.1 := by decide +kernel
theorem tyJ9_ok : ∀ k, k < 0 → parseFieldDescriptor (TJ9 k).2.2.1 = some (tyJ9 k) := by decide +kernel
abbrev cJ9_max_7cf53 : ByteArray := prog_11_method_65_code
def yJ9_max_7cf53 : MethodName := ⟨RJ9, "max", "(II)I"⟩
abbrev cJ9_min_7cf53 : ByteArray := prog_11_method_69_code
def yJ9_min_7cf53 : MethodName := ⟨RJ9, "min", "(II)I"⟩
def RJ0 : String := "java/lang/String"
def TJ0 : u_T := fun k => match k with
  | _ => ("", "", "", false)
def tyJ0 : Nat → FieldType := fun k => match k with
  | _ => .int
abbrev wsJ00 : List Cond := u_ws RJ0 TJ0 0
theorem nmJ0 : ∀ a, a < 0 → ∀ b, b < 0 → a ≠ b → (TJ0 a).2.1 ≠ (TJ0 b).2.1 := by decide +kernel
theorem tyJ0_ok : ∀ k, k < 0 → parseFieldDescriptor (TJ0 k).2.2.1 = some (tyJ0 k) := by decide +kernel
def RJ7 : String := "java/util/Arrays"
def TJ7 : u_T := fun k => match k with
  | _ => ("", "", "", false)
def tyJ7 : Nat → FieldType := fun k => match k with
  | _ => .int
abbrev wsJ70 : List Cond := u_ws RJ7 TJ7 0
theorem nmJ7 : ∀ a, a < 0 → ∀ b, b < 0 → a ≠ b → (TJ7 a).2.1 ≠ (TJ7 b).2.1 := by decide +kernel
theorem tyJ7_ok : ∀ k, k < 0 → parseFieldDescriptor (TJ7 k).2.2.1 = some (tyJ7 k) := by decide +kernel
abbrev cJ7_fill_53178 : ByteArray := prog_15_method_103_code
def yJ7_fill_53178 : MethodName := ⟨RJ7, "fill", "([II)V"⟩
def RL : String := "RingrollLaw"
abbrev cL_allow : ByteArray := method_3_code
def yL_allow : MethodName := ⟨RL, "allow", "(LRingroll;II[J)I"⟩
abbrev cL_setImage : ByteArray := method_4_code
def yL_setImage : MethodName := ⟨RL, "setImage", "(LRingroll;II[J)I"⟩
abbrev cL_setDelta : ByteArray := method_5_code
def yL_setDelta : MethodName := ⟨RL, "setDelta", "(LRingroll;III[J)I"⟩
abbrev cL_size : ByteArray := method_6_code
def yL_size : MethodName := ⟨RL, "size", "(LRingroll;II[J)I"⟩
abbrev cL_sizeByWays : ByteArray := method_7_code
def yL_sizeByWays : MethodName := ⟨RL, "sizeByWays", "(LRingroll;II[J)I"⟩
abbrev cL_addDevice : ByteArray := method_8_code
def yL_addDevice : MethodName := ⟨RL, "addDevice", "(LRingroll;II[J)I"⟩
abbrev cL_charge : ByteArray := method_9_code
def yL_charge : MethodName := ⟨RL, "charge", "(LRingroll;II[J)I"⟩
abbrev cL_setWindow : ByteArray := method_10_code
def yL_setWindow : MethodName := ⟨RL, "setWindow", "(LRingroll;III)I"⟩
abbrev cL_report : ByteArray := method_11_code
def yL_report : MethodName := ⟨RL, "report", "(LRingroll;IZ[J)I"⟩
abbrev cL_state : ByteArray := method_12_code
def yL_state : MethodName := ⟨RL, "state", "(LRingroll;I[J)I"⟩
abbrev cL_version : ByteArray := method_13_code
def yL_version : MethodName := ⟨RL, "version", "(LRingroll;I[J)I"⟩
abbrev cL_campaignOf : ByteArray := method_14_code
def yL_campaignOf : MethodName := ⟨RL, "campaignOf", "(LRingroll;I[J)I"⟩
abbrev cL_toGo : ByteArray := method_15_code
def yL_toGo : MethodName := ⟨RL, "toGo", "(LRingroll;I[J)I"⟩
abbrev cL_battery : ByteArray := method_16_code
def yL_battery : MethodName := ⟨RL, "battery", "(LRingroll;I[J)I"⟩
abbrev cL_begin : ByteArray := method_17_code
def yL_begin : MethodName := ⟨RL, "begin", "(LRingroll;IIII[J)I"⟩
abbrev cL_setRules : ByteArray := method_18_code
def yL_setRules : MethodName := ⟨RL, "setRules", "(LRingroll;IIIII)I"⟩
abbrev cL_toggle : ByteArray := method_19_code
def yL_toggle : MethodName := ⟨RL, "toggle", "(LRingroll;I[J)I"⟩
abbrev cL_isActive : ByteArray := method_20_code
def yL_isActive : MethodName := ⟨RL, "isActive", "(LRingroll;I[J)I"⟩
abbrev cL_ring : ByteArray := method_21_code
def yL_ring : MethodName := ⟨RL, "ring", "(LRingroll;I[J)I"⟩
abbrev cL_reports : ByteArray := method_22_code
def yL_reports : MethodName := ⟨RL, "reports", "(LRingroll;I[J)I"⟩
abbrev cL_eligible : ByteArray := method_23_code
def yL_eligible : MethodName := ⟨RL, "eligible", "(LRingroll;I[J)I"⟩
abbrev cL_pass : ByteArray := method_24_code
def yL_pass : MethodName := ⟨RL, "pass", "(LRingroll;I[J)I"⟩
abbrev cL_law : ByteArray := code
def yL_law : MethodName := ⟨RL, "law", "([I)Z"⟩
def wsX0_init : List Cond := .code yX0_init cX0_init 2 none :: ([.methodLink RX0 3 objectInit, .instanceMethod objectInit, .code objectInit ⟨#[0xb1]⟩ 1 none, .fieldLink RX0 9 "Ringroll$Campaign" "target" "I", .fieldLink RX0 15 "Ringroll$Campaign" "kinds" "I", .fieldLink RX0 18 "Ringroll$Campaign" "versions" "I", .fieldLink RX0 21 "Ringroll$Campaign" "firstShare" "I", .fieldLink RX0 24 "Ringroll$Campaign" "secondShare" "I", .fieldLink RX0 27 "Ringroll$Campaign" "needs" "I", .fieldLink RX0 30 "Ringroll$Campaign" "thousandths" "I", .fieldLink RX0 33 "Ringroll$Campaign" "isActive" "Z", .fieldLink RX0 37 "Ringroll$Campaign" "ring" "I", .fieldLink RX0 40 "Ringroll$Campaign" "reports" "I", .fieldLink RX0 43 "Ringroll$Campaign" "failures" "I", .fieldLink RX0 46 "Ringroll$Campaign" "reporters" "I", .fieldLink RX0 49 "Ringroll$Campaign" "number" "I"] ++ wsX00)
def wsX3_has : List Cond := .code yX3_has cX3_has 2 (some .boolean) :: ([])
def wsX0_drawOf : List Cond := .code yX0_drawOf cX0_drawOf 2 (some .int) :: ([.fieldLink RX0 72 "Ringroll$Device" "number" "I", .fieldLink RX0 49 "Ringroll$Campaign" "number" "I"] ++ wsX10 ++ wsX00)
def wsX0_share : List Cond := .code yX0_share cX0_share 1 (some .int) :: ([.fieldLink RX0 37 "Ringroll$Campaign" "ring" "I", .fieldLink RX0 21 "Ringroll$Campaign" "firstShare" "I", .fieldLink RX0 24 "Ringroll$Campaign" "secondShare" "I"] ++ wsX00)
def wsX0_isFor : List Cond := .code yX0_isFor cX0_isFor 2 (some .boolean) :: ([.fieldLink RX0 33 "Ringroll$Campaign" "isActive" "Z", .fieldLink RX0 15 "Ringroll$Campaign" "kinds" "I", .fieldLink RX0 52 "Ringroll$Device" "kind" "I", .fieldLink RX0 18 "Ringroll$Campaign" "versions" "I", .fieldLink RX0 61 "Ringroll$Device" "version" "I", .fieldLink RX0 9 "Ringroll$Campaign" "target" "I", .fieldLink RX0 46 "Ringroll$Campaign" "reporters" "I", .fieldLink RX0 72 "Ringroll$Device" "number" "I", .static yX3_has, .initialized RX3, .code yX3_has cX3_has 2 (some .boolean), .methodLink RX0 64 yX0_drawOf, .instanceMethod yX0_drawOf, .selects RX0 yX0_drawOf yX0_drawOf, .initialized RX0, .code yX0_drawOf cX0_drawOf 2 (some .int), .fieldLink RX0 49 "Ringroll$Campaign" "number" "I", .methodLink RX0 68 yX0_share, .instanceMethod yX0_share, .selects RX0 yX0_share yX0_share, .code yX0_share cX0_share 1 (some .int), .fieldLink RX0 37 "Ringroll$Campaign" "ring" "I", .fieldLink RX0 21 "Ringroll$Campaign" "firstShare" "I", .fieldLink RX0 24 "Ringroll$Campaign" "secondShare" "I"] ++ wsX00 ++ wsX10)
def wsX0_countReport : List Cond := .code yX0_countReport cX0_countReport 3 none :: ([.fieldLink RX0 46 "Ringroll$Campaign" "reporters" "I", .fieldLink RX0 72 "Ringroll$Device" "number" "I", .fieldLink RX0 40 "Ringroll$Campaign" "reports" "I", .fieldLink RX0 43 "Ringroll$Campaign" "failures" "I"] ++ wsX00 ++ wsX10)
def wsX0_beginRing : List Cond := .code yX0_beginRing cX0_beginRing 2 none :: ([.fieldLink RX0 37 "Ringroll$Campaign" "ring" "I", .fieldLink RX0 40 "Ringroll$Campaign" "reports" "I", .fieldLink RX0 43 "Ringroll$Campaign" "failures" "I"] ++ wsX00)
def wsX0_judgeRing : List Cond := .code yX0_judgeRing cX0_judgeRing 1 none :: ([.fieldLink RX0 33 "Ringroll$Campaign" "isActive" "Z", .fieldLink RX0 40 "Ringroll$Campaign" "reports" "I", .fieldLink RX0 27 "Ringroll$Campaign" "needs" "I", .fieldLink RX0 43 "Ringroll$Campaign" "failures" "I", .fieldLink RX0 30 "Ringroll$Campaign" "thousandths" "I", .fieldLink RX0 37 "Ringroll$Campaign" "ring" "I", .methodLink RX0 73 yX0_beginRing, .instanceMethod yX0_beginRing, .selects RX0 yX0_beginRing yX0_beginRing, .initialized RX0, .code yX0_beginRing cX0_beginRing 2 none] ++ wsX00)
def wsX1_init : List Cond := .code yX1_init cX1_init 2 none :: ([.methodLink RX1 3 objectInit, .instanceMethod objectInit, .code objectInit ⟨#[0xb1]⟩ 1 none, .fieldLink RX1 9 "Ringroll$Device" "kind" "I", .fieldLink RX1 15 "Ringroll$Device" "version" "I", .fieldLink RX1 18 "Ringroll$Device" "battery" "I", .fieldLink RX1 21 "Ringroll$Device" "firstHour" "I", .fieldLink RX1 24 "Ringroll$Device" "lastHour" "I", .fieldLink RX1 27 "Ringroll$Device" "state" "I", .fieldLink RX1 30 "Ringroll$Device" "campaign" "I", .fieldLink RX1 33 "Ringroll$Device" "bytesToGo" "I", .fieldLink RX1 36 "Ringroll$Device" "number" "I"] ++ wsX10)
def wsX1_take : List Cond := .code yX1_take cX1_take 3 none :: ([.fieldLink RX1 27 "Ringroll$Device" "state" "I", .fieldLink RX1 39 "Ringroll$Campaign" "number" "I", .fieldLink RX1 30 "Ringroll$Device" "campaign" "I", .fieldLink RX1 33 "Ringroll$Device" "bytesToGo" "I"] ++ wsX10 ++ wsX00)
def wsX1_isInWindow : List Cond := .code yX1_isInWindow cX1_isInWindow 2 (some .boolean) :: ([.fieldLink RX1 21 "Ringroll$Device" "firstHour" "I", .fieldLink RX1 24 "Ringroll$Device" "lastHour" "I"] ++ wsX10)
def wsX1_canLoad : List Cond := .code yX1_canLoad cX1_canLoad 2 (some .boolean) :: ([.fieldLink RX1 27 "Ringroll$Device" "state" "I", .fieldLink RX1 18 "Ringroll$Device" "battery" "I", .methodLink RX1 42 yX1_isInWindow, .instanceMethod yX1_isInWindow, .selects RX1 yX1_isInWindow yX1_isInWindow, .initialized RX1, .code yX1_isInWindow cX1_isInWindow 2 (some .boolean), .fieldLink RX1 21 "Ringroll$Device" "firstHour" "I", .fieldLink RX1 24 "Ringroll$Device" "lastHour" "I"] ++ wsX10)
def wsX1_load : List Cond := .code yX1_load cX1_load 1 none :: ([.fieldLink RX1 33 "Ringroll$Device" "bytesToGo" "I", .methodLink RX1 46 Lib.Math.max.name, .static Lib.Math.max.name, .initialized "java/lang/Math", .code Lib.Math.max.name Lib.Math.max.code 2 (some .int), .fieldLink RX1 18 "Ringroll$Device" "battery" "I", .fieldLink RX1 27 "Ringroll$Device" "state" "I"] ++ wsX10)
def wsJ7_fill_53178 : List Cond := .code yJ7_fill_53178 cJ7_fill_53178 4 none :: ([])
def wsX2_orFar : List Cond := .code yX2_orFar cX2_orFar 1 (some .int) :: ([.constant RX2 49 (1000000)])
def wsX2_measureVia : List Cond := .code yX2_measureVia cX2_measureVia 5 none :: ([.fieldLink RX2 20 "Ringroll$Ways" "leastByDeltas" "[[I", .methodLink RX2 35 Lib.Math.min.name, .static Lib.Math.min.name, .initialized "java/lang/Math", .code Lib.Math.min.name Lib.Math.min.code 2 (some .int)] ++ wsX20)
def wsX2_measure : List Cond := .code yX2_measure cX2_measure 3 none :: ([.fieldLink RX2 20 "Ringroll$Ways" "leastByDeltas" "[[I", .fieldLink RX2 17 "Ringroll$Ways" "deltas" "[[I", .fieldLink RX2 23 "Ringroll$Ways" "leastByImage" "[I", .constant RX2 49 (1000000), .fieldLink RX2 9 "Ringroll$Ways" "images" "[I", .methodLink RX2 35 Lib.Math.min.name, .static Lib.Math.min.name, .initialized "java/lang/Math", .code Lib.Math.min.name Lib.Math.min.code 2 (some .int), .methodLink RX2 54 yX2_orFar, .static yX2_orFar, .initialized RX2, .code yX2_orFar cX2_orFar 1 (some .int), .methodLink RX2 57 yX2_measureVia, .instanceMethod yX2_measureVia, .selects RX2 yX2_measureVia yX2_measureVia, .code yX2_measureVia cX2_measureVia 5 none] ++ wsX20)
def wsX2_init_r1 : List Cond := [Cond.methodLink RX2 3 objectInit, Cond.instanceMethod objectInit, Cond.code objectInit ⟨#[0xb1]⟩ 1 none, Cond.arrayClass .int, Cond.fieldLink RX2 9 "Ringroll$Ways" "images" "[I", Cond.classLink RX2 15 "[[I", Cond.fieldLink RX2 17 "Ringroll$Ways" "deltas" "[[I", Cond.fieldLink RX2 20 "Ringroll$Ways" "leastByDeltas" "[[I", Cond.fieldLink RX2 23 "Ringroll$Ways" "leastByImage" "[I", Cond.methodLink RX2 26 yJ7_fill_53178, Cond.static yJ7_fill_53178, Cond.initialized RJ7, Cond.code yJ7_fill_53178 cJ7_fill_53178 4 none, Cond.methodLink RX2 32 yX2_measure, Cond.instanceMethod yX2_measure, Cond.selects RX2 yX2_measure yX2_measure, Cond.initialized RX2, Cond.code yX2_measure cX2_measure 3 none, Cond.constant RX2 49 (1000000), Cond.methodLink RX2 35 Lib.Math.min.name, Cond.static Lib.Math.min.name, Cond.initialized "java/lang/Math", Cond.code Lib.Math.min.name Lib.Math.min.code 2 (some .int), Cond.methodLink RX2 54 yX2_orFar]
def wsX2_init_r2 : List Cond := [Cond.static yX2_orFar, Cond.code yX2_orFar cX2_orFar 1 (some .int), Cond.methodLink RX2 57 yX2_measureVia, Cond.instanceMethod yX2_measureVia, Cond.selects RX2 yX2_measureVia yX2_measureVia, Cond.code yX2_measureVia cX2_measureVia 5 none]
def wsX2_init : List Cond := .code yX2_init cX2_init 2 none :: ((wsX2_init_r1 ++ wsX2_init_r2) ++ wsX20)
def wsX2_changeImage : List Cond := .code yX2_changeImage cX2_changeImage 4 (some .int) :: ([.fieldLink RX2 9 "Ringroll$Ways" "images" "[I", .methodLink RX2 32 yX2_measure, .instanceMethod yX2_measure, .selects RX2 yX2_measure yX2_measure, .initialized RX2, .code yX2_measure cX2_measure 3 none, .fieldLink RX2 20 "Ringroll$Ways" "leastByDeltas" "[[I", .fieldLink RX2 17 "Ringroll$Ways" "deltas" "[[I", .fieldLink RX2 23 "Ringroll$Ways" "leastByImage" "[I", .constant RX2 49 (1000000), .methodLink RX2 35 Lib.Math.min.name, .static Lib.Math.min.name, .initialized "java/lang/Math", .code Lib.Math.min.name Lib.Math.min.code 2 (some .int), .methodLink RX2 54 yX2_orFar, .static yX2_orFar, .code yX2_orFar cX2_orFar 1 (some .int), .methodLink RX2 57 yX2_measureVia, .instanceMethod yX2_measureVia, .selects RX2 yX2_measureVia yX2_measureVia, .code yX2_measureVia cX2_measureVia 5 none] ++ wsX20)
def wsX2_changeDelta : List Cond := .code yX2_changeDelta cX2_changeDelta 5 (some .int) :: ([.fieldLink RX2 17 "Ringroll$Ways" "deltas" "[[I", .methodLink RX2 32 yX2_measure, .instanceMethod yX2_measure, .selects RX2 yX2_measure yX2_measure, .initialized RX2, .code yX2_measure cX2_measure 3 none, .fieldLink RX2 20 "Ringroll$Ways" "leastByDeltas" "[[I", .fieldLink RX2 23 "Ringroll$Ways" "leastByImage" "[I", .constant RX2 49 (1000000), .fieldLink RX2 9 "Ringroll$Ways" "images" "[I", .methodLink RX2 35 Lib.Math.min.name, .static Lib.Math.min.name, .initialized "java/lang/Math", .code Lib.Math.min.name Lib.Math.min.code 2 (some .int), .methodLink RX2 54 yX2_orFar, .static yX2_orFar, .code yX2_orFar cX2_orFar 1 (some .int), .methodLink RX2 57 yX2_measureVia, .instanceMethod yX2_measureVia, .selects RX2 yX2_measureVia yX2_measureVia, .code yX2_measureVia cX2_measureVia 5 none] ++ wsX20)
def wsX2_orNone : List Cond := .code yX2_orNone cX2_orNone 1 (some .int) :: ([.constant RX2 49 (1000000)])
def wsX2_leastBytes : List Cond := .code yX2_leastBytes cX2_leastBytes 3 (some .int) :: ([.fieldLink RX2 20 "Ringroll$Ways" "leastByDeltas" "[[I", .fieldLink RX2 23 "Ringroll$Ways" "leastByImage" "[I", .methodLink RX2 35 Lib.Math.min.name, .static Lib.Math.min.name, .initialized "java/lang/Math", .code Lib.Math.min.name Lib.Math.min.code 2 (some .int), .methodLink RX2 41 yX2_orNone, .static yX2_orNone, .initialized RX2, .code yX2_orNone cX2_orNone 1 (some .int), .constant RX2 49 (1000000)] ++ wsX20)
def wsX2_leastAlong : List Cond := .code yX2_leastAlong cX2_leastAlong 8 (some .int) :: ([.constant RX2 49 (1000000), .methodLink RX2 35 Lib.Math.min.name, .static Lib.Math.min.name, .initialized "java/lang/Math", .code Lib.Math.min.name Lib.Math.min.code 2 (some .int), .static yX3_has, .initialized RX3, .code yX3_has cX3_has 2 (some .boolean), .methodLink RX2 45 yX2_leastAlong, .static yX2_leastAlong, .initialized RX2])
def wsX2_leastBytesOfAllWays : List Cond := .code yX2_leastBytesOfAllWays cX2_leastBytesOfAllWays 5 (some .int) :: ([.fieldLink RX2 17 "Ringroll$Ways" "deltas" "[[I", .fieldLink RX2 9 "Ringroll$Ways" "images" "[I", .methodLink RX2 35 Lib.Math.min.name, .static Lib.Math.min.name, .initialized "java/lang/Math", .code Lib.Math.min.name Lib.Math.min.code 2 (some .int), .methodLink RX2 45 yX2_leastAlong, .static yX2_leastAlong, .initialized RX2, .code yX2_leastAlong cX2_leastAlong 8 (some .int), .constant RX2 49 (1000000), .static yX3_has, .initialized RX3, .code yX3_has cX3_has 2 (some .boolean), .methodLink RX2 41 yX2_orNone, .static yX2_orNone, .code yX2_orNone cX2_orNone 1 (some .int)] ++ wsX20)
def wsX3_init_r1 : List Cond := [Cond.methodLink RX3 1 objectInit, Cond.instanceMethod objectInit, Cond.code objectInit ⟨#[0xb1]⟩ 1 none, Cond.arrayClass .int, Cond.fieldLink RX3 9 "Ringroll" "kindsOfVersion" "[I", Cond.classLink RX3 13 RX2, Cond.instantiable RX2 4, Cond.initialized RX2, Cond.fieldLink RX3 16 "Ringroll" "ways" "LRingroll$Ways;", Cond.classLink RX3 20 RX1, Cond.fieldLink RX3 22 "Ringroll" "fleet" "[LRingroll$Device;", Cond.classLink RX3 26 RX0, Cond.fieldLink RX3 28 "Ringroll" "campaigns" "[LRingroll$Campaign;", Cond.fieldLink RX3 32 "Ringroll" "deviceCount" "I", Cond.fieldLink RX3 36 "Ringroll" "campaignCount" "I", Cond.fieldLink RX3 39 "Ringroll" "hourOfDay" "I", Cond.instantiable RX1 9, Cond.initialized RX1, Cond.instantiable RX0 13, Cond.initialized RX0, Cond.methodLink RX3 15 yX2_init, Cond.instanceMethod yX2_init, Cond.code yX2_init cX2_init 2 none, Cond.methodLink RX2 3 objectInit]
def wsX3_init_r2 : List Cond := [Cond.fieldLink RX2 9 "Ringroll$Ways" "images" "[I", Cond.classLink RX2 15 "[[I", Cond.fieldLink RX2 17 "Ringroll$Ways" "deltas" "[[I", Cond.fieldLink RX2 20 "Ringroll$Ways" "leastByDeltas" "[[I", Cond.fieldLink RX2 23 "Ringroll$Ways" "leastByImage" "[I", Cond.methodLink RX2 26 yJ7_fill_53178, Cond.static yJ7_fill_53178, Cond.initialized RJ7, Cond.code yJ7_fill_53178 cJ7_fill_53178 4 none, Cond.methodLink RX2 32 yX2_measure, Cond.instanceMethod yX2_measure, Cond.selects RX2 yX2_measure yX2_measure, Cond.code yX2_measure cX2_measure 3 none, Cond.constant RX2 49 (1000000), Cond.methodLink RX2 35 Lib.Math.min.name, Cond.static Lib.Math.min.name, Cond.initialized "java/lang/Math", Cond.code Lib.Math.min.name Lib.Math.min.code 2 (some .int), Cond.methodLink RX2 54 yX2_orFar, Cond.static yX2_orFar, Cond.code yX2_orFar cX2_orFar 1 (some .int), Cond.methodLink RX2 57 yX2_measureVia, Cond.instanceMethod yX2_measureVia, Cond.selects RX2 yX2_measureVia yX2_measureVia]
def wsX3_init_r3 : List Cond := [Cond.code yX2_measureVia cX2_measureVia 5 none, Cond.methodLink RX3 42 yJ7_fill_53178, Cond.methodLink RX3 48 yX1_init, Cond.instanceMethod yX1_init, Cond.code yX1_init cX1_init 2 none, Cond.methodLink RX1 3 objectInit, Cond.fieldLink RX1 9 "Ringroll$Device" "kind" "I", Cond.fieldLink RX1 15 "Ringroll$Device" "version" "I", Cond.fieldLink RX1 18 "Ringroll$Device" "battery" "I", Cond.fieldLink RX1 21 "Ringroll$Device" "firstHour" "I", Cond.fieldLink RX1 24 "Ringroll$Device" "lastHour" "I", Cond.fieldLink RX1 27 "Ringroll$Device" "state" "I", Cond.fieldLink RX1 30 "Ringroll$Device" "campaign" "I", Cond.fieldLink RX1 33 "Ringroll$Device" "bytesToGo" "I", Cond.fieldLink RX1 36 "Ringroll$Device" "number" "I", Cond.methodLink RX3 51 yX0_init, Cond.instanceMethod yX0_init, Cond.code yX0_init cX0_init 2 none, Cond.methodLink RX0 3 objectInit, Cond.fieldLink RX0 9 "Ringroll$Campaign" "target" "I", Cond.fieldLink RX0 15 "Ringroll$Campaign" "kinds" "I", Cond.fieldLink RX0 18 "Ringroll$Campaign" "versions" "I", Cond.fieldLink RX0 21 "Ringroll$Campaign" "firstShare" "I", Cond.fieldLink RX0 24 "Ringroll$Campaign" "secondShare" "I"]
def wsX3_init_r4 : List Cond := [Cond.fieldLink RX0 27 "Ringroll$Campaign" "needs" "I", Cond.fieldLink RX0 30 "Ringroll$Campaign" "thousandths" "I", Cond.fieldLink RX0 33 "Ringroll$Campaign" "isActive" "Z", Cond.fieldLink RX0 37 "Ringroll$Campaign" "ring" "I", Cond.fieldLink RX0 40 "Ringroll$Campaign" "reports" "I", Cond.fieldLink RX0 43 "Ringroll$Campaign" "failures" "I", Cond.fieldLink RX0 46 "Ringroll$Campaign" "reporters" "I", Cond.fieldLink RX0 49 "Ringroll$Campaign" "number" "I"]
def wsX3_init : List Cond := .code yX3_init cX3_init 2 none :: ((wsX3_init_r1 ++ (wsX3_init_r2 ++ (wsX3_init_r3 ++ wsX3_init_r4))) ++ wsX30 ++ wsX20 ++ wsX10 ++ wsX00)
def wsX3_needVersion : List Cond := .code yX3_needVersion cX3_needVersion 1 none :: ([.classLink RX3 83 "java/lang/IndexOutOfBoundsException", .initialized "java/lang/IndexOutOfBoundsException"] ++ (vx_atS RX3 87 "java/lang/IndexOutOfBoundsException" ["java/lang/RuntimeException", "java/lang/Exception"]).filter goodWord)
def wsX3_needRange : List Cond := .code yX3_needRange cX3_needRange 3 none :: ([.classLink RX3 66 "java/lang/IllegalArgumentException", .initialized "java/lang/IllegalArgumentException"] ++ (vx_atS RX3 70 "java/lang/IllegalArgumentException" ["java/lang/RuntimeException", "java/lang/Exception"]).filter goodWord)
def wsX3_allow : List Cond := .code yX3_allow cX3_allow 4 (some .int) :: ([.fieldLink RX3 9 "Ringroll" "kindsOfVersion" "[I", .methodLink RX3 52 yX3_needVersion, .static yX3_needVersion, .initialized RX3, .code yX3_needVersion cX3_needVersion 1 none, .classLink RX3 83 "java/lang/IndexOutOfBoundsException", .initialized "java/lang/IndexOutOfBoundsException", .methodLink RX3 55 yX3_needRange, .static yX3_needRange, .code yX3_needRange cX3_needRange 3 none, .classLink RX3 66 "java/lang/IllegalArgumentException", .initialized "java/lang/IllegalArgumentException"] ++ wsX30 ++ (vx_atS RX3 87 "java/lang/IndexOutOfBoundsException" ["java/lang/RuntimeException", "java/lang/Exception"]).filter goodWord ++ (vx_atS RX3 70 "java/lang/IllegalArgumentException" ["java/lang/RuntimeException", "java/lang/Exception"]).filter goodWord)
def wsX3_needBytesOrNone : List Cond := .code yX3_needBytesOrNone cX3_needBytesOrNone 1 none :: ([.constant RX3 216 (100000), .methodLink RX3 55 yX3_needRange, .static yX3_needRange, .initialized RX3, .code yX3_needRange cX3_needRange 3 none, .classLink RX3 66 "java/lang/IllegalArgumentException", .initialized "java/lang/IllegalArgumentException"] ++ (vx_atS RX3 70 "java/lang/IllegalArgumentException" ["java/lang/RuntimeException", "java/lang/Exception"]).filter goodWord)
def wsX3_setImage_r1 : List Cond := [Cond.fieldLink RX3 16 "Ringroll" "ways" "LRingroll$Ways;", Cond.methodLink RX3 52 yX3_needVersion, Cond.static yX3_needVersion, Cond.initialized RX3, Cond.code yX3_needVersion cX3_needVersion 1 none, Cond.classLink RX3 83 "java/lang/IndexOutOfBoundsException", Cond.initialized "java/lang/IndexOutOfBoundsException", Cond.methodLink RX3 59 yX3_needBytesOrNone, Cond.static yX3_needBytesOrNone, Cond.code yX3_needBytesOrNone cX3_needBytesOrNone 1 none, Cond.constant RX3 216 (100000), Cond.methodLink RX3 55 yX3_needRange, Cond.static yX3_needRange, Cond.code yX3_needRange cX3_needRange 3 none, Cond.classLink RX3 66 "java/lang/IllegalArgumentException", Cond.initialized "java/lang/IllegalArgumentException", Cond.methodLink RX3 62 yX2_changeImage, Cond.instanceMethod yX2_changeImage, Cond.selects RX2 yX2_changeImage yX2_changeImage, Cond.initialized RX2, Cond.code yX2_changeImage cX2_changeImage 4 (some .int), Cond.fieldLink RX2 9 "Ringroll$Ways" "images" "[I", Cond.methodLink RX2 32 yX2_measure, Cond.instanceMethod yX2_measure]
def wsX3_setImage_r2 : List Cond := [Cond.selects RX2 yX2_measure yX2_measure, Cond.code yX2_measure cX2_measure 3 none, Cond.fieldLink RX2 20 "Ringroll$Ways" "leastByDeltas" "[[I", Cond.fieldLink RX2 17 "Ringroll$Ways" "deltas" "[[I", Cond.fieldLink RX2 23 "Ringroll$Ways" "leastByImage" "[I", Cond.constant RX2 49 (1000000), Cond.methodLink RX2 35 Lib.Math.min.name, Cond.static Lib.Math.min.name, Cond.initialized "java/lang/Math", Cond.code Lib.Math.min.name Lib.Math.min.code 2 (some .int), Cond.methodLink RX2 54 yX2_orFar, Cond.static yX2_orFar, Cond.code yX2_orFar cX2_orFar 1 (some .int), Cond.methodLink RX2 57 yX2_measureVia, Cond.instanceMethod yX2_measureVia, Cond.selects RX2 yX2_measureVia yX2_measureVia, Cond.code yX2_measureVia cX2_measureVia 5 none]
def wsX3_setImage : List Cond := .code yX3_setImage cX3_setImage 3 (some .int) :: ((wsX3_setImage_r1 ++ wsX3_setImage_r2) ++ wsX30 ++ wsX20 ++ (vx_atS RX3 87 "java/lang/IndexOutOfBoundsException" ["java/lang/RuntimeException", "java/lang/Exception"]).filter goodWord ++ (vx_atS RX3 70 "java/lang/IllegalArgumentException" ["java/lang/RuntimeException", "java/lang/Exception"]).filter goodWord)
def wsX3_setDelta_r1 : List Cond := [Cond.classLink RX3 66 "java/lang/IllegalArgumentException", Cond.initialized "java/lang/IllegalArgumentException", Cond.fieldLink RX3 16 "Ringroll" "ways" "LRingroll$Ways;", Cond.methodLink RX3 52 yX3_needVersion, Cond.static yX3_needVersion, Cond.initialized RX3, Cond.code yX3_needVersion cX3_needVersion 1 none, Cond.classLink RX3 83 "java/lang/IndexOutOfBoundsException", Cond.initialized "java/lang/IndexOutOfBoundsException", Cond.methodLink RX3 59 yX3_needBytesOrNone, Cond.static yX3_needBytesOrNone, Cond.code yX3_needBytesOrNone cX3_needBytesOrNone 1 none, Cond.constant RX3 216 (100000), Cond.methodLink RX3 55 yX3_needRange, Cond.static yX3_needRange, Cond.code yX3_needRange cX3_needRange 3 none, Cond.methodLink RX3 73 yX2_changeDelta, Cond.instanceMethod yX2_changeDelta, Cond.selects RX2 yX2_changeDelta yX2_changeDelta, Cond.initialized RX2, Cond.code yX2_changeDelta cX2_changeDelta 5 (some .int), Cond.fieldLink RX2 17 "Ringroll$Ways" "deltas" "[[I", Cond.methodLink RX2 32 yX2_measure, Cond.instanceMethod yX2_measure]
def wsX3_setDelta_r2 : List Cond := [Cond.selects RX2 yX2_measure yX2_measure, Cond.code yX2_measure cX2_measure 3 none, Cond.fieldLink RX2 20 "Ringroll$Ways" "leastByDeltas" "[[I", Cond.fieldLink RX2 23 "Ringroll$Ways" "leastByImage" "[I", Cond.constant RX2 49 (1000000), Cond.fieldLink RX2 9 "Ringroll$Ways" "images" "[I", Cond.methodLink RX2 35 Lib.Math.min.name, Cond.static Lib.Math.min.name, Cond.initialized "java/lang/Math", Cond.code Lib.Math.min.name Lib.Math.min.code 2 (some .int), Cond.methodLink RX2 54 yX2_orFar, Cond.static yX2_orFar, Cond.code yX2_orFar cX2_orFar 1 (some .int), Cond.methodLink RX2 57 yX2_measureVia, Cond.instanceMethod yX2_measureVia, Cond.selects RX2 yX2_measureVia yX2_measureVia, Cond.code yX2_measureVia cX2_measureVia 5 none]
def wsX3_setDelta : List Cond := .code yX3_setDelta cX3_setDelta 4 (some .int) :: ((wsX3_setDelta_r1 ++ wsX3_setDelta_r2) ++ wsX30 ++ wsX20 ++ (vx_atS RX3 70 "java/lang/IllegalArgumentException" ["java/lang/RuntimeException", "java/lang/Exception"]).filter goodWord ++ (vx_atS RX3 87 "java/lang/IndexOutOfBoundsException" ["java/lang/RuntimeException", "java/lang/Exception"]).filter goodWord)
def wsX3_size : List Cond := .code yX3_size cX3_size 3 (some .int) :: ([.fieldLink RX3 16 "Ringroll" "ways" "LRingroll$Ways;", .methodLink RX3 52 yX3_needVersion, .static yX3_needVersion, .initialized RX3, .code yX3_needVersion cX3_needVersion 1 none, .classLink RX3 83 "java/lang/IndexOutOfBoundsException", .initialized "java/lang/IndexOutOfBoundsException", .methodLink RX3 77 yX2_leastBytes, .instanceMethod yX2_leastBytes, .selects RX2 yX2_leastBytes yX2_leastBytes, .initialized RX2, .code yX2_leastBytes cX2_leastBytes 3 (some .int), .fieldLink RX2 20 "Ringroll$Ways" "leastByDeltas" "[[I", .fieldLink RX2 23 "Ringroll$Ways" "leastByImage" "[I", .methodLink RX2 35 Lib.Math.min.name, .static Lib.Math.min.name, .initialized "java/lang/Math", .code Lib.Math.min.name Lib.Math.min.code 2 (some .int), .methodLink RX2 41 yX2_orNone, .static yX2_orNone, .code yX2_orNone cX2_orNone 1 (some .int), .constant RX2 49 (1000000)] ++ wsX30 ++ wsX20 ++ (vx_atS RX3 87 "java/lang/IndexOutOfBoundsException" ["java/lang/RuntimeException", "java/lang/Exception"]).filter goodWord)
def wsX3_sizeByWays_r1 : List Cond := [Cond.fieldLink RX3 16 "Ringroll" "ways" "LRingroll$Ways;", Cond.methodLink RX3 52 yX3_needVersion, Cond.static yX3_needVersion, Cond.initialized RX3, Cond.code yX3_needVersion cX3_needVersion 1 none, Cond.classLink RX3 83 "java/lang/IndexOutOfBoundsException", Cond.initialized "java/lang/IndexOutOfBoundsException", Cond.methodLink RX3 80 yX2_leastBytesOfAllWays, Cond.instanceMethod yX2_leastBytesOfAllWays, Cond.selects RX2 yX2_leastBytesOfAllWays yX2_leastBytesOfAllWays, Cond.initialized RX2, Cond.code yX2_leastBytesOfAllWays cX2_leastBytesOfAllWays 5 (some .int), Cond.fieldLink RX2 17 "Ringroll$Ways" "deltas" "[[I", Cond.fieldLink RX2 9 "Ringroll$Ways" "images" "[I", Cond.methodLink RX2 35 Lib.Math.min.name, Cond.static Lib.Math.min.name, Cond.initialized "java/lang/Math", Cond.code Lib.Math.min.name Lib.Math.min.code 2 (some .int), Cond.methodLink RX2 45 yX2_leastAlong, Cond.static yX2_leastAlong, Cond.code yX2_leastAlong cX2_leastAlong 8 (some .int), Cond.constant RX2 49 (1000000), Cond.static yX3_has, Cond.code yX3_has cX3_has 2 (some .boolean)]
def wsX3_sizeByWays_r2 : List Cond := [Cond.methodLink RX2 41 yX2_orNone, Cond.static yX2_orNone, Cond.code yX2_orNone cX2_orNone 1 (some .int)]
def wsX3_sizeByWays : List Cond := .code yX3_sizeByWays cX3_sizeByWays 3 (some .int) :: ((wsX3_sizeByWays_r1 ++ wsX3_sizeByWays_r2) ++ wsX30 ++ wsX20 ++ (vx_atS RX3 87 "java/lang/IndexOutOfBoundsException" ["java/lang/RuntimeException", "java/lang/Exception"]).filter goodWord)
def wsX3_addDevice : List Cond := .code yX3_addDevice cX3_addDevice 4 (some .int) :: ([.classLink RX3 83 "java/lang/IndexOutOfBoundsException", .initialized "java/lang/IndexOutOfBoundsException", .classLink RX3 88 "java/lang/IllegalStateException", .initialized "java/lang/IllegalStateException", .fieldLink RX3 32 "Ringroll" "deviceCount" "I", .fieldLink RX3 9 "Ringroll" "kindsOfVersion" "[I", .fieldLink RX3 22 "Ringroll" "fleet" "[LRingroll$Device;", .fieldLink RX3 99 "Ringroll$Device" "kind" "I", .fieldLink RX3 102 "Ringroll$Device" "version" "I", .fieldLink RX3 105 "Ringroll$Device" "number" "I", .methodLink RX3 52 yX3_needVersion, .static yX3_needVersion, .initialized RX3, .code yX3_needVersion cX3_needVersion 1 none, .methodLink RX3 93 yX3_has, .static yX3_has, .code yX3_has cX3_has 2 (some .boolean)] ++ wsX30 ++ wsX10 ++ (vx_atS RX3 87 "java/lang/IndexOutOfBoundsException" ["java/lang/RuntimeException", "java/lang/Exception"]).filter goodWord ++ (vx_atS RX3 92 "java/lang/IllegalStateException" ["java/lang/RuntimeException", "java/lang/Exception"]).filter goodWord)
def wsX3_deviceAt : List Cond := .code yX3_deviceAt cX3_deviceAt 2 (some (.object "Ringroll$Device")) :: ([.classLink RX3 83 "java/lang/IndexOutOfBoundsException", .initialized "java/lang/IndexOutOfBoundsException", .fieldLink RX3 32 "Ringroll" "deviceCount" "I", .fieldLink RX3 22 "Ringroll" "fleet" "[LRingroll$Device;"] ++ wsX30 ++ (vx_atS RX3 87 "java/lang/IndexOutOfBoundsException" ["java/lang/RuntimeException", "java/lang/Exception"]).filter goodWord)
def wsX3_charge : List Cond := .code yX3_charge cX3_charge 5 (some .int) :: ([.fieldLink RX3 112 "Ringroll$Device" "battery" "I", .methodLink RX3 108 yX3_deviceAt, .instanceMethod yX3_deviceAt, .selects RX3 yX3_deviceAt yX3_deviceAt, .initialized RX3, .code yX3_deviceAt cX3_deviceAt 2 (some (.object "Ringroll$Device")), .classLink RX3 83 "java/lang/IndexOutOfBoundsException", .initialized "java/lang/IndexOutOfBoundsException", .fieldLink RX3 32 "Ringroll" "deviceCount" "I", .fieldLink RX3 22 "Ringroll" "fleet" "[LRingroll$Device;", .methodLink RX3 55 yX3_needRange, .static yX3_needRange, .code yX3_needRange cX3_needRange 3 none, .classLink RX3 66 "java/lang/IllegalArgumentException", .initialized "java/lang/IllegalArgumentException"] ++ wsX10 ++ wsX30 ++ (vx_atS RX3 87 "java/lang/IndexOutOfBoundsException" ["java/lang/RuntimeException", "java/lang/Exception"]).filter goodWord ++ (vx_atS RX3 70 "java/lang/IllegalArgumentException" ["java/lang/RuntimeException", "java/lang/Exception"]).filter goodWord)
def wsX3_setWindow : List Cond := .code yX3_setWindow cX3_setWindow 5 none :: ([.fieldLink RX3 115 "Ringroll$Device" "firstHour" "I", .fieldLink RX3 118 "Ringroll$Device" "lastHour" "I", .methodLink RX3 108 yX3_deviceAt, .instanceMethod yX3_deviceAt, .selects RX3 yX3_deviceAt yX3_deviceAt, .initialized RX3, .code yX3_deviceAt cX3_deviceAt 2 (some (.object "Ringroll$Device")), .classLink RX3 83 "java/lang/IndexOutOfBoundsException", .initialized "java/lang/IndexOutOfBoundsException", .fieldLink RX3 32 "Ringroll" "deviceCount" "I", .fieldLink RX3 22 "Ringroll" "fleet" "[LRingroll$Device;", .methodLink RX3 55 yX3_needRange, .static yX3_needRange, .code yX3_needRange cX3_needRange 3 none, .classLink RX3 66 "java/lang/IllegalArgumentException", .initialized "java/lang/IllegalArgumentException"] ++ wsX10 ++ wsX30 ++ (vx_atS RX3 87 "java/lang/IndexOutOfBoundsException" ["java/lang/RuntimeException", "java/lang/Exception"]).filter goodWord ++ (vx_atS RX3 70 "java/lang/IllegalArgumentException" ["java/lang/RuntimeException", "java/lang/Exception"]).filter goodWord)
def wsX3_needCampaign : List Cond := .code yX3_needCampaign cX3_needCampaign 2 none :: ([.classLink RX3 83 "java/lang/IndexOutOfBoundsException", .initialized "java/lang/IndexOutOfBoundsException", .fieldLink RX3 36 "Ringroll" "campaignCount" "I"] ++ wsX30 ++ (vx_atS RX3 87 "java/lang/IndexOutOfBoundsException" ["java/lang/RuntimeException", "java/lang/Exception"]).filter goodWord)
def wsX3_campaignAt : List Cond := .code yX3_campaignAt cX3_campaignAt 2 (some (.object "Ringroll$Campaign")) :: ([.fieldLink RX3 28 "Ringroll" "campaigns" "[LRingroll$Campaign;", .methodLink RX3 146 yX3_needCampaign, .instanceMethod yX3_needCampaign, .selects RX3 yX3_needCampaign yX3_needCampaign, .initialized RX3, .code yX3_needCampaign cX3_needCampaign 2 none, .classLink RX3 83 "java/lang/IndexOutOfBoundsException", .initialized "java/lang/IndexOutOfBoundsException", .fieldLink RX3 36 "Ringroll" "campaignCount" "I"] ++ wsX30 ++ (vx_atS RX3 87 "java/lang/IndexOutOfBoundsException" ["java/lang/RuntimeException", "java/lang/Exception"]).filter goodWord)
def wsX3_report_r1 : List Cond := [Cond.classLink RX3 88 "java/lang/IllegalStateException", Cond.initialized "java/lang/IllegalStateException", Cond.fieldLink RX3 121 "Ringroll$Device" "state" "I", Cond.fieldLink RX3 126 "Ringroll$Device" "campaign" "I", Cond.fieldLink RX3 133 "Ringroll$Campaign" "target" "I", Cond.fieldLink RX3 102 "Ringroll$Device" "version" "I", Cond.methodLink RX3 108 yX3_deviceAt, Cond.instanceMethod yX3_deviceAt, Cond.selects RX3 yX3_deviceAt yX3_deviceAt, Cond.initialized RX3, Cond.code yX3_deviceAt cX3_deviceAt 2 (some (.object "Ringroll$Device")), Cond.classLink RX3 83 "java/lang/IndexOutOfBoundsException", Cond.initialized "java/lang/IndexOutOfBoundsException", Cond.fieldLink RX3 32 "Ringroll" "deviceCount" "I", Cond.fieldLink RX3 22 "Ringroll" "fleet" "[LRingroll$Device;", Cond.methodLink RX3 129 yX3_campaignAt, Cond.instanceMethod yX3_campaignAt, Cond.selects RX3 yX3_campaignAt yX3_campaignAt, Cond.code yX3_campaignAt cX3_campaignAt 2 (some (.object "Ringroll$Campaign")), Cond.fieldLink RX3 28 "Ringroll" "campaigns" "[LRingroll$Campaign;", Cond.methodLink RX3 146 yX3_needCampaign, Cond.instanceMethod yX3_needCampaign, Cond.selects RX3 yX3_needCampaign yX3_needCampaign, Cond.code yX3_needCampaign cX3_needCampaign 2 none]
def wsX3_report_r2 : List Cond := [Cond.fieldLink RX3 36 "Ringroll" "campaignCount" "I", Cond.methodLink RX3 136 yX0_countReport, Cond.instanceMethod yX0_countReport, Cond.selects RX0 yX0_countReport yX0_countReport, Cond.initialized RX0, Cond.code yX0_countReport cX0_countReport 3 none, Cond.fieldLink RX0 46 "Ringroll$Campaign" "reporters" "I", Cond.fieldLink RX0 72 "Ringroll$Device" "number" "I", Cond.fieldLink RX0 40 "Ringroll$Campaign" "reports" "I", Cond.fieldLink RX0 43 "Ringroll$Campaign" "failures" "I", Cond.methodLink RX3 140 yX0_judgeRing, Cond.instanceMethod yX0_judgeRing, Cond.selects RX0 yX0_judgeRing yX0_judgeRing, Cond.code yX0_judgeRing cX0_judgeRing 1 none, Cond.fieldLink RX0 33 "Ringroll$Campaign" "isActive" "Z", Cond.fieldLink RX0 27 "Ringroll$Campaign" "needs" "I", Cond.fieldLink RX0 30 "Ringroll$Campaign" "thousandths" "I", Cond.fieldLink RX0 37 "Ringroll$Campaign" "ring" "I", Cond.methodLink RX0 73 yX0_beginRing, Cond.instanceMethod yX0_beginRing, Cond.selects RX0 yX0_beginRing yX0_beginRing, Cond.code yX0_beginRing cX0_beginRing 2 none]
def wsX3_report : List Cond := .code yX3_report cX3_report 5 (some .int) :: ((wsX3_report_r1 ++ wsX3_report_r2) ++ wsX10 ++ wsX00 ++ wsX30 ++ (vx_atS RX3 92 "java/lang/IllegalStateException" ["java/lang/RuntimeException", "java/lang/Exception"]).filter goodWord ++ (vx_atS RX3 87 "java/lang/IndexOutOfBoundsException" ["java/lang/RuntimeException", "java/lang/Exception"]).filter goodWord)
def wsX3_devices : List Cond := .code yX3_devices cX3_devices 1 (some .int) :: ([.fieldLink RX3 32 "Ringroll" "deviceCount" "I"] ++ wsX30)
def wsX3_state : List Cond := .code yX3_state cX3_state 2 (some .int) :: ([.fieldLink RX3 121 "Ringroll$Device" "state" "I", .methodLink RX3 108 yX3_deviceAt, .instanceMethod yX3_deviceAt, .selects RX3 yX3_deviceAt yX3_deviceAt, .initialized RX3, .code yX3_deviceAt cX3_deviceAt 2 (some (.object "Ringroll$Device")), .classLink RX3 83 "java/lang/IndexOutOfBoundsException", .initialized "java/lang/IndexOutOfBoundsException", .fieldLink RX3 32 "Ringroll" "deviceCount" "I", .fieldLink RX3 22 "Ringroll" "fleet" "[LRingroll$Device;"] ++ wsX10 ++ wsX30 ++ (vx_atS RX3 87 "java/lang/IndexOutOfBoundsException" ["java/lang/RuntimeException", "java/lang/Exception"]).filter goodWord)
def wsX3_version : List Cond := .code yX3_version cX3_version 2 (some .int) :: ([.fieldLink RX3 102 "Ringroll$Device" "version" "I", .methodLink RX3 108 yX3_deviceAt, .instanceMethod yX3_deviceAt, .selects RX3 yX3_deviceAt yX3_deviceAt, .initialized RX3, .code yX3_deviceAt cX3_deviceAt 2 (some (.object "Ringroll$Device")), .classLink RX3 83 "java/lang/IndexOutOfBoundsException", .initialized "java/lang/IndexOutOfBoundsException", .fieldLink RX3 32 "Ringroll" "deviceCount" "I", .fieldLink RX3 22 "Ringroll" "fleet" "[LRingroll$Device;"] ++ wsX10 ++ wsX30 ++ (vx_atS RX3 87 "java/lang/IndexOutOfBoundsException" ["java/lang/RuntimeException", "java/lang/Exception"]).filter goodWord)
def wsX3_campaignOf : List Cond := .code yX3_campaignOf cX3_campaignOf 2 (some .int) :: ([.fieldLink RX3 126 "Ringroll$Device" "campaign" "I", .methodLink RX3 108 yX3_deviceAt, .instanceMethod yX3_deviceAt, .selects RX3 yX3_deviceAt yX3_deviceAt, .initialized RX3, .code yX3_deviceAt cX3_deviceAt 2 (some (.object "Ringroll$Device")), .classLink RX3 83 "java/lang/IndexOutOfBoundsException", .initialized "java/lang/IndexOutOfBoundsException", .fieldLink RX3 32 "Ringroll" "deviceCount" "I", .fieldLink RX3 22 "Ringroll" "fleet" "[LRingroll$Device;"] ++ wsX10 ++ wsX30 ++ (vx_atS RX3 87 "java/lang/IndexOutOfBoundsException" ["java/lang/RuntimeException", "java/lang/Exception"]).filter goodWord)
def wsX3_toGo : List Cond := .code yX3_toGo cX3_toGo 2 (some .int) :: ([.fieldLink RX3 143 "Ringroll$Device" "bytesToGo" "I", .methodLink RX3 108 yX3_deviceAt, .instanceMethod yX3_deviceAt, .selects RX3 yX3_deviceAt yX3_deviceAt, .initialized RX3, .code yX3_deviceAt cX3_deviceAt 2 (some (.object "Ringroll$Device")), .classLink RX3 83 "java/lang/IndexOutOfBoundsException", .initialized "java/lang/IndexOutOfBoundsException", .fieldLink RX3 32 "Ringroll" "deviceCount" "I", .fieldLink RX3 22 "Ringroll" "fleet" "[LRingroll$Device;"] ++ wsX10 ++ wsX30 ++ (vx_atS RX3 87 "java/lang/IndexOutOfBoundsException" ["java/lang/RuntimeException", "java/lang/Exception"]).filter goodWord)
def wsX3_battery : List Cond := .code yX3_battery cX3_battery 2 (some .int) :: ([.fieldLink RX3 112 "Ringroll$Device" "battery" "I", .methodLink RX3 108 yX3_deviceAt, .instanceMethod yX3_deviceAt, .selects RX3 yX3_deviceAt yX3_deviceAt, .initialized RX3, .code yX3_deviceAt cX3_deviceAt 2 (some (.object "Ringroll$Device")), .classLink RX3 83 "java/lang/IndexOutOfBoundsException", .initialized "java/lang/IndexOutOfBoundsException", .fieldLink RX3 32 "Ringroll" "deviceCount" "I", .fieldLink RX3 22 "Ringroll" "fleet" "[LRingroll$Device;"] ++ wsX10 ++ wsX30 ++ (vx_atS RX3 87 "java/lang/IndexOutOfBoundsException" ["java/lang/RuntimeException", "java/lang/Exception"]).filter goodWord)
def wsX3_begin_r1 : List Cond := [Cond.classLink RX3 88 "java/lang/IllegalStateException", Cond.initialized "java/lang/IllegalStateException", Cond.fieldLink RX3 36 "Ringroll" "campaignCount" "I", Cond.fieldLink RX3 151 "Ringroll$Campaign" "isActive" "Z", Cond.fieldLink RX3 28 "Ringroll" "campaigns" "[LRingroll$Campaign;", Cond.fieldLink RX3 133 "Ringroll$Campaign" "target" "I", Cond.fieldLink RX3 155 "Ringroll$Campaign" "kinds" "I", Cond.fieldLink RX3 158 "Ringroll$Campaign" "versions" "I", Cond.fieldLink RX3 161 "Ringroll$Campaign" "number" "I", Cond.methodLink RX3 52 yX3_needVersion, Cond.static yX3_needVersion, Cond.initialized RX3, Cond.code yX3_needVersion cX3_needVersion 1 none, Cond.classLink RX3 83 "java/lang/IndexOutOfBoundsException", Cond.initialized "java/lang/IndexOutOfBoundsException", Cond.methodLink RX3 146 yX3_needCampaign, Cond.instanceMethod yX3_needCampaign, Cond.selects RX3 yX3_needCampaign yX3_needCampaign, Cond.code yX3_needCampaign cX3_needCampaign 2 none, Cond.methodLink RX3 55 yX3_needRange, Cond.static yX3_needRange, Cond.code yX3_needRange cX3_needRange 3 none, Cond.classLink RX3 66 "java/lang/IllegalArgumentException", Cond.initialized "java/lang/IllegalArgumentException"]
def wsX3_begin_r2 : List Cond := [Cond.methodLink RX3 129 yX3_campaignAt, Cond.instanceMethod yX3_campaignAt, Cond.selects RX3 yX3_campaignAt yX3_campaignAt, Cond.code yX3_campaignAt cX3_campaignAt 2 (some (.object "Ringroll$Campaign"))]
def wsX3_begin : List Cond := .code yX3_begin cX3_begin 6 (some .int) :: ((wsX3_begin_r1 ++ wsX3_begin_r2) ++ wsX30 ++ wsX00 ++ (vx_atS RX3 92 "java/lang/IllegalStateException" ["java/lang/RuntimeException", "java/lang/Exception"]).filter goodWord ++ (vx_atS RX3 87 "java/lang/IndexOutOfBoundsException" ["java/lang/RuntimeException", "java/lang/Exception"]).filter goodWord ++ (vx_atS RX3 70 "java/lang/IllegalArgumentException" ["java/lang/RuntimeException", "java/lang/Exception"]).filter goodWord)
def wsX3_setRules : List Cond := .code yX3_setRules cX3_setRules 7 none :: ([.fieldLink RX3 162 "Ringroll$Campaign" "firstShare" "I", .fieldLink RX3 165 "Ringroll$Campaign" "secondShare" "I", .fieldLink RX3 168 "Ringroll$Campaign" "needs" "I", .fieldLink RX3 171 "Ringroll$Campaign" "thousandths" "I", .methodLink RX3 129 yX3_campaignAt, .instanceMethod yX3_campaignAt, .selects RX3 yX3_campaignAt yX3_campaignAt, .initialized RX3, .code yX3_campaignAt cX3_campaignAt 2 (some (.object "Ringroll$Campaign")), .fieldLink RX3 28 "Ringroll" "campaigns" "[LRingroll$Campaign;", .methodLink RX3 146 yX3_needCampaign, .instanceMethod yX3_needCampaign, .selects RX3 yX3_needCampaign yX3_needCampaign, .code yX3_needCampaign cX3_needCampaign 2 none, .classLink RX3 83 "java/lang/IndexOutOfBoundsException", .initialized "java/lang/IndexOutOfBoundsException", .fieldLink RX3 36 "Ringroll" "campaignCount" "I", .methodLink RX3 55 yX3_needRange, .static yX3_needRange, .code yX3_needRange cX3_needRange 3 none, .classLink RX3 66 "java/lang/IllegalArgumentException", .initialized "java/lang/IllegalArgumentException"] ++ wsX00 ++ wsX30 ++ (vx_atS RX3 87 "java/lang/IndexOutOfBoundsException" ["java/lang/RuntimeException", "java/lang/Exception"]).filter goodWord ++ (vx_atS RX3 70 "java/lang/IllegalArgumentException" ["java/lang/RuntimeException", "java/lang/Exception"]).filter goodWord)
def wsX3_toggle : List Cond := .code yX3_toggle cX3_toggle 3 (some .boolean) :: ([.fieldLink RX3 151 "Ringroll$Campaign" "isActive" "Z", .fieldLink RX3 174 "Ringroll$Campaign" "ring" "I", .methodLink RX3 129 yX3_campaignAt, .instanceMethod yX3_campaignAt, .selects RX3 yX3_campaignAt yX3_campaignAt, .initialized RX3, .code yX3_campaignAt cX3_campaignAt 2 (some (.object "Ringroll$Campaign")), .fieldLink RX3 28 "Ringroll" "campaigns" "[LRingroll$Campaign;", .methodLink RX3 146 yX3_needCampaign, .instanceMethod yX3_needCampaign, .selects RX3 yX3_needCampaign yX3_needCampaign, .code yX3_needCampaign cX3_needCampaign 2 none, .classLink RX3 83 "java/lang/IndexOutOfBoundsException", .initialized "java/lang/IndexOutOfBoundsException", .fieldLink RX3 36 "Ringroll" "campaignCount" "I", .methodLink RX3 177 yX0_beginRing, .instanceMethod yX0_beginRing, .selects RX0 yX0_beginRing yX0_beginRing, .initialized RX0, .code yX0_beginRing cX0_beginRing 2 none, .fieldLink RX0 37 "Ringroll$Campaign" "ring" "I", .fieldLink RX0 40 "Ringroll$Campaign" "reports" "I", .fieldLink RX0 43 "Ringroll$Campaign" "failures" "I"] ++ wsX00 ++ wsX30 ++ (vx_atS RX3 87 "java/lang/IndexOutOfBoundsException" ["java/lang/RuntimeException", "java/lang/Exception"]).filter goodWord)
def wsX3_isActive : List Cond := .code yX3_isActive cX3_isActive 2 (some .boolean) :: ([.fieldLink RX3 151 "Ringroll$Campaign" "isActive" "Z", .methodLink RX3 129 yX3_campaignAt, .instanceMethod yX3_campaignAt, .selects RX3 yX3_campaignAt yX3_campaignAt, .initialized RX3, .code yX3_campaignAt cX3_campaignAt 2 (some (.object "Ringroll$Campaign")), .fieldLink RX3 28 "Ringroll" "campaigns" "[LRingroll$Campaign;", .methodLink RX3 146 yX3_needCampaign, .instanceMethod yX3_needCampaign, .selects RX3 yX3_needCampaign yX3_needCampaign, .code yX3_needCampaign cX3_needCampaign 2 none, .classLink RX3 83 "java/lang/IndexOutOfBoundsException", .initialized "java/lang/IndexOutOfBoundsException", .fieldLink RX3 36 "Ringroll" "campaignCount" "I"] ++ wsX00 ++ wsX30 ++ (vx_atS RX3 87 "java/lang/IndexOutOfBoundsException" ["java/lang/RuntimeException", "java/lang/Exception"]).filter goodWord)
def wsX3_ring : List Cond := .code yX3_ring cX3_ring 2 (some .int) :: ([.fieldLink RX3 174 "Ringroll$Campaign" "ring" "I", .methodLink RX3 129 yX3_campaignAt, .instanceMethod yX3_campaignAt, .selects RX3 yX3_campaignAt yX3_campaignAt, .initialized RX3, .code yX3_campaignAt cX3_campaignAt 2 (some (.object "Ringroll$Campaign")), .fieldLink RX3 28 "Ringroll" "campaigns" "[LRingroll$Campaign;", .methodLink RX3 146 yX3_needCampaign, .instanceMethod yX3_needCampaign, .selects RX3 yX3_needCampaign yX3_needCampaign, .code yX3_needCampaign cX3_needCampaign 2 none, .classLink RX3 83 "java/lang/IndexOutOfBoundsException", .initialized "java/lang/IndexOutOfBoundsException", .fieldLink RX3 36 "Ringroll" "campaignCount" "I"] ++ wsX00 ++ wsX30 ++ (vx_atS RX3 87 "java/lang/IndexOutOfBoundsException" ["java/lang/RuntimeException", "java/lang/Exception"]).filter goodWord)
def wsX3_reports : List Cond := .code yX3_reports cX3_reports 2 (some .int) :: ([.fieldLink RX3 180 "Ringroll$Campaign" "reports" "I", .methodLink RX3 129 yX3_campaignAt, .instanceMethod yX3_campaignAt, .selects RX3 yX3_campaignAt yX3_campaignAt, .initialized RX3, .code yX3_campaignAt cX3_campaignAt 2 (some (.object "Ringroll$Campaign")), .fieldLink RX3 28 "Ringroll" "campaigns" "[LRingroll$Campaign;", .methodLink RX3 146 yX3_needCampaign, .instanceMethod yX3_needCampaign, .selects RX3 yX3_needCampaign yX3_needCampaign, .code yX3_needCampaign cX3_needCampaign 2 none, .classLink RX3 83 "java/lang/IndexOutOfBoundsException", .initialized "java/lang/IndexOutOfBoundsException", .fieldLink RX3 36 "Ringroll" "campaignCount" "I"] ++ wsX00 ++ wsX30 ++ (vx_atS RX3 87 "java/lang/IndexOutOfBoundsException" ["java/lang/RuntimeException", "java/lang/Exception"]).filter goodWord)
def wsX3_mayTake_r1 : List Cond := [Cond.fieldLink RX3 121 "Ringroll$Device" "state" "I", Cond.fieldLink RX3 9 "Ringroll" "kindsOfVersion" "[I", Cond.fieldLink RX3 133 "Ringroll$Campaign" "target" "I", Cond.fieldLink RX3 99 "Ringroll$Device" "kind" "I", Cond.fieldLink RX3 16 "Ringroll" "ways" "LRingroll$Ways;", Cond.fieldLink RX3 102 "Ringroll$Device" "version" "I", Cond.methodLink RX3 206 yX0_isFor, Cond.instanceMethod yX0_isFor, Cond.selects RX0 yX0_isFor yX0_isFor, Cond.initialized RX0, Cond.code yX0_isFor cX0_isFor 2 (some .boolean), Cond.fieldLink RX0 33 "Ringroll$Campaign" "isActive" "Z", Cond.fieldLink RX0 15 "Ringroll$Campaign" "kinds" "I", Cond.fieldLink RX0 52 "Ringroll$Device" "kind" "I", Cond.fieldLink RX0 18 "Ringroll$Campaign" "versions" "I", Cond.fieldLink RX0 61 "Ringroll$Device" "version" "I", Cond.fieldLink RX0 9 "Ringroll$Campaign" "target" "I", Cond.fieldLink RX0 46 "Ringroll$Campaign" "reporters" "I", Cond.fieldLink RX0 72 "Ringroll$Device" "number" "I", Cond.static yX3_has, Cond.initialized RX3, Cond.code yX3_has cX3_has 2 (some .boolean), Cond.methodLink RX0 64 yX0_drawOf, Cond.instanceMethod yX0_drawOf]
def wsX3_mayTake_r2 : List Cond := [Cond.selects RX0 yX0_drawOf yX0_drawOf, Cond.code yX0_drawOf cX0_drawOf 2 (some .int), Cond.fieldLink RX0 49 "Ringroll$Campaign" "number" "I", Cond.methodLink RX0 68 yX0_share, Cond.instanceMethod yX0_share, Cond.selects RX0 yX0_share yX0_share, Cond.code yX0_share cX0_share 1 (some .int), Cond.fieldLink RX0 37 "Ringroll$Campaign" "ring" "I", Cond.fieldLink RX0 21 "Ringroll$Campaign" "firstShare" "I", Cond.fieldLink RX0 24 "Ringroll$Campaign" "secondShare" "I", Cond.methodLink RX3 93 yX3_has, Cond.methodLink RX3 77 yX2_leastBytes, Cond.instanceMethod yX2_leastBytes, Cond.selects RX2 yX2_leastBytes yX2_leastBytes, Cond.initialized RX2, Cond.code yX2_leastBytes cX2_leastBytes 3 (some .int), Cond.fieldLink RX2 20 "Ringroll$Ways" "leastByDeltas" "[[I", Cond.fieldLink RX2 23 "Ringroll$Ways" "leastByImage" "[I", Cond.methodLink RX2 35 Lib.Math.min.name, Cond.static Lib.Math.min.name, Cond.initialized "java/lang/Math", Cond.code Lib.Math.min.name Lib.Math.min.code 2 (some .int), Cond.methodLink RX2 41 yX2_orNone, Cond.static yX2_orNone]
def wsX3_mayTake_r3 : List Cond := [Cond.code yX2_orNone cX2_orNone 1 (some .int), Cond.constant RX2 49 (1000000)]
def wsX3_mayTake : List Cond := .code yX3_mayTake cX3_mayTake 3 (some .boolean) :: ((wsX3_mayTake_r1 ++ (wsX3_mayTake_r2 ++ wsX3_mayTake_r3)) ++ wsX10 ++ wsX30 ++ wsX00 ++ wsX20)
def wsX3_eligible_r1 : List Cond := [Cond.fieldLink RX3 32 "Ringroll" "deviceCount" "I", Cond.fieldLink RX3 22 "Ringroll" "fleet" "[LRingroll$Device;", Cond.methodLink RX3 129 yX3_campaignAt, Cond.instanceMethod yX3_campaignAt, Cond.selects RX3 yX3_campaignAt yX3_campaignAt, Cond.initialized RX3, Cond.code yX3_campaignAt cX3_campaignAt 2 (some (.object "Ringroll$Campaign")), Cond.fieldLink RX3 28 "Ringroll" "campaigns" "[LRingroll$Campaign;", Cond.methodLink RX3 146 yX3_needCampaign, Cond.instanceMethod yX3_needCampaign, Cond.selects RX3 yX3_needCampaign yX3_needCampaign, Cond.code yX3_needCampaign cX3_needCampaign 2 none, Cond.classLink RX3 83 "java/lang/IndexOutOfBoundsException", Cond.initialized "java/lang/IndexOutOfBoundsException", Cond.fieldLink RX3 36 "Ringroll" "campaignCount" "I", Cond.methodLink RX3 183 yX3_mayTake, Cond.instanceMethod yX3_mayTake, Cond.selects RX3 yX3_mayTake yX3_mayTake, Cond.code yX3_mayTake cX3_mayTake 3 (some .boolean), Cond.fieldLink RX3 121 "Ringroll$Device" "state" "I", Cond.fieldLink RX3 9 "Ringroll" "kindsOfVersion" "[I", Cond.fieldLink RX3 133 "Ringroll$Campaign" "target" "I", Cond.fieldLink RX3 99 "Ringroll$Device" "kind" "I", Cond.fieldLink RX3 16 "Ringroll" "ways" "LRingroll$Ways;"]
def wsX3_eligible_r2 : List Cond := [Cond.fieldLink RX3 102 "Ringroll$Device" "version" "I", Cond.methodLink RX3 206 yX0_isFor, Cond.instanceMethod yX0_isFor, Cond.selects RX0 yX0_isFor yX0_isFor, Cond.initialized RX0, Cond.code yX0_isFor cX0_isFor 2 (some .boolean), Cond.fieldLink RX0 33 "Ringroll$Campaign" "isActive" "Z", Cond.fieldLink RX0 15 "Ringroll$Campaign" "kinds" "I", Cond.fieldLink RX0 52 "Ringroll$Device" "kind" "I", Cond.fieldLink RX0 18 "Ringroll$Campaign" "versions" "I", Cond.fieldLink RX0 61 "Ringroll$Device" "version" "I", Cond.fieldLink RX0 9 "Ringroll$Campaign" "target" "I", Cond.fieldLink RX0 46 "Ringroll$Campaign" "reporters" "I", Cond.fieldLink RX0 72 "Ringroll$Device" "number" "I", Cond.static yX3_has, Cond.code yX3_has cX3_has 2 (some .boolean), Cond.methodLink RX0 64 yX0_drawOf, Cond.instanceMethod yX0_drawOf, Cond.selects RX0 yX0_drawOf yX0_drawOf, Cond.code yX0_drawOf cX0_drawOf 2 (some .int), Cond.fieldLink RX0 49 "Ringroll$Campaign" "number" "I", Cond.methodLink RX0 68 yX0_share, Cond.instanceMethod yX0_share, Cond.selects RX0 yX0_share yX0_share]
def wsX3_eligible_r3 : List Cond := [Cond.code yX0_share cX0_share 1 (some .int), Cond.fieldLink RX0 37 "Ringroll$Campaign" "ring" "I", Cond.fieldLink RX0 21 "Ringroll$Campaign" "firstShare" "I", Cond.fieldLink RX0 24 "Ringroll$Campaign" "secondShare" "I", Cond.methodLink RX3 93 yX3_has, Cond.methodLink RX3 77 yX2_leastBytes, Cond.instanceMethod yX2_leastBytes, Cond.selects RX2 yX2_leastBytes yX2_leastBytes, Cond.initialized RX2, Cond.code yX2_leastBytes cX2_leastBytes 3 (some .int), Cond.fieldLink RX2 20 "Ringroll$Ways" "leastByDeltas" "[[I", Cond.fieldLink RX2 23 "Ringroll$Ways" "leastByImage" "[I", Cond.methodLink RX2 35 Lib.Math.min.name, Cond.static Lib.Math.min.name, Cond.initialized "java/lang/Math", Cond.code Lib.Math.min.name Lib.Math.min.code 2 (some .int), Cond.methodLink RX2 41 yX2_orNone, Cond.static yX2_orNone, Cond.code yX2_orNone cX2_orNone 1 (some .int), Cond.constant RX2 49 (1000000)]
def wsX3_eligible : List Cond := .code yX3_eligible cX3_eligible 5 (some .int) :: ((wsX3_eligible_r1 ++ (wsX3_eligible_r2 ++ wsX3_eligible_r3)) ++ wsX30 ++ wsX10 ++ wsX00 ++ wsX20 ++ (vx_atS RX3 87 "java/lang/IndexOutOfBoundsException" ["java/lang/RuntimeException", "java/lang/Exception"]).filter goodWord)
def wsX3_takeLowestCampaign_r1 : List Cond := [Cond.fieldLink RX3 36 "Ringroll" "campaignCount" "I", Cond.fieldLink RX3 28 "Ringroll" "campaigns" "[LRingroll$Campaign;", Cond.fieldLink RX3 16 "Ringroll" "ways" "LRingroll$Ways;", Cond.fieldLink RX3 102 "Ringroll$Device" "version" "I", Cond.fieldLink RX3 133 "Ringroll$Campaign" "target" "I", Cond.methodLink RX3 183 yX3_mayTake, Cond.instanceMethod yX3_mayTake, Cond.selects RX3 yX3_mayTake yX3_mayTake, Cond.initialized RX3, Cond.code yX3_mayTake cX3_mayTake 3 (some .boolean), Cond.fieldLink RX3 121 "Ringroll$Device" "state" "I", Cond.fieldLink RX3 9 "Ringroll" "kindsOfVersion" "[I", Cond.fieldLink RX3 99 "Ringroll$Device" "kind" "I", Cond.methodLink RX3 206 yX0_isFor, Cond.instanceMethod yX0_isFor, Cond.selects RX0 yX0_isFor yX0_isFor, Cond.initialized RX0, Cond.code yX0_isFor cX0_isFor 2 (some .boolean), Cond.fieldLink RX0 33 "Ringroll$Campaign" "isActive" "Z", Cond.fieldLink RX0 15 "Ringroll$Campaign" "kinds" "I", Cond.fieldLink RX0 52 "Ringroll$Device" "kind" "I", Cond.fieldLink RX0 18 "Ringroll$Campaign" "versions" "I", Cond.fieldLink RX0 61 "Ringroll$Device" "version" "I", Cond.fieldLink RX0 9 "Ringroll$Campaign" "target" "I"]
def wsX3_takeLowestCampaign_r2 : List Cond := [Cond.fieldLink RX0 46 "Ringroll$Campaign" "reporters" "I", Cond.fieldLink RX0 72 "Ringroll$Device" "number" "I", Cond.static yX3_has, Cond.code yX3_has cX3_has 2 (some .boolean), Cond.methodLink RX0 64 yX0_drawOf, Cond.instanceMethod yX0_drawOf, Cond.selects RX0 yX0_drawOf yX0_drawOf, Cond.code yX0_drawOf cX0_drawOf 2 (some .int), Cond.fieldLink RX0 49 "Ringroll$Campaign" "number" "I", Cond.methodLink RX0 68 yX0_share, Cond.instanceMethod yX0_share, Cond.selects RX0 yX0_share yX0_share, Cond.code yX0_share cX0_share 1 (some .int), Cond.fieldLink RX0 37 "Ringroll$Campaign" "ring" "I", Cond.fieldLink RX0 21 "Ringroll$Campaign" "firstShare" "I", Cond.fieldLink RX0 24 "Ringroll$Campaign" "secondShare" "I", Cond.methodLink RX3 93 yX3_has, Cond.methodLink RX3 77 yX2_leastBytes, Cond.instanceMethod yX2_leastBytes, Cond.selects RX2 yX2_leastBytes yX2_leastBytes, Cond.initialized RX2, Cond.code yX2_leastBytes cX2_leastBytes 3 (some .int), Cond.fieldLink RX2 20 "Ringroll$Ways" "leastByDeltas" "[[I", Cond.fieldLink RX2 23 "Ringroll$Ways" "leastByImage" "[I"]
def wsX3_takeLowestCampaign_r3 : List Cond := [Cond.methodLink RX2 35 Lib.Math.min.name, Cond.static Lib.Math.min.name, Cond.initialized "java/lang/Math", Cond.code Lib.Math.min.name Lib.Math.min.code 2 (some .int), Cond.methodLink RX2 41 yX2_orNone, Cond.static yX2_orNone, Cond.code yX2_orNone cX2_orNone 1 (some .int), Cond.constant RX2 49 (1000000), Cond.methodLink RX3 202 yX1_take, Cond.instanceMethod yX1_take, Cond.selects RX1 yX1_take yX1_take, Cond.initialized RX1, Cond.code yX1_take cX1_take 3 none, Cond.fieldLink RX1 27 "Ringroll$Device" "state" "I", Cond.fieldLink RX1 39 "Ringroll$Campaign" "number" "I", Cond.fieldLink RX1 30 "Ringroll$Device" "campaign" "I", Cond.fieldLink RX1 33 "Ringroll$Device" "bytesToGo" "I"]
def wsX3_takeLowestCampaign : List Cond := .code yX3_takeLowestCampaign cX3_takeLowestCampaign 4 none :: ((wsX3_takeLowestCampaign_r1 ++ (wsX3_takeLowestCampaign_r2 ++ wsX3_takeLowestCampaign_r3)) ++ wsX30 ++ wsX10 ++ wsX00 ++ wsX20)
def wsX3_passOneHour_r1 : List Cond := [Cond.fieldLink RX3 32 "Ringroll" "deviceCount" "I", Cond.fieldLink RX3 22 "Ringroll" "fleet" "[LRingroll$Device;", Cond.fieldLink RX3 39 "Ringroll" "hourOfDay" "I", Cond.fieldLink RX3 121 "Ringroll$Device" "state" "I", Cond.methodLink RX3 191 yX3_takeLowestCampaign, Cond.instanceMethod yX3_takeLowestCampaign, Cond.selects RX3 yX3_takeLowestCampaign yX3_takeLowestCampaign, Cond.initialized RX3, Cond.code yX3_takeLowestCampaign cX3_takeLowestCampaign 4 none, Cond.fieldLink RX3 36 "Ringroll" "campaignCount" "I", Cond.fieldLink RX3 28 "Ringroll" "campaigns" "[LRingroll$Campaign;", Cond.fieldLink RX3 16 "Ringroll" "ways" "LRingroll$Ways;", Cond.fieldLink RX3 102 "Ringroll$Device" "version" "I", Cond.fieldLink RX3 133 "Ringroll$Campaign" "target" "I", Cond.methodLink RX3 183 yX3_mayTake, Cond.instanceMethod yX3_mayTake, Cond.selects RX3 yX3_mayTake yX3_mayTake, Cond.code yX3_mayTake cX3_mayTake 3 (some .boolean), Cond.fieldLink RX3 9 "Ringroll" "kindsOfVersion" "[I", Cond.fieldLink RX3 99 "Ringroll$Device" "kind" "I", Cond.methodLink RX3 206 yX0_isFor, Cond.instanceMethod yX0_isFor, Cond.selects RX0 yX0_isFor yX0_isFor, Cond.initialized RX0]
def wsX3_passOneHour_r2 : List Cond := [Cond.code yX0_isFor cX0_isFor 2 (some .boolean), Cond.fieldLink RX0 33 "Ringroll$Campaign" "isActive" "Z", Cond.fieldLink RX0 15 "Ringroll$Campaign" "kinds" "I", Cond.fieldLink RX0 52 "Ringroll$Device" "kind" "I", Cond.fieldLink RX0 18 "Ringroll$Campaign" "versions" "I", Cond.fieldLink RX0 61 "Ringroll$Device" "version" "I", Cond.fieldLink RX0 9 "Ringroll$Campaign" "target" "I", Cond.fieldLink RX0 46 "Ringroll$Campaign" "reporters" "I", Cond.fieldLink RX0 72 "Ringroll$Device" "number" "I", Cond.static yX3_has, Cond.code yX3_has cX3_has 2 (some .boolean), Cond.methodLink RX0 64 yX0_drawOf, Cond.instanceMethod yX0_drawOf, Cond.selects RX0 yX0_drawOf yX0_drawOf, Cond.code yX0_drawOf cX0_drawOf 2 (some .int), Cond.fieldLink RX0 49 "Ringroll$Campaign" "number" "I", Cond.methodLink RX0 68 yX0_share, Cond.instanceMethod yX0_share, Cond.selects RX0 yX0_share yX0_share, Cond.code yX0_share cX0_share 1 (some .int), Cond.fieldLink RX0 37 "Ringroll$Campaign" "ring" "I", Cond.fieldLink RX0 21 "Ringroll$Campaign" "firstShare" "I", Cond.fieldLink RX0 24 "Ringroll$Campaign" "secondShare" "I", Cond.methodLink RX3 93 yX3_has]
def wsX3_passOneHour_r3 : List Cond := [Cond.methodLink RX3 77 yX2_leastBytes, Cond.instanceMethod yX2_leastBytes, Cond.selects RX2 yX2_leastBytes yX2_leastBytes, Cond.initialized RX2, Cond.code yX2_leastBytes cX2_leastBytes 3 (some .int), Cond.fieldLink RX2 20 "Ringroll$Ways" "leastByDeltas" "[[I", Cond.fieldLink RX2 23 "Ringroll$Ways" "leastByImage" "[I", Cond.methodLink RX2 35 Lib.Math.min.name, Cond.static Lib.Math.min.name, Cond.initialized "java/lang/Math", Cond.code Lib.Math.min.name Lib.Math.min.code 2 (some .int), Cond.methodLink RX2 41 yX2_orNone, Cond.static yX2_orNone, Cond.code yX2_orNone cX2_orNone 1 (some .int), Cond.constant RX2 49 (1000000), Cond.methodLink RX3 202 yX1_take, Cond.instanceMethod yX1_take, Cond.selects RX1 yX1_take yX1_take, Cond.initialized RX1, Cond.code yX1_take cX1_take 3 none, Cond.fieldLink RX1 27 "Ringroll$Device" "state" "I", Cond.fieldLink RX1 39 "Ringroll$Campaign" "number" "I", Cond.fieldLink RX1 30 "Ringroll$Device" "campaign" "I", Cond.fieldLink RX1 33 "Ringroll$Device" "bytesToGo" "I"]
def wsX3_passOneHour_r4 : List Cond := [Cond.methodLink RX3 195 yX1_canLoad, Cond.instanceMethod yX1_canLoad, Cond.selects RX1 yX1_canLoad yX1_canLoad, Cond.code yX1_canLoad cX1_canLoad 2 (some .boolean), Cond.fieldLink RX1 18 "Ringroll$Device" "battery" "I", Cond.methodLink RX1 42 yX1_isInWindow, Cond.instanceMethod yX1_isInWindow, Cond.selects RX1 yX1_isInWindow yX1_isInWindow, Cond.code yX1_isInWindow cX1_isInWindow 2 (some .boolean), Cond.fieldLink RX1 21 "Ringroll$Device" "firstHour" "I", Cond.fieldLink RX1 24 "Ringroll$Device" "lastHour" "I", Cond.methodLink RX3 199 yX1_load, Cond.instanceMethod yX1_load, Cond.selects RX1 yX1_load yX1_load, Cond.code yX1_load cX1_load 1 none, Cond.methodLink RX1 46 Lib.Math.max.name, Cond.static Lib.Math.max.name, Cond.code Lib.Math.max.name Lib.Math.max.code 2 (some .int)]
def wsX3_passOneHour : List Cond := .code yX3_passOneHour cX3_passOneHour 4 (some .int) :: ((wsX3_passOneHour_r1 ++ (wsX3_passOneHour_r2 ++ (wsX3_passOneHour_r3 ++ wsX3_passOneHour_r4))) ++ wsX30 ++ wsX10 ++ wsX00 ++ wsX20)
def wsX3_pass_r1 : List Cond := [Cond.methodLink RX3 55 yX3_needRange, Cond.static yX3_needRange, Cond.initialized RX3, Cond.code yX3_needRange cX3_needRange 3 none, Cond.classLink RX3 66 "java/lang/IllegalArgumentException", Cond.initialized "java/lang/IllegalArgumentException", Cond.methodLink RX3 187 yX3_passOneHour, Cond.instanceMethod yX3_passOneHour, Cond.selects RX3 yX3_passOneHour yX3_passOneHour, Cond.code yX3_passOneHour cX3_passOneHour 4 (some .int), Cond.fieldLink RX3 32 "Ringroll" "deviceCount" "I", Cond.fieldLink RX3 22 "Ringroll" "fleet" "[LRingroll$Device;", Cond.fieldLink RX3 39 "Ringroll" "hourOfDay" "I", Cond.fieldLink RX3 121 "Ringroll$Device" "state" "I", Cond.methodLink RX3 191 yX3_takeLowestCampaign, Cond.instanceMethod yX3_takeLowestCampaign, Cond.selects RX3 yX3_takeLowestCampaign yX3_takeLowestCampaign, Cond.code yX3_takeLowestCampaign cX3_takeLowestCampaign 4 none, Cond.fieldLink RX3 36 "Ringroll" "campaignCount" "I", Cond.fieldLink RX3 28 "Ringroll" "campaigns" "[LRingroll$Campaign;", Cond.fieldLink RX3 16 "Ringroll" "ways" "LRingroll$Ways;", Cond.fieldLink RX3 102 "Ringroll$Device" "version" "I", Cond.fieldLink RX3 133 "Ringroll$Campaign" "target" "I", Cond.methodLink RX3 183 yX3_mayTake]
def wsX3_pass_r2 : List Cond := [Cond.instanceMethod yX3_mayTake, Cond.selects RX3 yX3_mayTake yX3_mayTake, Cond.code yX3_mayTake cX3_mayTake 3 (some .boolean), Cond.fieldLink RX3 9 "Ringroll" "kindsOfVersion" "[I", Cond.fieldLink RX3 99 "Ringroll$Device" "kind" "I", Cond.methodLink RX3 206 yX0_isFor, Cond.instanceMethod yX0_isFor, Cond.selects RX0 yX0_isFor yX0_isFor, Cond.initialized RX0, Cond.code yX0_isFor cX0_isFor 2 (some .boolean), Cond.fieldLink RX0 33 "Ringroll$Campaign" "isActive" "Z", Cond.fieldLink RX0 15 "Ringroll$Campaign" "kinds" "I", Cond.fieldLink RX0 52 "Ringroll$Device" "kind" "I", Cond.fieldLink RX0 18 "Ringroll$Campaign" "versions" "I", Cond.fieldLink RX0 61 "Ringroll$Device" "version" "I", Cond.fieldLink RX0 9 "Ringroll$Campaign" "target" "I", Cond.fieldLink RX0 46 "Ringroll$Campaign" "reporters" "I", Cond.fieldLink RX0 72 "Ringroll$Device" "number" "I", Cond.static yX3_has, Cond.code yX3_has cX3_has 2 (some .boolean), Cond.methodLink RX0 64 yX0_drawOf, Cond.instanceMethod yX0_drawOf, Cond.selects RX0 yX0_drawOf yX0_drawOf, Cond.code yX0_drawOf cX0_drawOf 2 (some .int)]
def wsX3_pass_r3 : List Cond := [Cond.fieldLink RX0 49 "Ringroll$Campaign" "number" "I", Cond.methodLink RX0 68 yX0_share, Cond.instanceMethod yX0_share, Cond.selects RX0 yX0_share yX0_share, Cond.code yX0_share cX0_share 1 (some .int), Cond.fieldLink RX0 37 "Ringroll$Campaign" "ring" "I", Cond.fieldLink RX0 21 "Ringroll$Campaign" "firstShare" "I", Cond.fieldLink RX0 24 "Ringroll$Campaign" "secondShare" "I", Cond.methodLink RX3 93 yX3_has, Cond.methodLink RX3 77 yX2_leastBytes, Cond.instanceMethod yX2_leastBytes, Cond.selects RX2 yX2_leastBytes yX2_leastBytes, Cond.initialized RX2, Cond.code yX2_leastBytes cX2_leastBytes 3 (some .int), Cond.fieldLink RX2 20 "Ringroll$Ways" "leastByDeltas" "[[I", Cond.fieldLink RX2 23 "Ringroll$Ways" "leastByImage" "[I", Cond.methodLink RX2 35 Lib.Math.min.name, Cond.static Lib.Math.min.name, Cond.initialized "java/lang/Math", Cond.code Lib.Math.min.name Lib.Math.min.code 2 (some .int), Cond.methodLink RX2 41 yX2_orNone, Cond.static yX2_orNone, Cond.code yX2_orNone cX2_orNone 1 (some .int), Cond.constant RX2 49 (1000000)]
def wsX3_pass_r4 : List Cond := [Cond.methodLink RX3 202 yX1_take, Cond.instanceMethod yX1_take, Cond.selects RX1 yX1_take yX1_take, Cond.initialized RX1, Cond.code yX1_take cX1_take 3 none, Cond.fieldLink RX1 27 "Ringroll$Device" "state" "I", Cond.fieldLink RX1 39 "Ringroll$Campaign" "number" "I", Cond.fieldLink RX1 30 "Ringroll$Device" "campaign" "I", Cond.fieldLink RX1 33 "Ringroll$Device" "bytesToGo" "I", Cond.methodLink RX3 195 yX1_canLoad, Cond.instanceMethod yX1_canLoad, Cond.selects RX1 yX1_canLoad yX1_canLoad, Cond.code yX1_canLoad cX1_canLoad 2 (some .boolean), Cond.fieldLink RX1 18 "Ringroll$Device" "battery" "I", Cond.methodLink RX1 42 yX1_isInWindow, Cond.instanceMethod yX1_isInWindow, Cond.selects RX1 yX1_isInWindow yX1_isInWindow, Cond.code yX1_isInWindow cX1_isInWindow 2 (some .boolean), Cond.fieldLink RX1 21 "Ringroll$Device" "firstHour" "I", Cond.fieldLink RX1 24 "Ringroll$Device" "lastHour" "I", Cond.methodLink RX3 199 yX1_load, Cond.instanceMethod yX1_load, Cond.selects RX1 yX1_load yX1_load, Cond.code yX1_load cX1_load 1 none]
def wsX3_pass_r5 : List Cond := [Cond.methodLink RX1 46 Lib.Math.max.name, Cond.static Lib.Math.max.name, Cond.code Lib.Math.max.name Lib.Math.max.code 2 (some .int)]
def wsX3_pass : List Cond := .code yX3_pass cX3_pass 4 (some .int) :: ((wsX3_pass_r1 ++ (wsX3_pass_r2 ++ (wsX3_pass_r3 ++ (wsX3_pass_r4 ++ wsX3_pass_r5)))) ++ wsX30 ++ wsX10 ++ wsX00 ++ wsX20 ++ (vx_atS RX3 70 "java/lang/IllegalArgumentException" ["java/lang/RuntimeException", "java/lang/Exception"]).filter goodWord)
def wsX4_init_r1 : List Cond := [Cond.methodLink RX4 1 objectInit, Cond.instanceMethod objectInit, Cond.code objectInit ⟨#[0xb1]⟩ 1 none, Cond.arrayClass .int, Cond.fieldLink RX4 7 "RingrollModel" "allowed" "[I", Cond.fieldLink RX4 13 "RingrollModel" "images" "[I", Cond.fieldLink RX4 16 "RingrollModel" "deltas" "[I", Cond.fieldLink RX4 19 "RingrollModel" "reached" "[I", Cond.fieldLink RX4 22 "RingrollModel" "kinds" "[I", Cond.fieldLink RX4 25 "RingrollModel" "versions" "[I", Cond.fieldLink RX4 28 "RingrollModel" "batteries" "[I", Cond.fieldLink RX4 31 "RingrollModel" "froms" "[I", Cond.fieldLink RX4 34 "RingrollModel" "tos" "[I", Cond.fieldLink RX4 37 "RingrollModel" "states" "[I", Cond.fieldLink RX4 40 "RingrollModel" "taken" "[I", Cond.fieldLink RX4 43 "RingrollModel" "left" "[I", Cond.fieldLink RX4 46 "RingrollModel" "targets" "[I", Cond.fieldLink RX4 49 "RingrollModel" "forKinds" "[I", Cond.fieldLink RX4 52 "RingrollModel" "forVersions" "[I", Cond.arrayClass .boolean, Cond.fieldLink RX4 55 "RingrollModel" "isActive" "[Z", Cond.fieldLink RX4 59 "RingrollModel" "rings" "[I", Cond.fieldLink RX4 62 "RingrollModel" "shares" "[I", Cond.fieldLink RX4 65 "RingrollModel" "needs" "[I"]
def wsX4_init_r2 : List Cond := [Cond.fieldLink RX4 68 "RingrollModel" "bears" "[I", Cond.fieldLink RX4 71 "RingrollModel" "reports" "[I", Cond.fieldLink RX4 74 "RingrollModel" "failures" "[I", Cond.fieldLink RX4 77 "RingrollModel" "reporters" "[I"]
def wsX4_init : List Cond := .code yX4_init cX4_init 2 none :: ((wsX4_init_r1 ++ wsX4_init_r2) ++ wsX40)
def wsX4_thrown : List Cond := .code yX4_thrown cX4_thrown 1 (some .int) :: ([.fieldLink RX4 80 "RingrollModel" "refusal" "I"] ++ wsX40)
def wsX4_refused : List Cond := .code yX4_refused cX4_refused 2 (some .boolean) :: ([.fieldLink RX4 80 "RingrollModel" "refusal" "I"] ++ wsX40)
def wsX4_fine : List Cond := .code yX4_fine cX4_fine 2 (some .int) :: ([.fieldLink RX4 80 "RingrollModel" "refusal" "I"] ++ wsX40)
def wsX4_in : List Cond := .code yX4_in cX4_in 3 (some .boolean) :: ([])
def wsX4_isVersion : List Cond := .code yX4_isVersion cX4_isVersion 1 (some .boolean) :: ([.methodLink RX4 84 yX4_in, .static yX4_in, .initialized RX4, .code yX4_in cX4_in 3 (some .boolean)])
def wsX4_isSize : List Cond := .code yX4_isSize cX4_isSize 1 (some .boolean) :: ([.constant RX4 88 (100000), .methodLink RX4 84 yX4_in, .static yX4_in, .initialized RX4, .code yX4_in cX4_in 3 (some .boolean)])
def wsX4_isDevice : List Cond := .code yX4_isDevice cX4_isDevice 2 (some .boolean) :: ([.fieldLink RX4 89 "RingrollModel" "devices" "I", .methodLink RX4 84 yX4_in, .static yX4_in, .initialized RX4, .code yX4_in cX4_in 3 (some .boolean)] ++ wsX40)
def wsX4_isCampaign : List Cond := .code yX4_isCampaign cX4_isCampaign 2 (some .boolean) :: ([.fieldLink RX4 92 "RingrollModel" "campaigns" "I", .methodLink RX4 84 yX4_in, .static yX4_in, .initialized RX4, .code yX4_in cX4_in 3 (some .boolean)] ++ wsX40)
def wsX4_allow : List Cond := .code yX4_allow cX4_allow 4 (some .int) :: ([.fieldLink RX4 7 "RingrollModel" "allowed" "[I", .methodLink RX4 95 yX4_isVersion, .static yX4_isVersion, .initialized RX4, .code yX4_isVersion cX4_isVersion 1 (some .boolean), .methodLink RX4 84 yX4_in, .static yX4_in, .code yX4_in cX4_in 3 (some .boolean), .methodLink RX4 99 yX4_refused, .instanceMethod yX4_refused, .selects RX4 yX4_refused yX4_refused, .code yX4_refused cX4_refused 2 (some .boolean), .fieldLink RX4 80 "RingrollModel" "refusal" "I"] ++ wsX40)
def wsX4_setImage : List Cond := .code yX4_setImage cX4_setImage 4 (some .int) :: ([.fieldLink RX4 13 "RingrollModel" "images" "[I", .methodLink RX4 95 yX4_isVersion, .static yX4_isVersion, .initialized RX4, .code yX4_isVersion cX4_isVersion 1 (some .boolean), .methodLink RX4 84 yX4_in, .static yX4_in, .code yX4_in cX4_in 3 (some .boolean), .methodLink RX4 102 yX4_isSize, .static yX4_isSize, .code yX4_isSize cX4_isSize 1 (some .boolean), .constant RX4 88 (100000), .methodLink RX4 99 yX4_refused, .instanceMethod yX4_refused, .selects RX4 yX4_refused yX4_refused, .code yX4_refused cX4_refused 2 (some .boolean), .fieldLink RX4 80 "RingrollModel" "refusal" "I"] ++ wsX40)
def wsX4_setDelta : List Cond := .code yX4_setDelta cX4_setDelta 6 (some .int) :: ([.fieldLink RX4 16 "RingrollModel" "deltas" "[I", .methodLink RX4 95 yX4_isVersion, .static yX4_isVersion, .initialized RX4, .code yX4_isVersion cX4_isVersion 1 (some .boolean), .methodLink RX4 84 yX4_in, .static yX4_in, .code yX4_in cX4_in 3 (some .boolean), .methodLink RX4 102 yX4_isSize, .static yX4_isSize, .code yX4_isSize cX4_isSize 1 (some .boolean), .constant RX4 88 (100000), .methodLink RX4 99 yX4_refused, .instanceMethod yX4_refused, .selects RX4 yX4_refused yX4_refused, .code yX4_refused cX4_refused 2 (some .boolean), .fieldLink RX4 80 "RingrollModel" "refusal" "I"] ++ wsX40)
def wsX4_sizeOf : List Cond := .code yX4_sizeOf cX4_sizeOf 5 (some .int) :: ([.fieldLink RX4 19 "RingrollModel" "reached" "[I", .fieldLink RX4 13 "RingrollModel" "images" "[I", .constant RX4 105 (100000000), .fieldLink RX4 16 "RingrollModel" "deltas" "[I"] ++ wsX40)
def wsX4_size : List Cond := .code yX4_size cX4_size 3 (some .int) :: ([.methodLink RX4 95 yX4_isVersion, .static yX4_isVersion, .initialized RX4, .code yX4_isVersion cX4_isVersion 1 (some .boolean), .methodLink RX4 84 yX4_in, .static yX4_in, .code yX4_in cX4_in 3 (some .boolean), .methodLink RX4 99 yX4_refused, .instanceMethod yX4_refused, .selects RX4 yX4_refused yX4_refused, .code yX4_refused cX4_refused 2 (some .boolean), .fieldLink RX4 80 "RingrollModel" "refusal" "I", .methodLink RX4 106 yX4_sizeOf, .instanceMethod yX4_sizeOf, .selects RX4 yX4_sizeOf yX4_sizeOf, .code yX4_sizeOf cX4_sizeOf 5 (some .int), .fieldLink RX4 19 "RingrollModel" "reached" "[I", .fieldLink RX4 13 "RingrollModel" "images" "[I", .constant RX4 105 (100000000), .fieldLink RX4 16 "RingrollModel" "deltas" "[I"] ++ wsX40)
def wsX4_sizeByWays : List Cond := .code yX4_sizeByWays cX4_sizeByWays 3 (some .int) :: ([.methodLink RX4 110 yX4_size, .instanceMethod yX4_size, .selects RX4 yX4_size yX4_size, .initialized RX4, .code yX4_size cX4_size 3 (some .int), .methodLink RX4 95 yX4_isVersion, .static yX4_isVersion, .code yX4_isVersion cX4_isVersion 1 (some .boolean), .methodLink RX4 84 yX4_in, .static yX4_in, .code yX4_in cX4_in 3 (some .boolean), .methodLink RX4 99 yX4_refused, .instanceMethod yX4_refused, .selects RX4 yX4_refused yX4_refused, .code yX4_refused cX4_refused 2 (some .boolean), .fieldLink RX4 80 "RingrollModel" "refusal" "I", .methodLink RX4 106 yX4_sizeOf, .instanceMethod yX4_sizeOf, .selects RX4 yX4_sizeOf yX4_sizeOf, .code yX4_sizeOf cX4_sizeOf 5 (some .int), .fieldLink RX4 19 "RingrollModel" "reached" "[I", .fieldLink RX4 13 "RingrollModel" "images" "[I", .constant RX4 105 (100000000), .fieldLink RX4 16 "RingrollModel" "deltas" "[I"] ++ wsX40)
def wsX4_addDevice : List Cond := .code yX4_addDevice cX4_addDevice 5 (some .int) :: ([.fieldLink RX4 89 "RingrollModel" "devices" "I", .fieldLink RX4 7 "RingrollModel" "allowed" "[I", .fieldLink RX4 22 "RingrollModel" "kinds" "[I", .fieldLink RX4 25 "RingrollModel" "versions" "[I", .fieldLink RX4 28 "RingrollModel" "batteries" "[I", .fieldLink RX4 31 "RingrollModel" "froms" "[I", .fieldLink RX4 34 "RingrollModel" "tos" "[I", .fieldLink RX4 40 "RingrollModel" "taken" "[I", .methodLink RX4 84 yX4_in, .static yX4_in, .initialized RX4, .code yX4_in cX4_in 3 (some .boolean), .methodLink RX4 95 yX4_isVersion, .static yX4_isVersion, .code yX4_isVersion cX4_isVersion 1 (some .boolean), .methodLink RX4 99 yX4_refused, .instanceMethod yX4_refused, .selects RX4 yX4_refused yX4_refused, .code yX4_refused cX4_refused 2 (some .boolean), .fieldLink RX4 80 "RingrollModel" "refusal" "I"] ++ wsX40)
def wsX4_charge : List Cond := .code yX4_charge cX4_charge 4 (some .int) :: ([.fieldLink RX4 28 "RingrollModel" "batteries" "[I", .methodLink RX4 113 yX4_isDevice, .instanceMethod yX4_isDevice, .selects RX4 yX4_isDevice yX4_isDevice, .initialized RX4, .code yX4_isDevice cX4_isDevice 2 (some .boolean), .fieldLink RX4 89 "RingrollModel" "devices" "I", .methodLink RX4 84 yX4_in, .static yX4_in, .code yX4_in cX4_in 3 (some .boolean), .methodLink RX4 99 yX4_refused, .instanceMethod yX4_refused, .selects RX4 yX4_refused yX4_refused, .code yX4_refused cX4_refused 2 (some .boolean), .fieldLink RX4 80 "RingrollModel" "refusal" "I"] ++ wsX40)
def wsX4_setWindow : List Cond := .code yX4_setWindow cX4_setWindow 4 none :: ([.fieldLink RX4 31 "RingrollModel" "froms" "[I", .fieldLink RX4 34 "RingrollModel" "tos" "[I", .methodLink RX4 113 yX4_isDevice, .instanceMethod yX4_isDevice, .selects RX4 yX4_isDevice yX4_isDevice, .initialized RX4, .code yX4_isDevice cX4_isDevice 2 (some .boolean), .fieldLink RX4 89 "RingrollModel" "devices" "I", .methodLink RX4 84 yX4_in, .static yX4_in, .code yX4_in cX4_in 3 (some .boolean), .methodLink RX4 99 yX4_refused, .instanceMethod yX4_refused, .selects RX4 yX4_refused yX4_refused, .code yX4_refused cX4_refused 2 (some .boolean), .fieldLink RX4 80 "RingrollModel" "refusal" "I"] ++ wsX40)
def wsX4_judge : List Cond := .code yX4_judge cX4_judge 2 none :: ([.fieldLink RX4 55 "RingrollModel" "isActive" "[Z", .fieldLink RX4 71 "RingrollModel" "reports" "[I", .fieldLink RX4 65 "RingrollModel" "needs" "[I", .fieldLink RX4 74 "RingrollModel" "failures" "[I", .fieldLink RX4 68 "RingrollModel" "bears" "[I", .fieldLink RX4 59 "RingrollModel" "rings" "[I"] ++ wsX40)
def wsX4_report_r1 : List Cond := [Cond.fieldLink RX4 37 "RingrollModel" "states" "[I", Cond.fieldLink RX4 40 "RingrollModel" "taken" "[I", Cond.fieldLink RX4 25 "RingrollModel" "versions" "[I", Cond.fieldLink RX4 46 "RingrollModel" "targets" "[I", Cond.fieldLink RX4 77 "RingrollModel" "reporters" "[I", Cond.fieldLink RX4 71 "RingrollModel" "reports" "[I", Cond.fieldLink RX4 74 "RingrollModel" "failures" "[I", Cond.methodLink RX4 113 yX4_isDevice, Cond.instanceMethod yX4_isDevice, Cond.selects RX4 yX4_isDevice yX4_isDevice, Cond.initialized RX4, Cond.code yX4_isDevice cX4_isDevice 2 (some .boolean), Cond.fieldLink RX4 89 "RingrollModel" "devices" "I", Cond.methodLink RX4 84 yX4_in, Cond.static yX4_in, Cond.code yX4_in cX4_in 3 (some .boolean), Cond.methodLink RX4 99 yX4_refused, Cond.instanceMethod yX4_refused, Cond.selects RX4 yX4_refused yX4_refused, Cond.code yX4_refused cX4_refused 2 (some .boolean), Cond.fieldLink RX4 80 "RingrollModel" "refusal" "I", Cond.methodLink RX4 116 yX4_judge, Cond.instanceMethod yX4_judge, Cond.selects RX4 yX4_judge yX4_judge]
def wsX4_report_r2 : List Cond := [Cond.code yX4_judge cX4_judge 2 none, Cond.fieldLink RX4 55 "RingrollModel" "isActive" "[Z", Cond.fieldLink RX4 65 "RingrollModel" "needs" "[I", Cond.fieldLink RX4 68 "RingrollModel" "bears" "[I", Cond.fieldLink RX4 59 "RingrollModel" "rings" "[I"]
def wsX4_report : List Cond := .code yX4_report cX4_report 4 (some .int) :: ((wsX4_report_r1 ++ wsX4_report_r2) ++ wsX40)
def wsX4_devices : List Cond := .code yX4_devices cX4_devices 1 (some .int) :: ([.fieldLink RX4 89 "RingrollModel" "devices" "I", .methodLink RX4 120 yX4_fine, .instanceMethod yX4_fine, .selects RX4 yX4_fine yX4_fine, .initialized RX4, .code yX4_fine cX4_fine 2 (some .int), .fieldLink RX4 80 "RingrollModel" "refusal" "I"] ++ wsX40)
def wsX4_noDevice : List Cond := .code yX4_noDevice cX4_noDevice 2 (some .boolean) :: ([.methodLink RX4 113 yX4_isDevice, .instanceMethod yX4_isDevice, .selects RX4 yX4_isDevice yX4_isDevice, .initialized RX4, .code yX4_isDevice cX4_isDevice 2 (some .boolean), .fieldLink RX4 89 "RingrollModel" "devices" "I", .methodLink RX4 84 yX4_in, .static yX4_in, .code yX4_in cX4_in 3 (some .boolean), .methodLink RX4 99 yX4_refused, .instanceMethod yX4_refused, .selects RX4 yX4_refused yX4_refused, .code yX4_refused cX4_refused 2 (some .boolean), .fieldLink RX4 80 "RingrollModel" "refusal" "I"] ++ wsX40)
def wsX4_state : List Cond := .code yX4_state cX4_state 2 (some .int) :: ([.fieldLink RX4 37 "RingrollModel" "states" "[I", .methodLink RX4 124 yX4_noDevice, .instanceMethod yX4_noDevice, .selects RX4 yX4_noDevice yX4_noDevice, .initialized RX4, .code yX4_noDevice cX4_noDevice 2 (some .boolean), .methodLink RX4 113 yX4_isDevice, .instanceMethod yX4_isDevice, .selects RX4 yX4_isDevice yX4_isDevice, .code yX4_isDevice cX4_isDevice 2 (some .boolean), .fieldLink RX4 89 "RingrollModel" "devices" "I", .methodLink RX4 84 yX4_in, .static yX4_in, .code yX4_in cX4_in 3 (some .boolean), .methodLink RX4 99 yX4_refused, .instanceMethod yX4_refused, .selects RX4 yX4_refused yX4_refused, .code yX4_refused cX4_refused 2 (some .boolean), .fieldLink RX4 80 "RingrollModel" "refusal" "I"] ++ wsX40)
def wsX4_version : List Cond := .code yX4_version cX4_version 2 (some .int) :: ([.fieldLink RX4 25 "RingrollModel" "versions" "[I", .methodLink RX4 124 yX4_noDevice, .instanceMethod yX4_noDevice, .selects RX4 yX4_noDevice yX4_noDevice, .initialized RX4, .code yX4_noDevice cX4_noDevice 2 (some .boolean), .methodLink RX4 113 yX4_isDevice, .instanceMethod yX4_isDevice, .selects RX4 yX4_isDevice yX4_isDevice, .code yX4_isDevice cX4_isDevice 2 (some .boolean), .fieldLink RX4 89 "RingrollModel" "devices" "I", .methodLink RX4 84 yX4_in, .static yX4_in, .code yX4_in cX4_in 3 (some .boolean), .methodLink RX4 99 yX4_refused, .instanceMethod yX4_refused, .selects RX4 yX4_refused yX4_refused, .code yX4_refused cX4_refused 2 (some .boolean), .fieldLink RX4 80 "RingrollModel" "refusal" "I"] ++ wsX40)
def wsX4_campaignOf : List Cond := .code yX4_campaignOf cX4_campaignOf 2 (some .int) :: ([.fieldLink RX4 40 "RingrollModel" "taken" "[I", .methodLink RX4 124 yX4_noDevice, .instanceMethod yX4_noDevice, .selects RX4 yX4_noDevice yX4_noDevice, .initialized RX4, .code yX4_noDevice cX4_noDevice 2 (some .boolean), .methodLink RX4 113 yX4_isDevice, .instanceMethod yX4_isDevice, .selects RX4 yX4_isDevice yX4_isDevice, .code yX4_isDevice cX4_isDevice 2 (some .boolean), .fieldLink RX4 89 "RingrollModel" "devices" "I", .methodLink RX4 84 yX4_in, .static yX4_in, .code yX4_in cX4_in 3 (some .boolean), .methodLink RX4 99 yX4_refused, .instanceMethod yX4_refused, .selects RX4 yX4_refused yX4_refused, .code yX4_refused cX4_refused 2 (some .boolean), .fieldLink RX4 80 "RingrollModel" "refusal" "I"] ++ wsX40)
def wsX4_toGo : List Cond := .code yX4_toGo cX4_toGo 2 (some .int) :: ([.fieldLink RX4 43 "RingrollModel" "left" "[I", .methodLink RX4 124 yX4_noDevice, .instanceMethod yX4_noDevice, .selects RX4 yX4_noDevice yX4_noDevice, .initialized RX4, .code yX4_noDevice cX4_noDevice 2 (some .boolean), .methodLink RX4 113 yX4_isDevice, .instanceMethod yX4_isDevice, .selects RX4 yX4_isDevice yX4_isDevice, .code yX4_isDevice cX4_isDevice 2 (some .boolean), .fieldLink RX4 89 "RingrollModel" "devices" "I", .methodLink RX4 84 yX4_in, .static yX4_in, .code yX4_in cX4_in 3 (some .boolean), .methodLink RX4 99 yX4_refused, .instanceMethod yX4_refused, .selects RX4 yX4_refused yX4_refused, .code yX4_refused cX4_refused 2 (some .boolean), .fieldLink RX4 80 "RingrollModel" "refusal" "I"] ++ wsX40)
def wsX4_battery : List Cond := .code yX4_battery cX4_battery 2 (some .int) :: ([.fieldLink RX4 28 "RingrollModel" "batteries" "[I", .methodLink RX4 124 yX4_noDevice, .instanceMethod yX4_noDevice, .selects RX4 yX4_noDevice yX4_noDevice, .initialized RX4, .code yX4_noDevice cX4_noDevice 2 (some .boolean), .methodLink RX4 113 yX4_isDevice, .instanceMethod yX4_isDevice, .selects RX4 yX4_isDevice yX4_isDevice, .code yX4_isDevice cX4_isDevice 2 (some .boolean), .fieldLink RX4 89 "RingrollModel" "devices" "I", .methodLink RX4 84 yX4_in, .static yX4_in, .code yX4_in cX4_in 3 (some .boolean), .methodLink RX4 99 yX4_refused, .instanceMethod yX4_refused, .selects RX4 yX4_refused yX4_refused, .code yX4_refused cX4_refused 2 (some .boolean), .fieldLink RX4 80 "RingrollModel" "refusal" "I"] ++ wsX40)
def wsX4_begin : List Cond := .code yX4_begin cX4_begin 7 (some .int) :: ([.fieldLink RX4 92 "RingrollModel" "campaigns" "I", .fieldLink RX4 55 "RingrollModel" "isActive" "[Z", .fieldLink RX4 46 "RingrollModel" "targets" "[I", .fieldLink RX4 49 "RingrollModel" "forKinds" "[I", .fieldLink RX4 52 "RingrollModel" "forVersions" "[I", .fieldLink RX4 62 "RingrollModel" "shares" "[I", .fieldLink RX4 65 "RingrollModel" "needs" "[I", .fieldLink RX4 68 "RingrollModel" "bears" "[I", .methodLink RX4 95 yX4_isVersion, .static yX4_isVersion, .initialized RX4, .code yX4_isVersion cX4_isVersion 1 (some .boolean), .methodLink RX4 84 yX4_in, .static yX4_in, .code yX4_in cX4_in 3 (some .boolean), .methodLink RX4 127 yX4_isCampaign, .instanceMethod yX4_isCampaign, .selects RX4 yX4_isCampaign yX4_isCampaign, .code yX4_isCampaign cX4_isCampaign 2 (some .boolean), .methodLink RX4 99 yX4_refused, .instanceMethod yX4_refused, .selects RX4 yX4_refused yX4_refused, .code yX4_refused cX4_refused 2 (some .boolean), .fieldLink RX4 80 "RingrollModel" "refusal" "I"] ++ wsX40)
def wsX4_setRules : List Cond := .code yX4_setRules cX4_setRules 7 none :: ([.fieldLink RX4 62 "RingrollModel" "shares" "[I", .fieldLink RX4 65 "RingrollModel" "needs" "[I", .fieldLink RX4 68 "RingrollModel" "bears" "[I", .methodLink RX4 84 yX4_in, .static yX4_in, .initialized RX4, .code yX4_in cX4_in 3 (some .boolean), .methodLink RX4 127 yX4_isCampaign, .instanceMethod yX4_isCampaign, .selects RX4 yX4_isCampaign yX4_isCampaign, .code yX4_isCampaign cX4_isCampaign 2 (some .boolean), .fieldLink RX4 92 "RingrollModel" "campaigns" "I", .methodLink RX4 99 yX4_refused, .instanceMethod yX4_refused, .selects RX4 yX4_refused yX4_refused, .code yX4_refused cX4_refused 2 (some .boolean), .fieldLink RX4 80 "RingrollModel" "refusal" "I"] ++ wsX40)
def wsX4_noCampaign : List Cond := .code yX4_noCampaign cX4_noCampaign 2 (some .boolean) :: ([.methodLink RX4 127 yX4_isCampaign, .instanceMethod yX4_isCampaign, .selects RX4 yX4_isCampaign yX4_isCampaign, .initialized RX4, .code yX4_isCampaign cX4_isCampaign 2 (some .boolean), .fieldLink RX4 92 "RingrollModel" "campaigns" "I", .methodLink RX4 84 yX4_in, .static yX4_in, .code yX4_in cX4_in 3 (some .boolean), .methodLink RX4 99 yX4_refused, .instanceMethod yX4_refused, .selects RX4 yX4_refused yX4_refused, .code yX4_refused cX4_refused 2 (some .boolean), .fieldLink RX4 80 "RingrollModel" "refusal" "I"] ++ wsX40)
def wsX4_toggle : List Cond := .code yX4_toggle cX4_toggle 2 (some .boolean) :: ([.fieldLink RX4 55 "RingrollModel" "isActive" "[Z", .fieldLink RX4 71 "RingrollModel" "reports" "[I", .fieldLink RX4 74 "RingrollModel" "failures" "[I", .methodLink RX4 130 yX4_noCampaign, .instanceMethod yX4_noCampaign, .selects RX4 yX4_noCampaign yX4_noCampaign, .initialized RX4, .code yX4_noCampaign cX4_noCampaign 2 (some .boolean), .methodLink RX4 127 yX4_isCampaign, .instanceMethod yX4_isCampaign, .selects RX4 yX4_isCampaign yX4_isCampaign, .code yX4_isCampaign cX4_isCampaign 2 (some .boolean), .fieldLink RX4 92 "RingrollModel" "campaigns" "I", .methodLink RX4 84 yX4_in, .static yX4_in, .code yX4_in cX4_in 3 (some .boolean), .methodLink RX4 99 yX4_refused, .instanceMethod yX4_refused, .selects RX4 yX4_refused yX4_refused, .code yX4_refused cX4_refused 2 (some .boolean), .fieldLink RX4 80 "RingrollModel" "refusal" "I"] ++ wsX40)
def wsX4_isActive : List Cond := .code yX4_isActive cX4_isActive 2 (some .boolean) :: ([.fieldLink RX4 55 "RingrollModel" "isActive" "[Z", .methodLink RX4 130 yX4_noCampaign, .instanceMethod yX4_noCampaign, .selects RX4 yX4_noCampaign yX4_noCampaign, .initialized RX4, .code yX4_noCampaign cX4_noCampaign 2 (some .boolean), .methodLink RX4 127 yX4_isCampaign, .instanceMethod yX4_isCampaign, .selects RX4 yX4_isCampaign yX4_isCampaign, .code yX4_isCampaign cX4_isCampaign 2 (some .boolean), .fieldLink RX4 92 "RingrollModel" "campaigns" "I", .methodLink RX4 84 yX4_in, .static yX4_in, .code yX4_in cX4_in 3 (some .boolean), .methodLink RX4 99 yX4_refused, .instanceMethod yX4_refused, .selects RX4 yX4_refused yX4_refused, .code yX4_refused cX4_refused 2 (some .boolean), .fieldLink RX4 80 "RingrollModel" "refusal" "I"] ++ wsX40)
def wsX4_ring : List Cond := .code yX4_ring cX4_ring 2 (some .int) :: ([.fieldLink RX4 59 "RingrollModel" "rings" "[I", .methodLink RX4 130 yX4_noCampaign, .instanceMethod yX4_noCampaign, .selects RX4 yX4_noCampaign yX4_noCampaign, .initialized RX4, .code yX4_noCampaign cX4_noCampaign 2 (some .boolean), .methodLink RX4 127 yX4_isCampaign, .instanceMethod yX4_isCampaign, .selects RX4 yX4_isCampaign yX4_isCampaign, .code yX4_isCampaign cX4_isCampaign 2 (some .boolean), .fieldLink RX4 92 "RingrollModel" "campaigns" "I", .methodLink RX4 84 yX4_in, .static yX4_in, .code yX4_in cX4_in 3 (some .boolean), .methodLink RX4 99 yX4_refused, .instanceMethod yX4_refused, .selects RX4 yX4_refused yX4_refused, .code yX4_refused cX4_refused 2 (some .boolean), .fieldLink RX4 80 "RingrollModel" "refusal" "I"] ++ wsX40)
def wsX4_reports : List Cond := .code yX4_reports cX4_reports 2 (some .int) :: ([.fieldLink RX4 71 "RingrollModel" "reports" "[I", .methodLink RX4 130 yX4_noCampaign, .instanceMethod yX4_noCampaign, .selects RX4 yX4_noCampaign yX4_noCampaign, .initialized RX4, .code yX4_noCampaign cX4_noCampaign 2 (some .boolean), .methodLink RX4 127 yX4_isCampaign, .instanceMethod yX4_isCampaign, .selects RX4 yX4_isCampaign yX4_isCampaign, .code yX4_isCampaign cX4_isCampaign 2 (some .boolean), .fieldLink RX4 92 "RingrollModel" "campaigns" "I", .methodLink RX4 84 yX4_in, .static yX4_in, .code yX4_in cX4_in 3 (some .boolean), .methodLink RX4 99 yX4_refused, .instanceMethod yX4_refused, .selects RX4 yX4_refused yX4_refused, .code yX4_refused cX4_refused 2 (some .boolean), .fieldLink RX4 80 "RingrollModel" "refusal" "I"] ++ wsX40)
def wsX4_mayTake : List Cond := .code yX4_mayTake cX4_mayTake 8 (some .boolean) :: ([.fieldLink RX4 46 "RingrollModel" "targets" "[I", .fieldLink RX4 49 "RingrollModel" "forKinds" "[I", .fieldLink RX4 22 "RingrollModel" "kinds" "[I", .fieldLink RX4 52 "RingrollModel" "forVersions" "[I", .fieldLink RX4 25 "RingrollModel" "versions" "[I", .fieldLink RX4 7 "RingrollModel" "allowed" "[I", .fieldLink RX4 62 "RingrollModel" "shares" "[I", .fieldLink RX4 59 "RingrollModel" "rings" "[I", .fieldLink RX4 77 "RingrollModel" "reporters" "[I", .fieldLink RX4 37 "RingrollModel" "states" "[I", .fieldLink RX4 55 "RingrollModel" "isActive" "[Z", .methodLink RX4 106 yX4_sizeOf, .instanceMethod yX4_sizeOf, .selects RX4 yX4_sizeOf yX4_sizeOf, .initialized RX4, .code yX4_sizeOf cX4_sizeOf 5 (some .int), .fieldLink RX4 19 "RingrollModel" "reached" "[I", .fieldLink RX4 13 "RingrollModel" "images" "[I", .constant RX4 105 (100000000), .fieldLink RX4 16 "RingrollModel" "deltas" "[I"] ++ wsX40)
def wsX4_eligible_r1 : List Cond := [Cond.fieldLink RX4 89 "RingrollModel" "devices" "I", Cond.methodLink RX4 130 yX4_noCampaign, Cond.instanceMethod yX4_noCampaign, Cond.selects RX4 yX4_noCampaign yX4_noCampaign, Cond.initialized RX4, Cond.code yX4_noCampaign cX4_noCampaign 2 (some .boolean), Cond.methodLink RX4 127 yX4_isCampaign, Cond.instanceMethod yX4_isCampaign, Cond.selects RX4 yX4_isCampaign yX4_isCampaign, Cond.code yX4_isCampaign cX4_isCampaign 2 (some .boolean), Cond.fieldLink RX4 92 "RingrollModel" "campaigns" "I", Cond.methodLink RX4 84 yX4_in, Cond.static yX4_in, Cond.code yX4_in cX4_in 3 (some .boolean), Cond.methodLink RX4 99 yX4_refused, Cond.instanceMethod yX4_refused, Cond.selects RX4 yX4_refused yX4_refused, Cond.code yX4_refused cX4_refused 2 (some .boolean), Cond.fieldLink RX4 80 "RingrollModel" "refusal" "I", Cond.methodLink RX4 133 yX4_mayTake, Cond.instanceMethod yX4_mayTake, Cond.selects RX4 yX4_mayTake yX4_mayTake, Cond.code yX4_mayTake cX4_mayTake 8 (some .boolean), Cond.fieldLink RX4 46 "RingrollModel" "targets" "[I"]
def wsX4_eligible_r2 : List Cond := [Cond.fieldLink RX4 49 "RingrollModel" "forKinds" "[I", Cond.fieldLink RX4 22 "RingrollModel" "kinds" "[I", Cond.fieldLink RX4 52 "RingrollModel" "forVersions" "[I", Cond.fieldLink RX4 25 "RingrollModel" "versions" "[I", Cond.fieldLink RX4 7 "RingrollModel" "allowed" "[I", Cond.fieldLink RX4 62 "RingrollModel" "shares" "[I", Cond.fieldLink RX4 59 "RingrollModel" "rings" "[I", Cond.fieldLink RX4 77 "RingrollModel" "reporters" "[I", Cond.fieldLink RX4 37 "RingrollModel" "states" "[I", Cond.fieldLink RX4 55 "RingrollModel" "isActive" "[Z", Cond.methodLink RX4 106 yX4_sizeOf, Cond.instanceMethod yX4_sizeOf, Cond.selects RX4 yX4_sizeOf yX4_sizeOf, Cond.code yX4_sizeOf cX4_sizeOf 5 (some .int), Cond.fieldLink RX4 19 "RingrollModel" "reached" "[I", Cond.fieldLink RX4 13 "RingrollModel" "images" "[I", Cond.constant RX4 105 (100000000), Cond.fieldLink RX4 16 "RingrollModel" "deltas" "[I"]
def wsX4_eligible : List Cond := .code yX4_eligible cX4_eligible 4 (some .int) :: ((wsX4_eligible_r1 ++ wsX4_eligible_r2) ++ wsX40)
def wsX4_take_r1 : List Cond := [Cond.fieldLink RX4 92 "RingrollModel" "campaigns" "I", Cond.fieldLink RX4 40 "RingrollModel" "taken" "[I", Cond.fieldLink RX4 43 "RingrollModel" "left" "[I", Cond.fieldLink RX4 25 "RingrollModel" "versions" "[I", Cond.fieldLink RX4 46 "RingrollModel" "targets" "[I", Cond.fieldLink RX4 37 "RingrollModel" "states" "[I", Cond.methodLink RX4 133 yX4_mayTake, Cond.instanceMethod yX4_mayTake, Cond.selects RX4 yX4_mayTake yX4_mayTake, Cond.initialized RX4, Cond.code yX4_mayTake cX4_mayTake 8 (some .boolean), Cond.fieldLink RX4 49 "RingrollModel" "forKinds" "[I", Cond.fieldLink RX4 22 "RingrollModel" "kinds" "[I", Cond.fieldLink RX4 52 "RingrollModel" "forVersions" "[I", Cond.fieldLink RX4 7 "RingrollModel" "allowed" "[I", Cond.fieldLink RX4 62 "RingrollModel" "shares" "[I", Cond.fieldLink RX4 59 "RingrollModel" "rings" "[I", Cond.fieldLink RX4 77 "RingrollModel" "reporters" "[I", Cond.fieldLink RX4 55 "RingrollModel" "isActive" "[Z", Cond.methodLink RX4 106 yX4_sizeOf, Cond.instanceMethod yX4_sizeOf, Cond.selects RX4 yX4_sizeOf yX4_sizeOf, Cond.code yX4_sizeOf cX4_sizeOf 5 (some .int), Cond.fieldLink RX4 19 "RingrollModel" "reached" "[I"]
def wsX4_take_r2 : List Cond := [Cond.fieldLink RX4 13 "RingrollModel" "images" "[I", Cond.constant RX4 105 (100000000), Cond.fieldLink RX4 16 "RingrollModel" "deltas" "[I"]
def wsX4_take : List Cond := .code yX4_take cX4_take 3 none :: ((wsX4_take_r1 ++ wsX4_take_r2) ++ wsX40)
def wsX4_isOpen : List Cond := .code yX4_isOpen cX4_isOpen 5 (some .boolean) :: ([.fieldLink RX4 137 "RingrollModel" "clock" "I", .fieldLink RX4 31 "RingrollModel" "froms" "[I", .fieldLink RX4 34 "RingrollModel" "tos" "[I", .methodLink RX4 84 yX4_in, .static yX4_in, .initialized RX4, .code yX4_in cX4_in 3 (some .boolean)] ++ wsX40)
def wsX4_pass_r1 : List Cond := [Cond.fieldLink RX4 89 "RingrollModel" "devices" "I", Cond.fieldLink RX4 37 "RingrollModel" "states" "[I", Cond.fieldLink RX4 28 "RingrollModel" "batteries" "[I", Cond.fieldLink RX4 43 "RingrollModel" "left" "[I", Cond.fieldLink RX4 137 "RingrollModel" "clock" "I", Cond.methodLink RX4 84 yX4_in, Cond.static yX4_in, Cond.initialized RX4, Cond.code yX4_in cX4_in 3 (some .boolean), Cond.methodLink RX4 99 yX4_refused, Cond.instanceMethod yX4_refused, Cond.selects RX4 yX4_refused yX4_refused, Cond.code yX4_refused cX4_refused 2 (some .boolean), Cond.fieldLink RX4 80 "RingrollModel" "refusal" "I", Cond.methodLink RX4 140 yX4_take, Cond.instanceMethod yX4_take, Cond.selects RX4 yX4_take yX4_take, Cond.code yX4_take cX4_take 3 none, Cond.fieldLink RX4 92 "RingrollModel" "campaigns" "I", Cond.fieldLink RX4 40 "RingrollModel" "taken" "[I", Cond.fieldLink RX4 25 "RingrollModel" "versions" "[I", Cond.fieldLink RX4 46 "RingrollModel" "targets" "[I", Cond.methodLink RX4 133 yX4_mayTake, Cond.instanceMethod yX4_mayTake]
def wsX4_pass_r2 : List Cond := [Cond.selects RX4 yX4_mayTake yX4_mayTake, Cond.code yX4_mayTake cX4_mayTake 8 (some .boolean), Cond.fieldLink RX4 49 "RingrollModel" "forKinds" "[I", Cond.fieldLink RX4 22 "RingrollModel" "kinds" "[I", Cond.fieldLink RX4 52 "RingrollModel" "forVersions" "[I", Cond.fieldLink RX4 7 "RingrollModel" "allowed" "[I", Cond.fieldLink RX4 62 "RingrollModel" "shares" "[I", Cond.fieldLink RX4 59 "RingrollModel" "rings" "[I", Cond.fieldLink RX4 77 "RingrollModel" "reporters" "[I", Cond.fieldLink RX4 55 "RingrollModel" "isActive" "[Z", Cond.methodLink RX4 106 yX4_sizeOf, Cond.instanceMethod yX4_sizeOf, Cond.selects RX4 yX4_sizeOf yX4_sizeOf, Cond.code yX4_sizeOf cX4_sizeOf 5 (some .int), Cond.fieldLink RX4 19 "RingrollModel" "reached" "[I", Cond.fieldLink RX4 13 "RingrollModel" "images" "[I", Cond.constant RX4 105 (100000000), Cond.fieldLink RX4 16 "RingrollModel" "deltas" "[I", Cond.methodLink RX4 143 yX4_isOpen, Cond.instanceMethod yX4_isOpen, Cond.selects RX4 yX4_isOpen yX4_isOpen, Cond.code yX4_isOpen cX4_isOpen 5 (some .boolean), Cond.fieldLink RX4 31 "RingrollModel" "froms" "[I", Cond.fieldLink RX4 34 "RingrollModel" "tos" "[I"]
def wsX4_pass : List Cond := .code yX4_pass cX4_pass 5 (some .int) :: ((wsX4_pass_r1 ++ wsX4_pass_r2) ++ wsX40)
def wsJ9_max_7cf53 : List Cond := .code yJ9_max_7cf53 cJ9_max_7cf53 2 (some .int) :: ([])
def wsJ9_min_7cf53 : List Cond := .code yJ9_min_7cf53 cJ9_min_7cf53 2 (some .int) :: ([])
def wsL_allow : List Cond := .codeWith yL_allow cL_allow 5 (some .int) [(0, 10, 13, 13), (0, 10, 17, 15)] :: ([.classLink RL 13 "java/lang/IndexOutOfBoundsException", .classLink RL 15 "java/lang/IllegalArgumentException", .methodLink RL 7 yX3_allow, .instanceMethod yX3_allow, .selects RX3 yX3_allow yX3_allow, .initialized RX3, .code yX3_allow cX3_allow 4 (some .int), .fieldLink RX3 9 "Ringroll" "kindsOfVersion" "[I", .methodLink RX3 52 yX3_needVersion, .static yX3_needVersion, .code yX3_needVersion cX3_needVersion 1 none, .classLink RX3 83 "java/lang/IndexOutOfBoundsException", .initialized "java/lang/IndexOutOfBoundsException", .methodLink RX3 55 yX3_needRange, .static yX3_needRange, .code yX3_needRange cX3_needRange 3 none, .classLink RX3 66 "java/lang/IllegalArgumentException", .initialized "java/lang/IllegalArgumentException"] ++ wsX30 ++ (vx_atS RX3 87 "java/lang/IndexOutOfBoundsException" ["java/lang/RuntimeException", "java/lang/Exception"]).filter goodWord ++ (vx_atS RX3 70 "java/lang/IllegalArgumentException" ["java/lang/RuntimeException", "java/lang/Exception"]).filter goodWord)
def wsL_setImage_r1 : List Cond := [Cond.classLink RL 13 "java/lang/IndexOutOfBoundsException", Cond.classLink RL 15 "java/lang/IllegalArgumentException", Cond.methodLink RL 17 yX3_setImage, Cond.instanceMethod yX3_setImage, Cond.selects RX3 yX3_setImage yX3_setImage, Cond.initialized RX3, Cond.code yX3_setImage cX3_setImage 3 (some .int), Cond.fieldLink RX3 16 "Ringroll" "ways" "LRingroll$Ways;", Cond.methodLink RX3 52 yX3_needVersion, Cond.static yX3_needVersion, Cond.code yX3_needVersion cX3_needVersion 1 none, Cond.classLink RX3 83 "java/lang/IndexOutOfBoundsException", Cond.initialized "java/lang/IndexOutOfBoundsException", Cond.methodLink RX3 59 yX3_needBytesOrNone, Cond.static yX3_needBytesOrNone, Cond.code yX3_needBytesOrNone cX3_needBytesOrNone 1 none, Cond.constant RX3 216 (100000), Cond.methodLink RX3 55 yX3_needRange, Cond.static yX3_needRange, Cond.code yX3_needRange cX3_needRange 3 none, Cond.classLink RX3 66 "java/lang/IllegalArgumentException", Cond.initialized "java/lang/IllegalArgumentException", Cond.methodLink RX3 62 yX2_changeImage, Cond.instanceMethod yX2_changeImage]
def wsL_setImage_r2 : List Cond := [Cond.selects RX2 yX2_changeImage yX2_changeImage, Cond.initialized RX2, Cond.code yX2_changeImage cX2_changeImage 4 (some .int), Cond.fieldLink RX2 9 "Ringroll$Ways" "images" "[I", Cond.methodLink RX2 32 yX2_measure, Cond.instanceMethod yX2_measure, Cond.selects RX2 yX2_measure yX2_measure, Cond.code yX2_measure cX2_measure 3 none, Cond.fieldLink RX2 20 "Ringroll$Ways" "leastByDeltas" "[[I", Cond.fieldLink RX2 17 "Ringroll$Ways" "deltas" "[[I", Cond.fieldLink RX2 23 "Ringroll$Ways" "leastByImage" "[I", Cond.constant RX2 49 (1000000), Cond.methodLink RX2 35 Lib.Math.min.name, Cond.static Lib.Math.min.name, Cond.initialized "java/lang/Math", Cond.code Lib.Math.min.name Lib.Math.min.code 2 (some .int), Cond.methodLink RX2 54 yX2_orFar, Cond.static yX2_orFar, Cond.code yX2_orFar cX2_orFar 1 (some .int), Cond.methodLink RX2 57 yX2_measureVia, Cond.instanceMethod yX2_measureVia, Cond.selects RX2 yX2_measureVia yX2_measureVia, Cond.code yX2_measureVia cX2_measureVia 5 none]
def wsL_setImage : List Cond := .codeWith yL_setImage cL_setImage 5 (some .int) [(0, 10, 13, 13), (0, 10, 17, 15)] :: ((wsL_setImage_r1 ++ wsL_setImage_r2) ++ wsX30 ++ wsX20 ++ (vx_atS RX3 87 "java/lang/IndexOutOfBoundsException" ["java/lang/RuntimeException", "java/lang/Exception"]).filter goodWord ++ (vx_atS RX3 70 "java/lang/IllegalArgumentException" ["java/lang/RuntimeException", "java/lang/Exception"]).filter goodWord)
def wsL_setDelta_r1 : List Cond := [Cond.classLink RL 13 "java/lang/IndexOutOfBoundsException", Cond.classLink RL 15 "java/lang/IllegalArgumentException", Cond.methodLink RL 20 yX3_setDelta, Cond.instanceMethod yX3_setDelta, Cond.selects RX3 yX3_setDelta yX3_setDelta, Cond.initialized RX3, Cond.code yX3_setDelta cX3_setDelta 4 (some .int), Cond.classLink RX3 66 "java/lang/IllegalArgumentException", Cond.initialized "java/lang/IllegalArgumentException", Cond.fieldLink RX3 16 "Ringroll" "ways" "LRingroll$Ways;", Cond.methodLink RX3 52 yX3_needVersion, Cond.static yX3_needVersion, Cond.code yX3_needVersion cX3_needVersion 1 none, Cond.classLink RX3 83 "java/lang/IndexOutOfBoundsException", Cond.initialized "java/lang/IndexOutOfBoundsException", Cond.methodLink RX3 59 yX3_needBytesOrNone, Cond.static yX3_needBytesOrNone, Cond.code yX3_needBytesOrNone cX3_needBytesOrNone 1 none, Cond.constant RX3 216 (100000), Cond.methodLink RX3 55 yX3_needRange, Cond.static yX3_needRange, Cond.code yX3_needRange cX3_needRange 3 none, Cond.methodLink RX3 73 yX2_changeDelta, Cond.instanceMethod yX2_changeDelta]
def wsL_setDelta_r2 : List Cond := [Cond.selects RX2 yX2_changeDelta yX2_changeDelta, Cond.initialized RX2, Cond.code yX2_changeDelta cX2_changeDelta 5 (some .int), Cond.fieldLink RX2 17 "Ringroll$Ways" "deltas" "[[I", Cond.methodLink RX2 32 yX2_measure, Cond.instanceMethod yX2_measure, Cond.selects RX2 yX2_measure yX2_measure, Cond.code yX2_measure cX2_measure 3 none, Cond.fieldLink RX2 20 "Ringroll$Ways" "leastByDeltas" "[[I", Cond.fieldLink RX2 23 "Ringroll$Ways" "leastByImage" "[I", Cond.constant RX2 49 (1000000), Cond.fieldLink RX2 9 "Ringroll$Ways" "images" "[I", Cond.methodLink RX2 35 Lib.Math.min.name, Cond.static Lib.Math.min.name, Cond.initialized "java/lang/Math", Cond.code Lib.Math.min.name Lib.Math.min.code 2 (some .int), Cond.methodLink RX2 54 yX2_orFar, Cond.static yX2_orFar, Cond.code yX2_orFar cX2_orFar 1 (some .int), Cond.methodLink RX2 57 yX2_measureVia, Cond.instanceMethod yX2_measureVia, Cond.selects RX2 yX2_measureVia yX2_measureVia, Cond.code yX2_measureVia cX2_measureVia 5 none]
def wsL_setDelta : List Cond := .codeWith yL_setDelta cL_setDelta 6 (some .int) [(0, 12, 15, 13), (0, 12, 19, 15)] :: ((wsL_setDelta_r1 ++ wsL_setDelta_r2) ++ wsX30 ++ wsX20 ++ (vx_atS RX3 70 "java/lang/IllegalArgumentException" ["java/lang/RuntimeException", "java/lang/Exception"]).filter goodWord ++ (vx_atS RX3 87 "java/lang/IndexOutOfBoundsException" ["java/lang/RuntimeException", "java/lang/Exception"]).filter goodWord)
def wsL_size_r1 : List Cond := [Cond.classLink RL 13 "java/lang/IndexOutOfBoundsException", Cond.methodLink RL 24 yX3_size, Cond.instanceMethod yX3_size, Cond.selects RX3 yX3_size yX3_size, Cond.initialized RX3, Cond.code yX3_size cX3_size 3 (some .int), Cond.fieldLink RX3 16 "Ringroll" "ways" "LRingroll$Ways;", Cond.methodLink RX3 52 yX3_needVersion, Cond.static yX3_needVersion, Cond.code yX3_needVersion cX3_needVersion 1 none, Cond.classLink RX3 83 "java/lang/IndexOutOfBoundsException", Cond.initialized "java/lang/IndexOutOfBoundsException", Cond.methodLink RX3 77 yX2_leastBytes, Cond.instanceMethod yX2_leastBytes, Cond.selects RX2 yX2_leastBytes yX2_leastBytes, Cond.initialized RX2, Cond.code yX2_leastBytes cX2_leastBytes 3 (some .int), Cond.fieldLink RX2 20 "Ringroll$Ways" "leastByDeltas" "[[I", Cond.fieldLink RX2 23 "Ringroll$Ways" "leastByImage" "[I", Cond.methodLink RX2 35 Lib.Math.min.name, Cond.static Lib.Math.min.name, Cond.initialized "java/lang/Math", Cond.code Lib.Math.min.name Lib.Math.min.code 2 (some .int), Cond.methodLink RX2 41 yX2_orNone]
def wsL_size_r2 : List Cond := [Cond.static yX2_orNone, Cond.code yX2_orNone cX2_orNone 1 (some .int), Cond.constant RX2 49 (1000000)]
def wsL_size : List Cond := .codeWith yL_size cL_size 5 (some .int) [(0, 10, 13, 13)] :: ((wsL_size_r1 ++ wsL_size_r2) ++ wsX30 ++ wsX20 ++ (vx_atS RX3 87 "java/lang/IndexOutOfBoundsException" ["java/lang/RuntimeException", "java/lang/Exception"]).filter goodWord)
def wsL_sizeByWays_r1 : List Cond := [Cond.classLink RL 13 "java/lang/IndexOutOfBoundsException", Cond.methodLink RL 27 yX3_sizeByWays, Cond.instanceMethod yX3_sizeByWays, Cond.selects RX3 yX3_sizeByWays yX3_sizeByWays, Cond.initialized RX3, Cond.code yX3_sizeByWays cX3_sizeByWays 3 (some .int), Cond.fieldLink RX3 16 "Ringroll" "ways" "LRingroll$Ways;", Cond.methodLink RX3 52 yX3_needVersion, Cond.static yX3_needVersion, Cond.code yX3_needVersion cX3_needVersion 1 none, Cond.classLink RX3 83 "java/lang/IndexOutOfBoundsException", Cond.initialized "java/lang/IndexOutOfBoundsException", Cond.methodLink RX3 80 yX2_leastBytesOfAllWays, Cond.instanceMethod yX2_leastBytesOfAllWays, Cond.selects RX2 yX2_leastBytesOfAllWays yX2_leastBytesOfAllWays, Cond.initialized RX2, Cond.code yX2_leastBytesOfAllWays cX2_leastBytesOfAllWays 5 (some .int), Cond.fieldLink RX2 17 "Ringroll$Ways" "deltas" "[[I", Cond.fieldLink RX2 9 "Ringroll$Ways" "images" "[I", Cond.methodLink RX2 35 Lib.Math.min.name, Cond.static Lib.Math.min.name, Cond.initialized "java/lang/Math", Cond.code Lib.Math.min.name Lib.Math.min.code 2 (some .int), Cond.methodLink RX2 45 yX2_leastAlong]
def wsL_sizeByWays_r2 : List Cond := [Cond.static yX2_leastAlong, Cond.code yX2_leastAlong cX2_leastAlong 8 (some .int), Cond.constant RX2 49 (1000000), Cond.static yX3_has, Cond.code yX3_has cX3_has 2 (some .boolean), Cond.methodLink RX2 41 yX2_orNone, Cond.static yX2_orNone, Cond.code yX2_orNone cX2_orNone 1 (some .int)]
def wsL_sizeByWays : List Cond := .codeWith yL_sizeByWays cL_sizeByWays 5 (some .int) [(0, 10, 13, 13)] :: ((wsL_sizeByWays_r1 ++ wsL_sizeByWays_r2) ++ wsX30 ++ wsX20 ++ (vx_atS RX3 87 "java/lang/IndexOutOfBoundsException" ["java/lang/RuntimeException", "java/lang/Exception"]).filter goodWord)
def wsL_addDevice : List Cond := .codeWith yL_addDevice cL_addDevice 5 (some .int) [(0, 10, 13, 13), (0, 10, 17, 33)] :: ([.classLink RL 13 "java/lang/IndexOutOfBoundsException", .classLink RL 33 "java/lang/IllegalStateException", .methodLink RL 30 yX3_addDevice, .instanceMethod yX3_addDevice, .selects RX3 yX3_addDevice yX3_addDevice, .initialized RX3, .code yX3_addDevice cX3_addDevice 4 (some .int), .classLink RX3 83 "java/lang/IndexOutOfBoundsException", .initialized "java/lang/IndexOutOfBoundsException", .classLink RX3 88 "java/lang/IllegalStateException", .initialized "java/lang/IllegalStateException", .fieldLink RX3 32 "Ringroll" "deviceCount" "I", .fieldLink RX3 9 "Ringroll" "kindsOfVersion" "[I", .fieldLink RX3 22 "Ringroll" "fleet" "[LRingroll$Device;", .fieldLink RX3 99 "Ringroll$Device" "kind" "I", .fieldLink RX3 102 "Ringroll$Device" "version" "I", .fieldLink RX3 105 "Ringroll$Device" "number" "I", .methodLink RX3 52 yX3_needVersion, .static yX3_needVersion, .code yX3_needVersion cX3_needVersion 1 none, .methodLink RX3 93 yX3_has, .static yX3_has, .code yX3_has cX3_has 2 (some .boolean)] ++ wsX30 ++ wsX10 ++ (vx_atS RX3 87 "java/lang/IndexOutOfBoundsException" ["java/lang/RuntimeException", "java/lang/Exception"]).filter goodWord ++ (vx_atS RX3 92 "java/lang/IllegalStateException" ["java/lang/RuntimeException", "java/lang/Exception"]).filter goodWord)
def wsL_charge : List Cond := .codeWith yL_charge cL_charge 5 (some .int) [(0, 10, 13, 13), (0, 10, 17, 15)] :: ([.classLink RL 13 "java/lang/IndexOutOfBoundsException", .classLink RL 15 "java/lang/IllegalArgumentException", .methodLink RL 35 yX3_charge, .instanceMethod yX3_charge, .selects RX3 yX3_charge yX3_charge, .initialized RX3, .code yX3_charge cX3_charge 5 (some .int), .fieldLink RX3 112 "Ringroll$Device" "battery" "I", .methodLink RX3 108 yX3_deviceAt, .instanceMethod yX3_deviceAt, .selects RX3 yX3_deviceAt yX3_deviceAt, .code yX3_deviceAt cX3_deviceAt 2 (some (.object "Ringroll$Device")), .classLink RX3 83 "java/lang/IndexOutOfBoundsException", .initialized "java/lang/IndexOutOfBoundsException", .fieldLink RX3 32 "Ringroll" "deviceCount" "I", .fieldLink RX3 22 "Ringroll" "fleet" "[LRingroll$Device;", .methodLink RX3 55 yX3_needRange, .static yX3_needRange, .code yX3_needRange cX3_needRange 3 none, .classLink RX3 66 "java/lang/IllegalArgumentException", .initialized "java/lang/IllegalArgumentException"] ++ wsX10 ++ wsX30 ++ (vx_atS RX3 87 "java/lang/IndexOutOfBoundsException" ["java/lang/RuntimeException", "java/lang/Exception"]).filter goodWord ++ (vx_atS RX3 70 "java/lang/IllegalArgumentException" ["java/lang/RuntimeException", "java/lang/Exception"]).filter goodWord)
def wsL_setWindow : List Cond := .codeWith yL_setWindow cL_setWindow 5 (some .int) [(0, 7, 10, 13), (0, 7, 14, 15)] :: ([.classLink RL 13 "java/lang/IndexOutOfBoundsException", .classLink RL 15 "java/lang/IllegalArgumentException", .methodLink RL 38 yX3_setWindow, .instanceMethod yX3_setWindow, .selects RX3 yX3_setWindow yX3_setWindow, .initialized RX3, .code yX3_setWindow cX3_setWindow 5 none, .fieldLink RX3 115 "Ringroll$Device" "firstHour" "I", .fieldLink RX3 118 "Ringroll$Device" "lastHour" "I", .methodLink RX3 108 yX3_deviceAt, .instanceMethod yX3_deviceAt, .selects RX3 yX3_deviceAt yX3_deviceAt, .code yX3_deviceAt cX3_deviceAt 2 (some (.object "Ringroll$Device")), .classLink RX3 83 "java/lang/IndexOutOfBoundsException", .initialized "java/lang/IndexOutOfBoundsException", .fieldLink RX3 32 "Ringroll" "deviceCount" "I", .fieldLink RX3 22 "Ringroll" "fleet" "[LRingroll$Device;", .methodLink RX3 55 yX3_needRange, .static yX3_needRange, .code yX3_needRange cX3_needRange 3 none, .classLink RX3 66 "java/lang/IllegalArgumentException", .initialized "java/lang/IllegalArgumentException"] ++ wsX10 ++ wsX30 ++ (vx_atS RX3 87 "java/lang/IndexOutOfBoundsException" ["java/lang/RuntimeException", "java/lang/Exception"]).filter goodWord ++ (vx_atS RX3 70 "java/lang/IllegalArgumentException" ["java/lang/RuntimeException", "java/lang/Exception"]).filter goodWord)
def wsL_report_r1 : List Cond := [Cond.classLink RL 13 "java/lang/IndexOutOfBoundsException", Cond.classLink RL 33 "java/lang/IllegalStateException", Cond.methodLink RL 42 yX3_report, Cond.instanceMethod yX3_report, Cond.selects RX3 yX3_report yX3_report, Cond.initialized RX3, Cond.code yX3_report cX3_report 5 (some .int), Cond.classLink RX3 88 "java/lang/IllegalStateException", Cond.initialized "java/lang/IllegalStateException", Cond.fieldLink RX3 121 "Ringroll$Device" "state" "I", Cond.fieldLink RX3 126 "Ringroll$Device" "campaign" "I", Cond.fieldLink RX3 133 "Ringroll$Campaign" "target" "I", Cond.fieldLink RX3 102 "Ringroll$Device" "version" "I", Cond.methodLink RX3 108 yX3_deviceAt, Cond.instanceMethod yX3_deviceAt, Cond.selects RX3 yX3_deviceAt yX3_deviceAt, Cond.code yX3_deviceAt cX3_deviceAt 2 (some (.object "Ringroll$Device")), Cond.classLink RX3 83 "java/lang/IndexOutOfBoundsException", Cond.initialized "java/lang/IndexOutOfBoundsException", Cond.fieldLink RX3 32 "Ringroll" "deviceCount" "I", Cond.fieldLink RX3 22 "Ringroll" "fleet" "[LRingroll$Device;", Cond.methodLink RX3 129 yX3_campaignAt, Cond.instanceMethod yX3_campaignAt, Cond.selects RX3 yX3_campaignAt yX3_campaignAt]
def wsL_report_r2 : List Cond := [Cond.code yX3_campaignAt cX3_campaignAt 2 (some (.object "Ringroll$Campaign")), Cond.fieldLink RX3 28 "Ringroll" "campaigns" "[LRingroll$Campaign;", Cond.methodLink RX3 146 yX3_needCampaign, Cond.instanceMethod yX3_needCampaign, Cond.selects RX3 yX3_needCampaign yX3_needCampaign, Cond.code yX3_needCampaign cX3_needCampaign 2 none, Cond.fieldLink RX3 36 "Ringroll" "campaignCount" "I", Cond.methodLink RX3 136 yX0_countReport, Cond.instanceMethod yX0_countReport, Cond.selects RX0 yX0_countReport yX0_countReport, Cond.initialized RX0, Cond.code yX0_countReport cX0_countReport 3 none, Cond.fieldLink RX0 46 "Ringroll$Campaign" "reporters" "I", Cond.fieldLink RX0 72 "Ringroll$Device" "number" "I", Cond.fieldLink RX0 40 "Ringroll$Campaign" "reports" "I", Cond.fieldLink RX0 43 "Ringroll$Campaign" "failures" "I", Cond.methodLink RX3 140 yX0_judgeRing, Cond.instanceMethod yX0_judgeRing, Cond.selects RX0 yX0_judgeRing yX0_judgeRing, Cond.code yX0_judgeRing cX0_judgeRing 1 none, Cond.fieldLink RX0 33 "Ringroll$Campaign" "isActive" "Z", Cond.fieldLink RX0 27 "Ringroll$Campaign" "needs" "I", Cond.fieldLink RX0 30 "Ringroll$Campaign" "thousandths" "I", Cond.fieldLink RX0 37 "Ringroll$Campaign" "ring" "I"]
def wsL_report_r3 : List Cond := [Cond.methodLink RX0 73 yX0_beginRing, Cond.instanceMethod yX0_beginRing, Cond.selects RX0 yX0_beginRing yX0_beginRing, Cond.code yX0_beginRing cX0_beginRing 2 none]
def wsL_report : List Cond := .codeWith yL_report cL_report 5 (some .int) [(0, 10, 13, 13), (0, 10, 17, 33)] :: ((wsL_report_r1 ++ (wsL_report_r2 ++ wsL_report_r3)) ++ wsX10 ++ wsX00 ++ wsX30 ++ (vx_atS RX3 92 "java/lang/IllegalStateException" ["java/lang/RuntimeException", "java/lang/Exception"]).filter goodWord ++ (vx_atS RX3 87 "java/lang/IndexOutOfBoundsException" ["java/lang/RuntimeException", "java/lang/Exception"]).filter goodWord)
def wsL_state : List Cond := .codeWith yL_state cL_state 4 (some .int) [(0, 9, 12, 13)] :: ([.classLink RL 13 "java/lang/IndexOutOfBoundsException", .methodLink RL 46 yX3_state, .instanceMethod yX3_state, .selects RX3 yX3_state yX3_state, .initialized RX3, .code yX3_state cX3_state 2 (some .int), .fieldLink RX3 121 "Ringroll$Device" "state" "I", .methodLink RX3 108 yX3_deviceAt, .instanceMethod yX3_deviceAt, .selects RX3 yX3_deviceAt yX3_deviceAt, .code yX3_deviceAt cX3_deviceAt 2 (some (.object "Ringroll$Device")), .classLink RX3 83 "java/lang/IndexOutOfBoundsException", .initialized "java/lang/IndexOutOfBoundsException", .fieldLink RX3 32 "Ringroll" "deviceCount" "I", .fieldLink RX3 22 "Ringroll" "fleet" "[LRingroll$Device;"] ++ wsX10 ++ wsX30 ++ (vx_atS RX3 87 "java/lang/IndexOutOfBoundsException" ["java/lang/RuntimeException", "java/lang/Exception"]).filter goodWord)
def wsL_version : List Cond := .codeWith yL_version cL_version 4 (some .int) [(0, 9, 12, 13)] :: ([.classLink RL 13 "java/lang/IndexOutOfBoundsException", .methodLink RL 50 yX3_version, .instanceMethod yX3_version, .selects RX3 yX3_version yX3_version, .initialized RX3, .code yX3_version cX3_version 2 (some .int), .fieldLink RX3 102 "Ringroll$Device" "version" "I", .methodLink RX3 108 yX3_deviceAt, .instanceMethod yX3_deviceAt, .selects RX3 yX3_deviceAt yX3_deviceAt, .code yX3_deviceAt cX3_deviceAt 2 (some (.object "Ringroll$Device")), .classLink RX3 83 "java/lang/IndexOutOfBoundsException", .initialized "java/lang/IndexOutOfBoundsException", .fieldLink RX3 32 "Ringroll" "deviceCount" "I", .fieldLink RX3 22 "Ringroll" "fleet" "[LRingroll$Device;"] ++ wsX10 ++ wsX30 ++ (vx_atS RX3 87 "java/lang/IndexOutOfBoundsException" ["java/lang/RuntimeException", "java/lang/Exception"]).filter goodWord)
def wsL_campaignOf : List Cond := .codeWith yL_campaignOf cL_campaignOf 4 (some .int) [(0, 9, 12, 13)] :: ([.classLink RL 13 "java/lang/IndexOutOfBoundsException", .methodLink RL 53 yX3_campaignOf, .instanceMethod yX3_campaignOf, .selects RX3 yX3_campaignOf yX3_campaignOf, .initialized RX3, .code yX3_campaignOf cX3_campaignOf 2 (some .int), .fieldLink RX3 126 "Ringroll$Device" "campaign" "I", .methodLink RX3 108 yX3_deviceAt, .instanceMethod yX3_deviceAt, .selects RX3 yX3_deviceAt yX3_deviceAt, .code yX3_deviceAt cX3_deviceAt 2 (some (.object "Ringroll$Device")), .classLink RX3 83 "java/lang/IndexOutOfBoundsException", .initialized "java/lang/IndexOutOfBoundsException", .fieldLink RX3 32 "Ringroll" "deviceCount" "I", .fieldLink RX3 22 "Ringroll" "fleet" "[LRingroll$Device;"] ++ wsX10 ++ wsX30 ++ (vx_atS RX3 87 "java/lang/IndexOutOfBoundsException" ["java/lang/RuntimeException", "java/lang/Exception"]).filter goodWord)
def wsL_toGo : List Cond := .codeWith yL_toGo cL_toGo 4 (some .int) [(0, 9, 12, 13)] :: ([.classLink RL 13 "java/lang/IndexOutOfBoundsException", .methodLink RL 56 yX3_toGo, .instanceMethod yX3_toGo, .selects RX3 yX3_toGo yX3_toGo, .initialized RX3, .code yX3_toGo cX3_toGo 2 (some .int), .fieldLink RX3 143 "Ringroll$Device" "bytesToGo" "I", .methodLink RX3 108 yX3_deviceAt, .instanceMethod yX3_deviceAt, .selects RX3 yX3_deviceAt yX3_deviceAt, .code yX3_deviceAt cX3_deviceAt 2 (some (.object "Ringroll$Device")), .classLink RX3 83 "java/lang/IndexOutOfBoundsException", .initialized "java/lang/IndexOutOfBoundsException", .fieldLink RX3 32 "Ringroll" "deviceCount" "I", .fieldLink RX3 22 "Ringroll" "fleet" "[LRingroll$Device;"] ++ wsX10 ++ wsX30 ++ (vx_atS RX3 87 "java/lang/IndexOutOfBoundsException" ["java/lang/RuntimeException", "java/lang/Exception"]).filter goodWord)
def wsL_battery : List Cond := .codeWith yL_battery cL_battery 4 (some .int) [(0, 9, 12, 13)] :: ([.classLink RL 13 "java/lang/IndexOutOfBoundsException", .methodLink RL 59 yX3_battery, .instanceMethod yX3_battery, .selects RX3 yX3_battery yX3_battery, .initialized RX3, .code yX3_battery cX3_battery 2 (some .int), .fieldLink RX3 112 "Ringroll$Device" "battery" "I", .methodLink RX3 108 yX3_deviceAt, .instanceMethod yX3_deviceAt, .selects RX3 yX3_deviceAt yX3_deviceAt, .code yX3_deviceAt cX3_deviceAt 2 (some (.object "Ringroll$Device")), .classLink RX3 83 "java/lang/IndexOutOfBoundsException", .initialized "java/lang/IndexOutOfBoundsException", .fieldLink RX3 32 "Ringroll" "deviceCount" "I", .fieldLink RX3 22 "Ringroll" "fleet" "[LRingroll$Device;"] ++ wsX10 ++ wsX30 ++ (vx_atS RX3 87 "java/lang/IndexOutOfBoundsException" ["java/lang/RuntimeException", "java/lang/Exception"]).filter goodWord)
def wsL_begin_r1 : List Cond := [Cond.classLink RL 13 "java/lang/IndexOutOfBoundsException", Cond.classLink RL 15 "java/lang/IllegalArgumentException", Cond.classLink RL 33 "java/lang/IllegalStateException", Cond.methodLink RL 62 yX3_begin, Cond.instanceMethod yX3_begin, Cond.selects RX3 yX3_begin yX3_begin, Cond.initialized RX3, Cond.code yX3_begin cX3_begin 6 (some .int), Cond.classLink RX3 88 "java/lang/IllegalStateException", Cond.initialized "java/lang/IllegalStateException", Cond.fieldLink RX3 36 "Ringroll" "campaignCount" "I", Cond.fieldLink RX3 151 "Ringroll$Campaign" "isActive" "Z", Cond.fieldLink RX3 28 "Ringroll" "campaigns" "[LRingroll$Campaign;", Cond.fieldLink RX3 133 "Ringroll$Campaign" "target" "I", Cond.fieldLink RX3 155 "Ringroll$Campaign" "kinds" "I", Cond.fieldLink RX3 158 "Ringroll$Campaign" "versions" "I", Cond.fieldLink RX3 161 "Ringroll$Campaign" "number" "I", Cond.methodLink RX3 52 yX3_needVersion, Cond.static yX3_needVersion, Cond.code yX3_needVersion cX3_needVersion 1 none, Cond.classLink RX3 83 "java/lang/IndexOutOfBoundsException", Cond.initialized "java/lang/IndexOutOfBoundsException", Cond.methodLink RX3 146 yX3_needCampaign, Cond.instanceMethod yX3_needCampaign]
def wsL_begin_r2 : List Cond := [Cond.selects RX3 yX3_needCampaign yX3_needCampaign, Cond.code yX3_needCampaign cX3_needCampaign 2 none, Cond.methodLink RX3 55 yX3_needRange, Cond.static yX3_needRange, Cond.code yX3_needRange cX3_needRange 3 none, Cond.classLink RX3 66 "java/lang/IllegalArgumentException", Cond.initialized "java/lang/IllegalArgumentException", Cond.methodLink RX3 129 yX3_campaignAt, Cond.instanceMethod yX3_campaignAt, Cond.selects RX3 yX3_campaignAt yX3_campaignAt, Cond.code yX3_campaignAt cX3_campaignAt 2 (some (.object "Ringroll$Campaign"))]
def wsL_begin : List Cond := .codeWith yL_begin cL_begin 7 (some .int) [(0, 14, 17, 13), (0, 14, 21, 15), (0, 14, 25, 33)] :: ((wsL_begin_r1 ++ wsL_begin_r2) ++ wsX30 ++ wsX00 ++ (vx_atS RX3 92 "java/lang/IllegalStateException" ["java/lang/RuntimeException", "java/lang/Exception"]).filter goodWord ++ (vx_atS RX3 87 "java/lang/IndexOutOfBoundsException" ["java/lang/RuntimeException", "java/lang/Exception"]).filter goodWord ++ (vx_atS RX3 70 "java/lang/IllegalArgumentException" ["java/lang/RuntimeException", "java/lang/Exception"]).filter goodWord)
def wsL_setRules_r1 : List Cond := [Cond.classLink RL 13 "java/lang/IndexOutOfBoundsException", Cond.classLink RL 15 "java/lang/IllegalArgumentException", Cond.methodLink RL 66 yX3_setRules, Cond.instanceMethod yX3_setRules, Cond.selects RX3 yX3_setRules yX3_setRules, Cond.initialized RX3, Cond.code yX3_setRules cX3_setRules 7 none, Cond.fieldLink RX3 162 "Ringroll$Campaign" "firstShare" "I", Cond.fieldLink RX3 165 "Ringroll$Campaign" "secondShare" "I", Cond.fieldLink RX3 168 "Ringroll$Campaign" "needs" "I", Cond.fieldLink RX3 171 "Ringroll$Campaign" "thousandths" "I", Cond.methodLink RX3 129 yX3_campaignAt, Cond.instanceMethod yX3_campaignAt, Cond.selects RX3 yX3_campaignAt yX3_campaignAt, Cond.code yX3_campaignAt cX3_campaignAt 2 (some (.object "Ringroll$Campaign")), Cond.fieldLink RX3 28 "Ringroll" "campaigns" "[LRingroll$Campaign;", Cond.methodLink RX3 146 yX3_needCampaign, Cond.instanceMethod yX3_needCampaign, Cond.selects RX3 yX3_needCampaign yX3_needCampaign, Cond.code yX3_needCampaign cX3_needCampaign 2 none, Cond.classLink RX3 83 "java/lang/IndexOutOfBoundsException", Cond.initialized "java/lang/IndexOutOfBoundsException", Cond.fieldLink RX3 36 "Ringroll" "campaignCount" "I", Cond.methodLink RX3 55 yX3_needRange]
def wsL_setRules_r2 : List Cond := [Cond.static yX3_needRange, Cond.code yX3_needRange cX3_needRange 3 none, Cond.classLink RX3 66 "java/lang/IllegalArgumentException", Cond.initialized "java/lang/IllegalArgumentException"]
def wsL_setRules : List Cond := .codeWith yL_setRules cL_setRules 7 (some .int) [(0, 11, 14, 13), (0, 11, 18, 15)] :: ((wsL_setRules_r1 ++ wsL_setRules_r2) ++ wsX00 ++ wsX30 ++ (vx_atS RX3 87 "java/lang/IndexOutOfBoundsException" ["java/lang/RuntimeException", "java/lang/Exception"]).filter goodWord ++ (vx_atS RX3 70 "java/lang/IllegalArgumentException" ["java/lang/RuntimeException", "java/lang/Exception"]).filter goodWord)
def wsL_toggle_r1 : List Cond := [Cond.classLink RL 13 "java/lang/IndexOutOfBoundsException", Cond.methodLink RL 70 yX3_toggle, Cond.instanceMethod yX3_toggle, Cond.selects RX3 yX3_toggle yX3_toggle, Cond.initialized RX3, Cond.code yX3_toggle cX3_toggle 3 (some .boolean), Cond.fieldLink RX3 151 "Ringroll$Campaign" "isActive" "Z", Cond.fieldLink RX3 174 "Ringroll$Campaign" "ring" "I", Cond.methodLink RX3 129 yX3_campaignAt, Cond.instanceMethod yX3_campaignAt, Cond.selects RX3 yX3_campaignAt yX3_campaignAt, Cond.code yX3_campaignAt cX3_campaignAt 2 (some (.object "Ringroll$Campaign")), Cond.fieldLink RX3 28 "Ringroll" "campaigns" "[LRingroll$Campaign;", Cond.methodLink RX3 146 yX3_needCampaign, Cond.instanceMethod yX3_needCampaign, Cond.selects RX3 yX3_needCampaign yX3_needCampaign, Cond.code yX3_needCampaign cX3_needCampaign 2 none, Cond.classLink RX3 83 "java/lang/IndexOutOfBoundsException", Cond.initialized "java/lang/IndexOutOfBoundsException", Cond.fieldLink RX3 36 "Ringroll" "campaignCount" "I", Cond.methodLink RX3 177 yX0_beginRing, Cond.instanceMethod yX0_beginRing, Cond.selects RX0 yX0_beginRing yX0_beginRing, Cond.initialized RX0]
def wsL_toggle_r2 : List Cond := [Cond.code yX0_beginRing cX0_beginRing 2 none, Cond.fieldLink RX0 37 "Ringroll$Campaign" "ring" "I", Cond.fieldLink RX0 40 "Ringroll$Campaign" "reports" "I", Cond.fieldLink RX0 43 "Ringroll$Campaign" "failures" "I"]
def wsL_toggle : List Cond := .codeWith yL_toggle cL_toggle 4 (some .int) [(0, 16, 19, 13)] :: ((wsL_toggle_r1 ++ wsL_toggle_r2) ++ wsX00 ++ wsX30 ++ (vx_atS RX3 87 "java/lang/IndexOutOfBoundsException" ["java/lang/RuntimeException", "java/lang/Exception"]).filter goodWord)
def wsL_isActive : List Cond := .codeWith yL_isActive cL_isActive 4 (some .int) [(0, 16, 19, 13)] :: ([.classLink RL 13 "java/lang/IndexOutOfBoundsException", .methodLink RL 74 yX3_isActive, .instanceMethod yX3_isActive, .selects RX3 yX3_isActive yX3_isActive, .initialized RX3, .code yX3_isActive cX3_isActive 2 (some .boolean), .fieldLink RX3 151 "Ringroll$Campaign" "isActive" "Z", .methodLink RX3 129 yX3_campaignAt, .instanceMethod yX3_campaignAt, .selects RX3 yX3_campaignAt yX3_campaignAt, .code yX3_campaignAt cX3_campaignAt 2 (some (.object "Ringroll$Campaign")), .fieldLink RX3 28 "Ringroll" "campaigns" "[LRingroll$Campaign;", .methodLink RX3 146 yX3_needCampaign, .instanceMethod yX3_needCampaign, .selects RX3 yX3_needCampaign yX3_needCampaign, .code yX3_needCampaign cX3_needCampaign 2 none, .classLink RX3 83 "java/lang/IndexOutOfBoundsException", .initialized "java/lang/IndexOutOfBoundsException", .fieldLink RX3 36 "Ringroll" "campaignCount" "I"] ++ wsX00 ++ wsX30 ++ (vx_atS RX3 87 "java/lang/IndexOutOfBoundsException" ["java/lang/RuntimeException", "java/lang/Exception"]).filter goodWord)
def wsL_ring : List Cond := .codeWith yL_ring cL_ring 4 (some .int) [(0, 9, 12, 13)] :: ([.classLink RL 13 "java/lang/IndexOutOfBoundsException", .methodLink RL 77 yX3_ring, .instanceMethod yX3_ring, .selects RX3 yX3_ring yX3_ring, .initialized RX3, .code yX3_ring cX3_ring 2 (some .int), .fieldLink RX3 174 "Ringroll$Campaign" "ring" "I", .methodLink RX3 129 yX3_campaignAt, .instanceMethod yX3_campaignAt, .selects RX3 yX3_campaignAt yX3_campaignAt, .code yX3_campaignAt cX3_campaignAt 2 (some (.object "Ringroll$Campaign")), .fieldLink RX3 28 "Ringroll" "campaigns" "[LRingroll$Campaign;", .methodLink RX3 146 yX3_needCampaign, .instanceMethod yX3_needCampaign, .selects RX3 yX3_needCampaign yX3_needCampaign, .code yX3_needCampaign cX3_needCampaign 2 none, .classLink RX3 83 "java/lang/IndexOutOfBoundsException", .initialized "java/lang/IndexOutOfBoundsException", .fieldLink RX3 36 "Ringroll" "campaignCount" "I"] ++ wsX00 ++ wsX30 ++ (vx_atS RX3 87 "java/lang/IndexOutOfBoundsException" ["java/lang/RuntimeException", "java/lang/Exception"]).filter goodWord)
def wsL_reports : List Cond := .codeWith yL_reports cL_reports 4 (some .int) [(0, 9, 12, 13)] :: ([.classLink RL 13 "java/lang/IndexOutOfBoundsException", .methodLink RL 80 yX3_reports, .instanceMethod yX3_reports, .selects RX3 yX3_reports yX3_reports, .initialized RX3, .code yX3_reports cX3_reports 2 (some .int), .fieldLink RX3 180 "Ringroll$Campaign" "reports" "I", .methodLink RX3 129 yX3_campaignAt, .instanceMethod yX3_campaignAt, .selects RX3 yX3_campaignAt yX3_campaignAt, .code yX3_campaignAt cX3_campaignAt 2 (some (.object "Ringroll$Campaign")), .fieldLink RX3 28 "Ringroll" "campaigns" "[LRingroll$Campaign;", .methodLink RX3 146 yX3_needCampaign, .instanceMethod yX3_needCampaign, .selects RX3 yX3_needCampaign yX3_needCampaign, .code yX3_needCampaign cX3_needCampaign 2 none, .classLink RX3 83 "java/lang/IndexOutOfBoundsException", .initialized "java/lang/IndexOutOfBoundsException", .fieldLink RX3 36 "Ringroll" "campaignCount" "I"] ++ wsX00 ++ wsX30 ++ (vx_atS RX3 87 "java/lang/IndexOutOfBoundsException" ["java/lang/RuntimeException", "java/lang/Exception"]).filter goodWord)
def wsL_eligible_r1 : List Cond := [Cond.classLink RL 13 "java/lang/IndexOutOfBoundsException", Cond.methodLink RL 83 yX3_eligible, Cond.instanceMethod yX3_eligible, Cond.selects RX3 yX3_eligible yX3_eligible, Cond.initialized RX3, Cond.code yX3_eligible cX3_eligible 5 (some .int), Cond.fieldLink RX3 32 "Ringroll" "deviceCount" "I", Cond.fieldLink RX3 22 "Ringroll" "fleet" "[LRingroll$Device;", Cond.methodLink RX3 129 yX3_campaignAt, Cond.instanceMethod yX3_campaignAt, Cond.selects RX3 yX3_campaignAt yX3_campaignAt, Cond.code yX3_campaignAt cX3_campaignAt 2 (some (.object "Ringroll$Campaign")), Cond.fieldLink RX3 28 "Ringroll" "campaigns" "[LRingroll$Campaign;", Cond.methodLink RX3 146 yX3_needCampaign, Cond.instanceMethod yX3_needCampaign, Cond.selects RX3 yX3_needCampaign yX3_needCampaign, Cond.code yX3_needCampaign cX3_needCampaign 2 none, Cond.classLink RX3 83 "java/lang/IndexOutOfBoundsException", Cond.initialized "java/lang/IndexOutOfBoundsException", Cond.fieldLink RX3 36 "Ringroll" "campaignCount" "I", Cond.methodLink RX3 183 yX3_mayTake, Cond.instanceMethod yX3_mayTake, Cond.selects RX3 yX3_mayTake yX3_mayTake, Cond.code yX3_mayTake cX3_mayTake 3 (some .boolean)]
def wsL_eligible_r2 : List Cond := [Cond.fieldLink RX3 121 "Ringroll$Device" "state" "I", Cond.fieldLink RX3 9 "Ringroll" "kindsOfVersion" "[I", Cond.fieldLink RX3 133 "Ringroll$Campaign" "target" "I", Cond.fieldLink RX3 99 "Ringroll$Device" "kind" "I", Cond.fieldLink RX3 16 "Ringroll" "ways" "LRingroll$Ways;", Cond.fieldLink RX3 102 "Ringroll$Device" "version" "I", Cond.methodLink RX3 206 yX0_isFor, Cond.instanceMethod yX0_isFor, Cond.selects RX0 yX0_isFor yX0_isFor, Cond.initialized RX0, Cond.code yX0_isFor cX0_isFor 2 (some .boolean), Cond.fieldLink RX0 33 "Ringroll$Campaign" "isActive" "Z", Cond.fieldLink RX0 15 "Ringroll$Campaign" "kinds" "I", Cond.fieldLink RX0 52 "Ringroll$Device" "kind" "I", Cond.fieldLink RX0 18 "Ringroll$Campaign" "versions" "I", Cond.fieldLink RX0 61 "Ringroll$Device" "version" "I", Cond.fieldLink RX0 9 "Ringroll$Campaign" "target" "I", Cond.fieldLink RX0 46 "Ringroll$Campaign" "reporters" "I", Cond.fieldLink RX0 72 "Ringroll$Device" "number" "I", Cond.static yX3_has, Cond.code yX3_has cX3_has 2 (some .boolean), Cond.methodLink RX0 64 yX0_drawOf, Cond.instanceMethod yX0_drawOf, Cond.selects RX0 yX0_drawOf yX0_drawOf]
def wsL_eligible_r3 : List Cond := [Cond.code yX0_drawOf cX0_drawOf 2 (some .int), Cond.fieldLink RX0 49 "Ringroll$Campaign" "number" "I", Cond.methodLink RX0 68 yX0_share, Cond.instanceMethod yX0_share, Cond.selects RX0 yX0_share yX0_share, Cond.code yX0_share cX0_share 1 (some .int), Cond.fieldLink RX0 37 "Ringroll$Campaign" "ring" "I", Cond.fieldLink RX0 21 "Ringroll$Campaign" "firstShare" "I", Cond.fieldLink RX0 24 "Ringroll$Campaign" "secondShare" "I", Cond.methodLink RX3 93 yX3_has, Cond.methodLink RX3 77 yX2_leastBytes, Cond.instanceMethod yX2_leastBytes, Cond.selects RX2 yX2_leastBytes yX2_leastBytes, Cond.initialized RX2, Cond.code yX2_leastBytes cX2_leastBytes 3 (some .int), Cond.fieldLink RX2 20 "Ringroll$Ways" "leastByDeltas" "[[I", Cond.fieldLink RX2 23 "Ringroll$Ways" "leastByImage" "[I", Cond.methodLink RX2 35 Lib.Math.min.name, Cond.static Lib.Math.min.name, Cond.initialized "java/lang/Math", Cond.code Lib.Math.min.name Lib.Math.min.code 2 (some .int), Cond.methodLink RX2 41 yX2_orNone, Cond.static yX2_orNone, Cond.code yX2_orNone cX2_orNone 1 (some .int)]
def wsL_eligible_r4 : List Cond := [Cond.constant RX2 49 (1000000)]
def wsL_eligible : List Cond := .codeWith yL_eligible cL_eligible 4 (some .int) [(0, 9, 12, 13)] :: ((wsL_eligible_r1 ++ (wsL_eligible_r2 ++ (wsL_eligible_r3 ++ wsL_eligible_r4))) ++ wsX30 ++ wsX10 ++ wsX00 ++ wsX20 ++ (vx_atS RX3 87 "java/lang/IndexOutOfBoundsException" ["java/lang/RuntimeException", "java/lang/Exception"]).filter goodWord)
def wsL_pass_r1 : List Cond := [Cond.classLink RL 15 "java/lang/IllegalArgumentException", Cond.methodLink RL 86 yX3_pass, Cond.instanceMethod yX3_pass, Cond.selects RX3 yX3_pass yX3_pass, Cond.initialized RX3, Cond.code yX3_pass cX3_pass 4 (some .int), Cond.methodLink RX3 55 yX3_needRange, Cond.static yX3_needRange, Cond.code yX3_needRange cX3_needRange 3 none, Cond.classLink RX3 66 "java/lang/IllegalArgumentException", Cond.initialized "java/lang/IllegalArgumentException", Cond.methodLink RX3 187 yX3_passOneHour, Cond.instanceMethod yX3_passOneHour, Cond.selects RX3 yX3_passOneHour yX3_passOneHour, Cond.code yX3_passOneHour cX3_passOneHour 4 (some .int), Cond.fieldLink RX3 32 "Ringroll" "deviceCount" "I", Cond.fieldLink RX3 22 "Ringroll" "fleet" "[LRingroll$Device;", Cond.fieldLink RX3 39 "Ringroll" "hourOfDay" "I", Cond.fieldLink RX3 121 "Ringroll$Device" "state" "I", Cond.methodLink RX3 191 yX3_takeLowestCampaign, Cond.instanceMethod yX3_takeLowestCampaign, Cond.selects RX3 yX3_takeLowestCampaign yX3_takeLowestCampaign, Cond.code yX3_takeLowestCampaign cX3_takeLowestCampaign 4 none, Cond.fieldLink RX3 36 "Ringroll" "campaignCount" "I"]
def wsL_pass_r2 : List Cond := [Cond.fieldLink RX3 28 "Ringroll" "campaigns" "[LRingroll$Campaign;", Cond.fieldLink RX3 16 "Ringroll" "ways" "LRingroll$Ways;", Cond.fieldLink RX3 102 "Ringroll$Device" "version" "I", Cond.fieldLink RX3 133 "Ringroll$Campaign" "target" "I", Cond.methodLink RX3 183 yX3_mayTake, Cond.instanceMethod yX3_mayTake, Cond.selects RX3 yX3_mayTake yX3_mayTake, Cond.code yX3_mayTake cX3_mayTake 3 (some .boolean), Cond.fieldLink RX3 9 "Ringroll" "kindsOfVersion" "[I", Cond.fieldLink RX3 99 "Ringroll$Device" "kind" "I", Cond.methodLink RX3 206 yX0_isFor, Cond.instanceMethod yX0_isFor, Cond.selects RX0 yX0_isFor yX0_isFor, Cond.initialized RX0, Cond.code yX0_isFor cX0_isFor 2 (some .boolean), Cond.fieldLink RX0 33 "Ringroll$Campaign" "isActive" "Z", Cond.fieldLink RX0 15 "Ringroll$Campaign" "kinds" "I", Cond.fieldLink RX0 52 "Ringroll$Device" "kind" "I", Cond.fieldLink RX0 18 "Ringroll$Campaign" "versions" "I", Cond.fieldLink RX0 61 "Ringroll$Device" "version" "I", Cond.fieldLink RX0 9 "Ringroll$Campaign" "target" "I", Cond.fieldLink RX0 46 "Ringroll$Campaign" "reporters" "I", Cond.fieldLink RX0 72 "Ringroll$Device" "number" "I", Cond.static yX3_has]
def wsL_pass_r3 : List Cond := [Cond.code yX3_has cX3_has 2 (some .boolean), Cond.methodLink RX0 64 yX0_drawOf, Cond.instanceMethod yX0_drawOf, Cond.selects RX0 yX0_drawOf yX0_drawOf, Cond.code yX0_drawOf cX0_drawOf 2 (some .int), Cond.fieldLink RX0 49 "Ringroll$Campaign" "number" "I", Cond.methodLink RX0 68 yX0_share, Cond.instanceMethod yX0_share, Cond.selects RX0 yX0_share yX0_share, Cond.code yX0_share cX0_share 1 (some .int), Cond.fieldLink RX0 37 "Ringroll$Campaign" "ring" "I", Cond.fieldLink RX0 21 "Ringroll$Campaign" "firstShare" "I", Cond.fieldLink RX0 24 "Ringroll$Campaign" "secondShare" "I", Cond.methodLink RX3 93 yX3_has, Cond.methodLink RX3 77 yX2_leastBytes, Cond.instanceMethod yX2_leastBytes, Cond.selects RX2 yX2_leastBytes yX2_leastBytes, Cond.initialized RX2, Cond.code yX2_leastBytes cX2_leastBytes 3 (some .int), Cond.fieldLink RX2 20 "Ringroll$Ways" "leastByDeltas" "[[I", Cond.fieldLink RX2 23 "Ringroll$Ways" "leastByImage" "[I", Cond.methodLink RX2 35 Lib.Math.min.name, Cond.static Lib.Math.min.name, Cond.initialized "java/lang/Math"]
def wsL_pass_r4 : List Cond := [Cond.code Lib.Math.min.name Lib.Math.min.code 2 (some .int), Cond.methodLink RX2 41 yX2_orNone, Cond.static yX2_orNone, Cond.code yX2_orNone cX2_orNone 1 (some .int), Cond.constant RX2 49 (1000000), Cond.methodLink RX3 202 yX1_take, Cond.instanceMethod yX1_take, Cond.selects RX1 yX1_take yX1_take, Cond.initialized RX1, Cond.code yX1_take cX1_take 3 none, Cond.fieldLink RX1 27 "Ringroll$Device" "state" "I", Cond.fieldLink RX1 39 "Ringroll$Campaign" "number" "I", Cond.fieldLink RX1 30 "Ringroll$Device" "campaign" "I", Cond.fieldLink RX1 33 "Ringroll$Device" "bytesToGo" "I", Cond.methodLink RX3 195 yX1_canLoad, Cond.instanceMethod yX1_canLoad, Cond.selects RX1 yX1_canLoad yX1_canLoad, Cond.code yX1_canLoad cX1_canLoad 2 (some .boolean), Cond.fieldLink RX1 18 "Ringroll$Device" "battery" "I", Cond.methodLink RX1 42 yX1_isInWindow, Cond.instanceMethod yX1_isInWindow, Cond.selects RX1 yX1_isInWindow yX1_isInWindow, Cond.code yX1_isInWindow cX1_isInWindow 2 (some .boolean), Cond.fieldLink RX1 21 "Ringroll$Device" "firstHour" "I"]
def wsL_pass_r5 : List Cond := [Cond.fieldLink RX1 24 "Ringroll$Device" "lastHour" "I", Cond.methodLink RX3 199 yX1_load, Cond.instanceMethod yX1_load, Cond.selects RX1 yX1_load yX1_load, Cond.code yX1_load cX1_load 1 none, Cond.methodLink RX1 46 Lib.Math.max.name, Cond.static Lib.Math.max.name, Cond.code Lib.Math.max.name Lib.Math.max.code 2 (some .int)]
def wsL_pass : List Cond := .codeWith yL_pass cL_pass 4 (some .int) [(0, 9, 12, 15)] :: ((wsL_pass_r1 ++ (wsL_pass_r2 ++ (wsL_pass_r3 ++ (wsL_pass_r4 ++ wsL_pass_r5)))) ++ wsX30 ++ wsX10 ++ wsX00 ++ wsX20 ++ (vx_atS RX3 70 "java/lang/IllegalArgumentException" ["java/lang/RuntimeException", "java/lang/Exception"]).filter goodWord)
def wsL_law0_r1 : List Cond := [Cond.classLink RL 8 RX3, Cond.instantiable RX3 7, Cond.initialized RX3, Cond.classLink RL 90 RX4, Cond.instantiable RX4 27, Cond.initialized RX4, Cond.arrayClass .long, Cond.methodLink RL 89 yX3_init, Cond.instanceMethod yX3_init, Cond.code yX3_init cX3_init 2 none, Cond.methodLink RX3 1 objectInit, Cond.instanceMethod objectInit, Cond.code objectInit ⟨#[0xb1]⟩ 1 none, Cond.arrayClass .int, Cond.fieldLink RX3 9 "Ringroll" "kindsOfVersion" "[I", Cond.classLink RX3 13 RX2, Cond.instantiable RX2 4, Cond.initialized RX2, Cond.fieldLink RX3 16 "Ringroll" "ways" "LRingroll$Ways;", Cond.classLink RX3 20 RX1, Cond.fieldLink RX3 22 "Ringroll" "fleet" "[LRingroll$Device;", Cond.classLink RX3 26 RX0, Cond.fieldLink RX3 28 "Ringroll" "campaigns" "[LRingroll$Campaign;", Cond.fieldLink RX3 32 "Ringroll" "deviceCount" "I"]
def wsL_law0_r2 : List Cond := [Cond.fieldLink RX3 36 "Ringroll" "campaignCount" "I", Cond.fieldLink RX3 39 "Ringroll" "hourOfDay" "I", Cond.instantiable RX1 9, Cond.initialized RX1, Cond.instantiable RX0 13, Cond.initialized RX0, Cond.methodLink RX3 15 yX2_init, Cond.instanceMethod yX2_init, Cond.code yX2_init cX2_init 2 none, Cond.methodLink RX2 3 objectInit, Cond.fieldLink RX2 9 "Ringroll$Ways" "images" "[I", Cond.classLink RX2 15 "[[I", Cond.fieldLink RX2 17 "Ringroll$Ways" "deltas" "[[I", Cond.fieldLink RX2 20 "Ringroll$Ways" "leastByDeltas" "[[I", Cond.fieldLink RX2 23 "Ringroll$Ways" "leastByImage" "[I", Cond.methodLink RX2 26 yJ7_fill_53178, Cond.static yJ7_fill_53178, Cond.initialized RJ7, Cond.code yJ7_fill_53178 cJ7_fill_53178 4 none, Cond.methodLink RX2 32 yX2_measure, Cond.instanceMethod yX2_measure, Cond.selects RX2 yX2_measure yX2_measure, Cond.code yX2_measure cX2_measure 3 none, Cond.constant RX2 49 (1000000)]
def wsL_law0_r3 : List Cond := [Cond.methodLink RX2 35 Lib.Math.min.name, Cond.static Lib.Math.min.name, Cond.initialized "java/lang/Math", Cond.code Lib.Math.min.name Lib.Math.min.code 2 (some .int), Cond.methodLink RX2 54 yX2_orFar, Cond.static yX2_orFar, Cond.code yX2_orFar cX2_orFar 1 (some .int), Cond.methodLink RX2 57 yX2_measureVia, Cond.instanceMethod yX2_measureVia, Cond.selects RX2 yX2_measureVia yX2_measureVia, Cond.code yX2_measureVia cX2_measureVia 5 none, Cond.methodLink RX3 42 yJ7_fill_53178, Cond.methodLink RX3 48 yX1_init, Cond.instanceMethod yX1_init, Cond.code yX1_init cX1_init 2 none, Cond.methodLink RX1 3 objectInit, Cond.fieldLink RX1 9 "Ringroll$Device" "kind" "I", Cond.fieldLink RX1 15 "Ringroll$Device" "version" "I", Cond.fieldLink RX1 18 "Ringroll$Device" "battery" "I", Cond.fieldLink RX1 21 "Ringroll$Device" "firstHour" "I", Cond.fieldLink RX1 24 "Ringroll$Device" "lastHour" "I", Cond.fieldLink RX1 27 "Ringroll$Device" "state" "I", Cond.fieldLink RX1 30 "Ringroll$Device" "campaign" "I", Cond.fieldLink RX1 33 "Ringroll$Device" "bytesToGo" "I"]
def wsL_law0_r4 : List Cond := [Cond.fieldLink RX1 36 "Ringroll$Device" "number" "I", Cond.methodLink RX3 51 yX0_init, Cond.instanceMethod yX0_init, Cond.code yX0_init cX0_init 2 none, Cond.methodLink RX0 3 objectInit, Cond.fieldLink RX0 9 "Ringroll$Campaign" "target" "I", Cond.fieldLink RX0 15 "Ringroll$Campaign" "kinds" "I", Cond.fieldLink RX0 18 "Ringroll$Campaign" "versions" "I", Cond.fieldLink RX0 21 "Ringroll$Campaign" "firstShare" "I", Cond.fieldLink RX0 24 "Ringroll$Campaign" "secondShare" "I", Cond.fieldLink RX0 27 "Ringroll$Campaign" "needs" "I", Cond.fieldLink RX0 30 "Ringroll$Campaign" "thousandths" "I", Cond.fieldLink RX0 33 "Ringroll$Campaign" "isActive" "Z", Cond.fieldLink RX0 37 "Ringroll$Campaign" "ring" "I", Cond.fieldLink RX0 40 "Ringroll$Campaign" "reports" "I", Cond.fieldLink RX0 43 "Ringroll$Campaign" "failures" "I", Cond.fieldLink RX0 46 "Ringroll$Campaign" "reporters" "I", Cond.fieldLink RX0 49 "Ringroll$Campaign" "number" "I", Cond.methodLink RL 92 yX4_init, Cond.instanceMethod yX4_init, Cond.code yX4_init cX4_init 2 none, Cond.methodLink RX4 1 objectInit, Cond.fieldLink RX4 7 "RingrollModel" "allowed" "[I", Cond.fieldLink RX4 13 "RingrollModel" "images" "[I"]
def wsL_law0_r5 : List Cond := [Cond.fieldLink RX4 16 "RingrollModel" "deltas" "[I", Cond.fieldLink RX4 19 "RingrollModel" "reached" "[I", Cond.fieldLink RX4 22 "RingrollModel" "kinds" "[I", Cond.fieldLink RX4 25 "RingrollModel" "versions" "[I", Cond.fieldLink RX4 28 "RingrollModel" "batteries" "[I", Cond.fieldLink RX4 31 "RingrollModel" "froms" "[I", Cond.fieldLink RX4 34 "RingrollModel" "tos" "[I", Cond.fieldLink RX4 37 "RingrollModel" "states" "[I", Cond.fieldLink RX4 40 "RingrollModel" "taken" "[I", Cond.fieldLink RX4 43 "RingrollModel" "left" "[I", Cond.fieldLink RX4 46 "RingrollModel" "targets" "[I", Cond.fieldLink RX4 49 "RingrollModel" "forKinds" "[I", Cond.fieldLink RX4 52 "RingrollModel" "forVersions" "[I", Cond.arrayClass .boolean, Cond.fieldLink RX4 55 "RingrollModel" "isActive" "[Z", Cond.fieldLink RX4 59 "RingrollModel" "rings" "[I", Cond.fieldLink RX4 62 "RingrollModel" "shares" "[I", Cond.fieldLink RX4 65 "RingrollModel" "needs" "[I", Cond.fieldLink RX4 68 "RingrollModel" "bears" "[I", Cond.fieldLink RX4 71 "RingrollModel" "reports" "[I", Cond.fieldLink RX4 74 "RingrollModel" "failures" "[I", Cond.fieldLink RX4 77 "RingrollModel" "reporters" "[I", Cond.methodLink RL 93 yL_allow, Cond.static yL_allow]
def wsL_law0_r6 : List Cond := [Cond.initialized RL, Cond.codeWith yL_allow cL_allow 5 (some .int) [(0, 10, 13, 13), (0, 10, 17, 15)], Cond.classLink RL 13 "java/lang/IndexOutOfBoundsException", Cond.classLink RL 15 "java/lang/IllegalArgumentException", Cond.methodLink RL 7 yX3_allow, Cond.instanceMethod yX3_allow, Cond.selects RX3 yX3_allow yX3_allow, Cond.code yX3_allow cX3_allow 4 (some .int), Cond.methodLink RX3 52 yX3_needVersion, Cond.static yX3_needVersion, Cond.code yX3_needVersion cX3_needVersion 1 none, Cond.classLink RX3 83 "java/lang/IndexOutOfBoundsException", Cond.initialized "java/lang/IndexOutOfBoundsException", Cond.methodLink RX3 55 yX3_needRange, Cond.static yX3_needRange, Cond.code yX3_needRange cX3_needRange 3 none, Cond.classLink RX3 66 "java/lang/IllegalArgumentException", Cond.initialized "java/lang/IllegalArgumentException", Cond.methodLink RL 98 yX4_allow, Cond.instanceMethod yX4_allow, Cond.selects RX4 yX4_allow yX4_allow, Cond.code yX4_allow cX4_allow 4 (some .int), Cond.methodLink RX4 95 yX4_isVersion, Cond.static yX4_isVersion]
def wsL_law0_r7 : List Cond := [Cond.code yX4_isVersion cX4_isVersion 1 (some .boolean), Cond.methodLink RX4 84 yX4_in, Cond.static yX4_in, Cond.code yX4_in cX4_in 3 (some .boolean), Cond.methodLink RX4 99 yX4_refused, Cond.instanceMethod yX4_refused, Cond.selects RX4 yX4_refused yX4_refused, Cond.code yX4_refused cX4_refused 2 (some .boolean), Cond.fieldLink RX4 80 "RingrollModel" "refusal" "I", Cond.methodLink RL 99 yX4_thrown, Cond.instanceMethod yX4_thrown, Cond.selects RX4 yX4_thrown yX4_thrown, Cond.code yX4_thrown cX4_thrown 1 (some .int), Cond.methodLink RL 103 yL_setImage, Cond.static yL_setImage, Cond.codeWith yL_setImage cL_setImage 5 (some .int) [(0, 10, 13, 13), (0, 10, 17, 15)], Cond.methodLink RL 17 yX3_setImage, Cond.instanceMethod yX3_setImage, Cond.selects RX3 yX3_setImage yX3_setImage, Cond.code yX3_setImage cX3_setImage 3 (some .int), Cond.methodLink RX3 59 yX3_needBytesOrNone, Cond.static yX3_needBytesOrNone, Cond.code yX3_needBytesOrNone cX3_needBytesOrNone 1 none, Cond.constant RX3 216 (100000)]
def wsL_law0_r8 : List Cond := [Cond.methodLink RX3 62 yX2_changeImage, Cond.instanceMethod yX2_changeImage, Cond.selects RX2 yX2_changeImage yX2_changeImage, Cond.code yX2_changeImage cX2_changeImage 4 (some .int), Cond.methodLink RL 105 yX4_setImage, Cond.instanceMethod yX4_setImage, Cond.selects RX4 yX4_setImage yX4_setImage, Cond.code yX4_setImage cX4_setImage 4 (some .int), Cond.methodLink RX4 102 yX4_isSize, Cond.static yX4_isSize, Cond.code yX4_isSize cX4_isSize 1 (some .boolean), Cond.constant RX4 88 (100000), Cond.methodLink RL 106 yL_setDelta, Cond.static yL_setDelta, Cond.codeWith yL_setDelta cL_setDelta 6 (some .int) [(0, 12, 15, 13), (0, 12, 19, 15)], Cond.methodLink RL 20 yX3_setDelta, Cond.instanceMethod yX3_setDelta, Cond.selects RX3 yX3_setDelta yX3_setDelta, Cond.code yX3_setDelta cX3_setDelta 4 (some .int), Cond.methodLink RX3 73 yX2_changeDelta, Cond.instanceMethod yX2_changeDelta, Cond.selects RX2 yX2_changeDelta yX2_changeDelta, Cond.code yX2_changeDelta cX2_changeDelta 5 (some .int), Cond.methodLink RL 109 yX4_setDelta]
def wsL_law0_r9 : List Cond := [Cond.instanceMethod yX4_setDelta, Cond.selects RX4 yX4_setDelta yX4_setDelta, Cond.code yX4_setDelta cX4_setDelta 6 (some .int), Cond.methodLink RL 110 yL_size, Cond.static yL_size, Cond.codeWith yL_size cL_size 5 (some .int) [(0, 10, 13, 13)], Cond.methodLink RL 24 yX3_size, Cond.instanceMethod yX3_size, Cond.selects RX3 yX3_size yX3_size, Cond.code yX3_size cX3_size 3 (some .int), Cond.methodLink RX3 77 yX2_leastBytes, Cond.instanceMethod yX2_leastBytes, Cond.selects RX2 yX2_leastBytes yX2_leastBytes, Cond.code yX2_leastBytes cX2_leastBytes 3 (some .int), Cond.methodLink RX2 41 yX2_orNone, Cond.static yX2_orNone, Cond.code yX2_orNone cX2_orNone 1 (some .int), Cond.methodLink RL 112 yX4_size, Cond.instanceMethod yX4_size, Cond.selects RX4 yX4_size yX4_size, Cond.code yX4_size cX4_size 3 (some .int), Cond.methodLink RX4 106 yX4_sizeOf, Cond.instanceMethod yX4_sizeOf, Cond.selects RX4 yX4_sizeOf yX4_sizeOf]
def wsL_law0_r10 : List Cond := [Cond.code yX4_sizeOf cX4_sizeOf 5 (some .int), Cond.constant RX4 105 (100000000), Cond.methodLink RL 113 yL_sizeByWays, Cond.static yL_sizeByWays, Cond.codeWith yL_sizeByWays cL_sizeByWays 5 (some .int) [(0, 10, 13, 13)], Cond.methodLink RL 27 yX3_sizeByWays, Cond.instanceMethod yX3_sizeByWays, Cond.selects RX3 yX3_sizeByWays yX3_sizeByWays, Cond.code yX3_sizeByWays cX3_sizeByWays 3 (some .int), Cond.methodLink RX3 80 yX2_leastBytesOfAllWays, Cond.instanceMethod yX2_leastBytesOfAllWays, Cond.selects RX2 yX2_leastBytesOfAllWays yX2_leastBytesOfAllWays, Cond.code yX2_leastBytesOfAllWays cX2_leastBytesOfAllWays 5 (some .int), Cond.methodLink RX2 45 yX2_leastAlong, Cond.static yX2_leastAlong, Cond.code yX2_leastAlong cX2_leastAlong 8 (some .int), Cond.static yX3_has, Cond.code yX3_has cX3_has 2 (some .boolean), Cond.methodLink RL 115 yX4_sizeByWays, Cond.instanceMethod yX4_sizeByWays, Cond.selects RX4 yX4_sizeByWays yX4_sizeByWays, Cond.code yX4_sizeByWays cX4_sizeByWays 3 (some .int), Cond.methodLink RX4 110 yX4_size, Cond.methodLink RL 116 yL_addDevice]
def wsL_law0_r11 : List Cond := [Cond.static yL_addDevice, Cond.codeWith yL_addDevice cL_addDevice 5 (some .int) [(0, 10, 13, 13), (0, 10, 17, 33)], Cond.classLink RL 33 "java/lang/IllegalStateException", Cond.methodLink RL 30 yX3_addDevice, Cond.instanceMethod yX3_addDevice, Cond.selects RX3 yX3_addDevice yX3_addDevice, Cond.code yX3_addDevice cX3_addDevice 4 (some .int), Cond.classLink RX3 88 "java/lang/IllegalStateException", Cond.initialized "java/lang/IllegalStateException", Cond.fieldLink RX3 99 "Ringroll$Device" "kind" "I", Cond.fieldLink RX3 102 "Ringroll$Device" "version" "I", Cond.fieldLink RX3 105 "Ringroll$Device" "number" "I", Cond.methodLink RX3 93 yX3_has, Cond.methodLink RL 118 yX4_addDevice, Cond.instanceMethod yX4_addDevice, Cond.selects RX4 yX4_addDevice yX4_addDevice, Cond.code yX4_addDevice cX4_addDevice 5 (some .int), Cond.fieldLink RX4 89 "RingrollModel" "devices" "I", Cond.methodLink RL 119 yL_charge, Cond.static yL_charge, Cond.codeWith yL_charge cL_charge 5 (some .int) [(0, 10, 13, 13), (0, 10, 17, 15)], Cond.methodLink RL 35 yX3_charge, Cond.instanceMethod yX3_charge, Cond.selects RX3 yX3_charge yX3_charge]
def wsL_law0_r12 : List Cond := [Cond.code yX3_charge cX3_charge 5 (some .int), Cond.fieldLink RX3 112 "Ringroll$Device" "battery" "I", Cond.methodLink RX3 108 yX3_deviceAt, Cond.instanceMethod yX3_deviceAt, Cond.selects RX3 yX3_deviceAt yX3_deviceAt, Cond.code yX3_deviceAt cX3_deviceAt 2 (some (.object "Ringroll$Device")), Cond.methodLink RL 121 yX4_charge, Cond.instanceMethod yX4_charge, Cond.selects RX4 yX4_charge yX4_charge, Cond.code yX4_charge cX4_charge 4 (some .int), Cond.methodLink RX4 113 yX4_isDevice, Cond.instanceMethod yX4_isDevice, Cond.selects RX4 yX4_isDevice yX4_isDevice, Cond.code yX4_isDevice cX4_isDevice 2 (some .boolean), Cond.methodLink RL 122 yL_setWindow, Cond.static yL_setWindow, Cond.codeWith yL_setWindow cL_setWindow 5 (some .int) [(0, 7, 10, 13), (0, 7, 14, 15)], Cond.methodLink RL 38 yX3_setWindow, Cond.instanceMethod yX3_setWindow, Cond.selects RX3 yX3_setWindow yX3_setWindow, Cond.code yX3_setWindow cX3_setWindow 5 none, Cond.fieldLink RX3 115 "Ringroll$Device" "firstHour" "I", Cond.fieldLink RX3 118 "Ringroll$Device" "lastHour" "I", Cond.methodLink RL 125 yX4_setWindow]
def wsL_law0_r13 : List Cond := [Cond.instanceMethod yX4_setWindow, Cond.selects RX4 yX4_setWindow yX4_setWindow, Cond.code yX4_setWindow cX4_setWindow 4 none, Cond.methodLink RL 126 yL_report, Cond.static yL_report, Cond.codeWith yL_report cL_report 5 (some .int) [(0, 10, 13, 13), (0, 10, 17, 33)], Cond.methodLink RL 42 yX3_report, Cond.instanceMethod yX3_report, Cond.selects RX3 yX3_report yX3_report, Cond.code yX3_report cX3_report 5 (some .int), Cond.fieldLink RX3 121 "Ringroll$Device" "state" "I", Cond.fieldLink RX3 126 "Ringroll$Device" "campaign" "I", Cond.fieldLink RX3 133 "Ringroll$Campaign" "target" "I", Cond.methodLink RX3 129 yX3_campaignAt, Cond.instanceMethod yX3_campaignAt, Cond.selects RX3 yX3_campaignAt yX3_campaignAt, Cond.code yX3_campaignAt cX3_campaignAt 2 (some (.object "Ringroll$Campaign")), Cond.methodLink RX3 146 yX3_needCampaign, Cond.instanceMethod yX3_needCampaign, Cond.selects RX3 yX3_needCampaign yX3_needCampaign, Cond.code yX3_needCampaign cX3_needCampaign 2 none, Cond.methodLink RX3 136 yX0_countReport, Cond.instanceMethod yX0_countReport, Cond.selects RX0 yX0_countReport yX0_countReport]
def wsL_law0_r14 : List Cond := [Cond.code yX0_countReport cX0_countReport 3 none, Cond.fieldLink RX0 72 "Ringroll$Device" "number" "I", Cond.methodLink RX3 140 yX0_judgeRing, Cond.instanceMethod yX0_judgeRing, Cond.selects RX0 yX0_judgeRing yX0_judgeRing, Cond.code yX0_judgeRing cX0_judgeRing 1 none, Cond.methodLink RX0 73 yX0_beginRing, Cond.instanceMethod yX0_beginRing, Cond.selects RX0 yX0_beginRing yX0_beginRing, Cond.code yX0_beginRing cX0_beginRing 2 none, Cond.methodLink RL 129 yX4_report, Cond.instanceMethod yX4_report, Cond.selects RX4 yX4_report yX4_report, Cond.code yX4_report cX4_report 4 (some .int), Cond.methodLink RX4 116 yX4_judge, Cond.instanceMethod yX4_judge, Cond.selects RX4 yX4_judge yX4_judge, Cond.code yX4_judge cX4_judge 2 none, Cond.methodLink RL 130 yX3_devices, Cond.instanceMethod yX3_devices, Cond.selects RX3 yX3_devices yX3_devices, Cond.code yX3_devices cX3_devices 1 (some .int), Cond.methodLink RL 133 yX4_devices, Cond.instanceMethod yX4_devices]
def wsL_law0_r15 : List Cond := [Cond.selects RX4 yX4_devices yX4_devices, Cond.code yX4_devices cX4_devices 1 (some .int), Cond.methodLink RX4 120 yX4_fine, Cond.instanceMethod yX4_fine, Cond.selects RX4 yX4_fine yX4_fine, Cond.code yX4_fine cX4_fine 2 (some .int), Cond.methodLink RL 134 yL_state, Cond.static yL_state, Cond.codeWith yL_state cL_state 4 (some .int) [(0, 9, 12, 13)], Cond.methodLink RL 46 yX3_state, Cond.instanceMethod yX3_state, Cond.selects RX3 yX3_state yX3_state, Cond.code yX3_state cX3_state 2 (some .int), Cond.methodLink RL 137 yX4_state, Cond.instanceMethod yX4_state, Cond.selects RX4 yX4_state yX4_state, Cond.code yX4_state cX4_state 2 (some .int), Cond.methodLink RX4 124 yX4_noDevice, Cond.instanceMethod yX4_noDevice, Cond.selects RX4 yX4_noDevice yX4_noDevice, Cond.code yX4_noDevice cX4_noDevice 2 (some .boolean), Cond.methodLink RL 138 yL_version, Cond.static yL_version, Cond.codeWith yL_version cL_version 4 (some .int) [(0, 9, 12, 13)]]
def wsL_law0_r16 : List Cond := [Cond.methodLink RL 50 yX3_version, Cond.instanceMethod yX3_version, Cond.selects RX3 yX3_version yX3_version, Cond.code yX3_version cX3_version 2 (some .int), Cond.methodLink RL 140 yX4_version, Cond.instanceMethod yX4_version, Cond.selects RX4 yX4_version yX4_version, Cond.code yX4_version cX4_version 2 (some .int), Cond.methodLink RL 141 yL_campaignOf, Cond.static yL_campaignOf, Cond.codeWith yL_campaignOf cL_campaignOf 4 (some .int) [(0, 9, 12, 13)], Cond.methodLink RL 53 yX3_campaignOf, Cond.instanceMethod yX3_campaignOf, Cond.selects RX3 yX3_campaignOf yX3_campaignOf, Cond.code yX3_campaignOf cX3_campaignOf 2 (some .int), Cond.methodLink RL 143 yX4_campaignOf, Cond.instanceMethod yX4_campaignOf, Cond.selects RX4 yX4_campaignOf yX4_campaignOf, Cond.code yX4_campaignOf cX4_campaignOf 2 (some .int), Cond.methodLink RL 144 yL_toGo, Cond.static yL_toGo, Cond.codeWith yL_toGo cL_toGo 4 (some .int) [(0, 9, 12, 13)], Cond.methodLink RL 56 yX3_toGo, Cond.instanceMethod yX3_toGo]
def wsL_law0_r17 : List Cond := [Cond.selects RX3 yX3_toGo yX3_toGo, Cond.code yX3_toGo cX3_toGo 2 (some .int), Cond.fieldLink RX3 143 "Ringroll$Device" "bytesToGo" "I", Cond.methodLink RL 146 yX4_toGo, Cond.instanceMethod yX4_toGo, Cond.selects RX4 yX4_toGo yX4_toGo, Cond.code yX4_toGo cX4_toGo 2 (some .int), Cond.methodLink RL 147 yL_battery, Cond.static yL_battery, Cond.codeWith yL_battery cL_battery 4 (some .int) [(0, 9, 12, 13)], Cond.methodLink RL 59 yX3_battery, Cond.instanceMethod yX3_battery, Cond.selects RX3 yX3_battery yX3_battery, Cond.code yX3_battery cX3_battery 2 (some .int), Cond.methodLink RL 149 yX4_battery, Cond.instanceMethod yX4_battery, Cond.selects RX4 yX4_battery yX4_battery, Cond.code yX4_battery cX4_battery 2 (some .int), Cond.methodLink RL 150 yL_begin, Cond.static yL_begin, Cond.codeWith yL_begin cL_begin 7 (some .int) [(0, 14, 17, 13), (0, 14, 21, 15), (0, 14, 25, 33)], Cond.methodLink RL 62 yX3_begin, Cond.instanceMethod yX3_begin, Cond.selects RX3 yX3_begin yX3_begin]
def wsL_law0_r18 : List Cond := [Cond.code yX3_begin cX3_begin 6 (some .int), Cond.fieldLink RX3 151 "Ringroll$Campaign" "isActive" "Z", Cond.fieldLink RX3 155 "Ringroll$Campaign" "kinds" "I", Cond.fieldLink RX3 158 "Ringroll$Campaign" "versions" "I", Cond.fieldLink RX3 161 "Ringroll$Campaign" "number" "I", Cond.methodLink RL 153 yX4_begin, Cond.instanceMethod yX4_begin, Cond.selects RX4 yX4_begin yX4_begin, Cond.code yX4_begin cX4_begin 7 (some .int), Cond.fieldLink RX4 92 "RingrollModel" "campaigns" "I", Cond.methodLink RX4 127 yX4_isCampaign, Cond.instanceMethod yX4_isCampaign, Cond.selects RX4 yX4_isCampaign yX4_isCampaign, Cond.code yX4_isCampaign cX4_isCampaign 2 (some .boolean), Cond.methodLink RL 154 yL_setRules, Cond.static yL_setRules, Cond.codeWith yL_setRules cL_setRules 7 (some .int) [(0, 11, 14, 13), (0, 11, 18, 15)], Cond.methodLink RL 66 yX3_setRules, Cond.instanceMethod yX3_setRules, Cond.selects RX3 yX3_setRules yX3_setRules, Cond.code yX3_setRules cX3_setRules 7 none, Cond.fieldLink RX3 162 "Ringroll$Campaign" "firstShare" "I", Cond.fieldLink RX3 165 "Ringroll$Campaign" "secondShare" "I", Cond.fieldLink RX3 168 "Ringroll$Campaign" "needs" "I"]
def wsL_law0_r19 : List Cond := [Cond.fieldLink RX3 171 "Ringroll$Campaign" "thousandths" "I", Cond.methodLink RL 157 yX4_setRules, Cond.instanceMethod yX4_setRules, Cond.selects RX4 yX4_setRules yX4_setRules, Cond.code yX4_setRules cX4_setRules 7 none, Cond.methodLink RL 158 yL_toggle, Cond.static yL_toggle, Cond.codeWith yL_toggle cL_toggle 4 (some .int) [(0, 16, 19, 13)], Cond.methodLink RL 70 yX3_toggle, Cond.instanceMethod yX3_toggle, Cond.selects RX3 yX3_toggle yX3_toggle, Cond.code yX3_toggle cX3_toggle 3 (some .boolean), Cond.fieldLink RX3 174 "Ringroll$Campaign" "ring" "I", Cond.methodLink RX3 177 yX0_beginRing, Cond.methodLink RL 160 yX4_toggle, Cond.instanceMethod yX4_toggle, Cond.selects RX4 yX4_toggle yX4_toggle, Cond.code yX4_toggle cX4_toggle 2 (some .boolean), Cond.methodLink RX4 130 yX4_noCampaign, Cond.instanceMethod yX4_noCampaign, Cond.selects RX4 yX4_noCampaign yX4_noCampaign, Cond.code yX4_noCampaign cX4_noCampaign 2 (some .boolean), Cond.methodLink RL 161 yL_isActive, Cond.static yL_isActive]
def wsL_law0_r20 : List Cond := [Cond.codeWith yL_isActive cL_isActive 4 (some .int) [(0, 16, 19, 13)], Cond.methodLink RL 74 yX3_isActive, Cond.instanceMethod yX3_isActive, Cond.selects RX3 yX3_isActive yX3_isActive, Cond.code yX3_isActive cX3_isActive 2 (some .boolean), Cond.methodLink RL 163 yX4_isActive, Cond.instanceMethod yX4_isActive, Cond.selects RX4 yX4_isActive yX4_isActive, Cond.code yX4_isActive cX4_isActive 2 (some .boolean), Cond.methodLink RL 164 yL_ring, Cond.static yL_ring, Cond.codeWith yL_ring cL_ring 4 (some .int) [(0, 9, 12, 13)], Cond.methodLink RL 77 yX3_ring, Cond.instanceMethod yX3_ring, Cond.selects RX3 yX3_ring yX3_ring, Cond.code yX3_ring cX3_ring 2 (some .int), Cond.methodLink RL 166 yX4_ring, Cond.instanceMethod yX4_ring, Cond.selects RX4 yX4_ring yX4_ring, Cond.code yX4_ring cX4_ring 2 (some .int), Cond.methodLink RL 167 yL_reports, Cond.static yL_reports, Cond.codeWith yL_reports cL_reports 4 (some .int) [(0, 9, 12, 13)], Cond.methodLink RL 80 yX3_reports]
def wsL_law0_r21 : List Cond := [Cond.instanceMethod yX3_reports, Cond.selects RX3 yX3_reports yX3_reports, Cond.code yX3_reports cX3_reports 2 (some .int), Cond.fieldLink RX3 180 "Ringroll$Campaign" "reports" "I", Cond.methodLink RL 169 yX4_reports, Cond.instanceMethod yX4_reports, Cond.selects RX4 yX4_reports yX4_reports, Cond.code yX4_reports cX4_reports 2 (some .int), Cond.methodLink RL 170 yL_eligible, Cond.static yL_eligible, Cond.codeWith yL_eligible cL_eligible 4 (some .int) [(0, 9, 12, 13)], Cond.methodLink RL 83 yX3_eligible, Cond.instanceMethod yX3_eligible, Cond.selects RX3 yX3_eligible yX3_eligible, Cond.code yX3_eligible cX3_eligible 5 (some .int), Cond.methodLink RX3 183 yX3_mayTake, Cond.instanceMethod yX3_mayTake, Cond.selects RX3 yX3_mayTake yX3_mayTake, Cond.code yX3_mayTake cX3_mayTake 3 (some .boolean), Cond.methodLink RX3 206 yX0_isFor, Cond.instanceMethod yX0_isFor, Cond.selects RX0 yX0_isFor yX0_isFor, Cond.code yX0_isFor cX0_isFor 2 (some .boolean), Cond.fieldLink RX0 52 "Ringroll$Device" "kind" "I"]
def wsL_law0_r22 : List Cond := [Cond.fieldLink RX0 61 "Ringroll$Device" "version" "I", Cond.methodLink RX0 64 yX0_drawOf, Cond.instanceMethod yX0_drawOf, Cond.selects RX0 yX0_drawOf yX0_drawOf, Cond.code yX0_drawOf cX0_drawOf 2 (some .int), Cond.methodLink RX0 68 yX0_share, Cond.instanceMethod yX0_share, Cond.selects RX0 yX0_share yX0_share, Cond.code yX0_share cX0_share 1 (some .int), Cond.methodLink RL 172 yX4_eligible, Cond.instanceMethod yX4_eligible, Cond.selects RX4 yX4_eligible yX4_eligible, Cond.code yX4_eligible cX4_eligible 4 (some .int), Cond.methodLink RX4 133 yX4_mayTake, Cond.instanceMethod yX4_mayTake, Cond.selects RX4 yX4_mayTake yX4_mayTake, Cond.code yX4_mayTake cX4_mayTake 8 (some .boolean), Cond.methodLink RL 173 yL_pass, Cond.static yL_pass, Cond.codeWith yL_pass cL_pass 4 (some .int) [(0, 9, 12, 15)], Cond.methodLink RL 86 yX3_pass, Cond.instanceMethod yX3_pass, Cond.selects RX3 yX3_pass yX3_pass, Cond.code yX3_pass cX3_pass 4 (some .int)]
def wsL_law0_r23 : List Cond := [Cond.methodLink RX3 187 yX3_passOneHour, Cond.instanceMethod yX3_passOneHour, Cond.selects RX3 yX3_passOneHour yX3_passOneHour, Cond.code yX3_passOneHour cX3_passOneHour 4 (some .int), Cond.methodLink RX3 191 yX3_takeLowestCampaign, Cond.instanceMethod yX3_takeLowestCampaign, Cond.selects RX3 yX3_takeLowestCampaign yX3_takeLowestCampaign, Cond.code yX3_takeLowestCampaign cX3_takeLowestCampaign 4 none, Cond.methodLink RX3 202 yX1_take, Cond.instanceMethod yX1_take, Cond.selects RX1 yX1_take yX1_take, Cond.code yX1_take cX1_take 3 none, Cond.fieldLink RX1 39 "Ringroll$Campaign" "number" "I", Cond.methodLink RX3 195 yX1_canLoad, Cond.instanceMethod yX1_canLoad, Cond.selects RX1 yX1_canLoad yX1_canLoad, Cond.code yX1_canLoad cX1_canLoad 2 (some .boolean), Cond.methodLink RX1 42 yX1_isInWindow, Cond.instanceMethod yX1_isInWindow, Cond.selects RX1 yX1_isInWindow yX1_isInWindow, Cond.code yX1_isInWindow cX1_isInWindow 2 (some .boolean), Cond.methodLink RX3 199 yX1_load, Cond.instanceMethod yX1_load, Cond.selects RX1 yX1_load yX1_load]
def wsL_law0_r24 : List Cond := [Cond.code yX1_load cX1_load 1 none, Cond.methodLink RX1 46 Lib.Math.max.name, Cond.static Lib.Math.max.name, Cond.code Lib.Math.max.name Lib.Math.max.code 2 (some .int), Cond.methodLink RL 175 yX4_pass, Cond.instanceMethod yX4_pass, Cond.selects RX4 yX4_pass yX4_pass, Cond.code yX4_pass cX4_pass 5 (some .int), Cond.fieldLink RX4 137 "RingrollModel" "clock" "I", Cond.methodLink RX4 140 yX4_take, Cond.instanceMethod yX4_take, Cond.selects RX4 yX4_take yX4_take, Cond.code yX4_take cX4_take 3 none, Cond.methodLink RX4 143 yX4_isOpen, Cond.instanceMethod yX4_isOpen, Cond.selects RX4 yX4_isOpen yX4_isOpen, Cond.code yX4_isOpen cX4_isOpen 5 (some .boolean)]
def wsL_law0 : List Cond := (wsL_law0_r1 ++ (wsL_law0_r2 ++ (wsL_law0_r3 ++ (wsL_law0_r4 ++ (wsL_law0_r5 ++ (wsL_law0_r6 ++ (wsL_law0_r7 ++ (wsL_law0_r8 ++ (wsL_law0_r9 ++ (wsL_law0_r10 ++ (wsL_law0_r11 ++ (wsL_law0_r12 ++ (wsL_law0_r13 ++ (wsL_law0_r14 ++ (wsL_law0_r15 ++ (wsL_law0_r16 ++ (wsL_law0_r17 ++ (wsL_law0_r18 ++ (wsL_law0_r19 ++ (wsL_law0_r20 ++ (wsL_law0_r21 ++ (wsL_law0_r22 ++ (wsL_law0_r23 ++ wsL_law0_r24))))))))))))))))))))))) ++ wsX30 ++ wsX40 ++ wsX20 ++ wsX10 ++ wsX00 ++ ([] : List Cond)
def wsL_law : List Cond := wsL_law0 ++ (vx_atS RX3 87 "java/lang/IndexOutOfBoundsException" ["java/lang/RuntimeException", "java/lang/Exception"]).filter goodWord ++ (vx_atS RX3 70 "java/lang/IllegalArgumentException" ["java/lang/RuntimeException", "java/lang/Exception"]).filter goodWord ++ (vx_atS RX3 92 "java/lang/IllegalStateException" ["java/lang/RuntimeException", "java/lang/Exception"]).filter goodWord
abbrev vwCl : List vw_C := [(RX0, TX0, 13), (RX1, TX1, 9), (RX2, TX2, 4), (RX3, TX3, 7), (RX4, TX4, 27)]
end
section
set_option maxRecDepth 20000 in
theorem ggX0_isFor_X3_has : GoodIn wsX0_isFor wsX3_has := goodIn_r _ [11] (by decide +kernel) (by decide +kernel)
set_option maxRecDepth 20000 in
theorem gX0_isFor_X3_has_n57 : GoodIn wsX0_isFor (wsX3_has) := ggX0_isFor_X3_has
set_option maxRecDepth 20000 in
theorem ggX0_isFor_X0_drawOf : GoodIn wsX0_isFor wsX0_drawOf := goodIn_r _ [16, 8, 17, 38, 39, 40, 41, 42, 43, 44, 45, 46, 25, 26, 27, 28, 29, 30, 31, 32, 33, 34, 35, 36, 37] (by decide +kernel) (by decide +kernel)
set_option maxRecDepth 20000 in
theorem gX0_isFor_X0_drawOf : GoodIn wsX0_isFor (wsV RX0 64 RX0 yX0_drawOf wsX0_drawOf) := goodIn_app (goodIn_of _ (by decide +kernel)) ggX0_isFor_X0_drawOf
set_option maxRecDepth 20000 in
theorem ggX0_isFor_X0_share : GoodIn wsX0_isFor wsX0_share := goodIn_r _ [21, 22, 23, 24, 25, 26, 27, 28, 29, 30, 31, 32, 33, 34, 35, 36, 37] (by decide +kernel) (by decide +kernel)
set_option maxRecDepth 20000 in
theorem gX0_isFor_X0_share : GoodIn wsX0_isFor (wsV RX0 68 RX0 yX0_share wsX0_share) := goodIn_app (goodIn_of _ (by decide +kernel)) ggX0_isFor_X0_share
set_option maxRecDepth 20000 in
theorem ggX0_judgeRing_X0_beginRing : GoodIn wsX0_judgeRing wsX0_beginRing := goodIn_r _ [11, 6, 2, 4, 12, 13, 14, 15, 16, 17, 18, 19, 20, 21, 22, 23, 24] (by decide +kernel) (by decide +kernel)
set_option maxRecDepth 20000 in
theorem gX0_judgeRing_X0_beginRing : GoodIn wsX0_judgeRing (wsV RX0 73 RX0 yX0_beginRing wsX0_beginRing) := goodIn_app (goodIn_of _ (by decide +kernel)) ggX0_judgeRing_X0_beginRing
set_option maxRecDepth 20000 in
theorem ggX1_canLoad_X1_isInWindow : GoodIn wsX1_canLoad wsX1_isInWindow := goodIn_r _ [7, 8, 9, 10, 11, 12, 13, 14, 15, 16, 17, 18] (by decide +kernel) (by decide +kernel)
set_option maxRecDepth 20000 in
theorem gX1_canLoad_X1_isInWindow : GoodIn wsX1_canLoad (wsV RX1 42 RX1 yX1_isInWindow wsX1_isInWindow) := goodIn_app (goodIn_of _ (by decide +kernel)) ggX1_canLoad_X1_isInWindow
set_option maxRecDepth 20000 in
theorem ggX2_init_J7_fill_53178 : GoodIn wsX2_init wsJ7_fill_53178 := goodIn_r _ [13] (by decide +kernel) (by decide +kernel)
set_option maxRecDepth 20000 in
theorem gX2_init_J7_fill_53178 : GoodIn wsX2_init (va_wsS RX2 26 yJ7_fill_53178 wsJ7_fill_53178) := goodIn_app (goodIn_of _ (by decide +kernel)) ggX2_init_J7_fill_53178
set_option maxRecDepth 20000 in
theorem ggX2_init_X2_measure : GoodIn wsX2_init wsX2_measure := goodIn_r _ [18, 8, 7, 9, 19, 5, 20, 21, 22, 23, 24, 25, 17, 26, 27, 28, 29, 30, 31, 32, 33, 34] (by decide +kernel) (by decide +kernel)
set_option maxRecDepth 20000 in
theorem gX2_init_X2_measure : GoodIn wsX2_init (wsV RX2 32 RX2 yX2_measure wsX2_measure) := goodIn_app (goodIn_of _ (by decide +kernel)) ggX2_init_X2_measure
set_option maxRecDepth 20000 in
theorem ggX2_changeImage_X2_measure : GoodIn wsX2_changeImage wsX2_measure := goodIn_r _ [6, 7, 8, 9, 10, 1, 11, 12, 13, 14, 15, 16, 5, 17, 18, 19, 20, 21, 22, 23, 24, 25] (by decide +kernel) (by decide +kernel)
set_option maxRecDepth 20000 in
theorem gX2_changeImage_X2_measure : GoodIn wsX2_changeImage (wsV RX2 32 RX2 yX2_measure wsX2_measure) := goodIn_app (goodIn_of _ (by decide +kernel)) ggX2_changeImage_X2_measure
set_option maxRecDepth 20000 in
theorem ggX2_changeDelta_X2_measure : GoodIn wsX2_changeDelta wsX2_measure := goodIn_r _ [6, 7, 1, 8, 9, 10, 11, 12, 13, 14, 15, 16, 5, 17, 18, 19, 20, 21, 22, 23, 24, 25] (by decide +kernel) (by decide +kernel)
set_option maxRecDepth 20000 in
theorem gX2_changeDelta_X2_measure : GoodIn wsX2_changeDelta (wsV RX2 32 RX2 yX2_measure wsX2_measure) := goodIn_app (goodIn_of _ (by decide +kernel)) ggX2_changeDelta_X2_measure
set_option maxRecDepth 20000 in
theorem ggX2_leastBytes_X2_orNone : GoodIn wsX2_leastBytes wsX2_orNone := goodIn_r _ [10, 11] (by decide +kernel) (by decide +kernel)
set_option maxRecDepth 20000 in
theorem gX2_leastBytes_X2_orNone : GoodIn wsX2_leastBytes (va_wsS RX2 41 yX2_orNone wsX2_orNone) := goodIn_app (goodIn_of _ (by decide +kernel)) ggX2_leastBytes_X2_orNone
set_option maxRecDepth 20000 in
theorem ggX2_leastBytesOfAllWays_X2_leastAlong : GoodIn wsX2_leastBytesOfAllWays wsX2_leastAlong := goodIn_r _ [10, 11, 3, 4, 5, 6, 12, 13, 14, 7, 8, 9] (by decide +kernel) (by decide +kernel)
set_option maxRecDepth 20000 in
theorem gX2_leastBytesOfAllWays_X2_leastAlong : GoodIn wsX2_leastBytesOfAllWays (va_wsS RX2 45 yX2_leastAlong wsX2_leastAlong) := goodIn_app (goodIn_of _ (by decide +kernel)) ggX2_leastBytesOfAllWays_X2_leastAlong
set_option maxRecDepth 20000 in
theorem ggX2_leastBytesOfAllWays_X2_orNone : GoodIn wsX2_leastBytesOfAllWays wsX2_orNone := goodIn_r _ [17, 11] (by decide +kernel) (by decide +kernel)
set_option maxRecDepth 20000 in
theorem gX2_leastBytesOfAllWays_X2_orNone : GoodIn wsX2_leastBytesOfAllWays (va_wsS RX2 41 yX2_orNone wsX2_orNone) := goodIn_app (goodIn_of _ (by decide +kernel)) ggX2_leastBytesOfAllWays_X2_orNone
set_option maxRecDepth 20000 in
theorem ggX2_leastAlong_X3_has : GoodIn wsX2_leastAlong wsX3_has := goodIn_r _ [8] (by decide +kernel) (by decide +kernel)
set_option maxRecDepth 20000 in
theorem gX2_leastAlong_X3_has_n50 : GoodIn wsX2_leastAlong (wsX3_has) := ggX2_leastAlong_X3_has
set_option maxRecDepth 20000 in
theorem ggX2_leastAlong_X2_leastAlong : GoodIn wsX2_leastAlong wsX2_leastAlong := goodIn_r _ [0, 1, 2, 3, 4, 5, 6, 7, 8, 9, 10, 11] (by decide +kernel) (by decide +kernel)
set_option maxRecDepth 20000 in
theorem gX2_leastAlong_X2_leastAlong : GoodIn wsX2_leastAlong (va_wsS RX2 45 yX2_leastAlong wsX2_leastAlong) := goodIn_app (goodIn_of _ (by decide +kernel)) ggX2_leastAlong_X2_leastAlong
set_option maxRecDepth 20000 in
theorem ggX2_measure_X2_orFar : GoodIn wsX2_measure wsX2_orFar := goodIn_r _ [13, 4] (by decide +kernel) (by decide +kernel)
set_option maxRecDepth 20000 in
theorem gX2_measure_X2_orFar : GoodIn wsX2_measure (va_wsS RX2 54 yX2_orFar wsX2_orFar) := goodIn_app (goodIn_of _ (by decide +kernel)) ggX2_measure_X2_orFar
set_option maxRecDepth 20000 in
theorem ggX2_measure_X2_measureVia : GoodIn wsX2_measure wsX2_measureVia := goodIn_r _ [17, 1, 6, 7, 8, 9, 18, 19, 20, 21] (by decide +kernel) (by decide +kernel)
set_option maxRecDepth 20000 in
theorem gX2_measure_X2_measureVia : GoodIn wsX2_measure (wsV RX2 57 RX2 yX2_measureVia wsX2_measureVia) := goodIn_app (goodIn_of _ (by decide +kernel)) ggX2_measure_X2_measureVia
set_option maxRecDepth 20000 in
theorem ggX3_init_X2_init : GoodIn wsX3_init wsX2_init := goodIn_r _ [23, 24, 2, 3, 4, 25, 26, 27, 28, 29, 30, 31, 32, 33, 34, 35, 36, 8, 37, 38, 39, 40, 41, 42, 43, 44, 45, 46, 47, 48, 49, 88, 89, 90, 91] (by decide +kernel) (by decide +kernel)
set_option maxRecDepth 20000 in
theorem gX3_init_X2_init : GoodIn wsX3_init (wsX2_init) := ggX3_init_X2_init
set_option maxRecDepth 20000 in
theorem ggX3_init_J7_fill_53178 : GoodIn wsX3_init wsJ7_fill_53178 := goodIn_r _ [33] (by decide +kernel) (by decide +kernel)
set_option maxRecDepth 20000 in
theorem gX3_init_J7_fill_53178 : GoodIn wsX3_init (va_wsS RX3 42 yJ7_fill_53178 wsJ7_fill_53178) := goodIn_app (goodIn_of _ (by decide +kernel)) ggX3_init_J7_fill_53178
set_option maxRecDepth 20000 in
theorem ggX3_init_X1_init : GoodIn wsX3_init wsX1_init := goodIn_r _ [53, 54, 2, 3, 55, 56, 57, 58, 59, 60, 61, 62, 63, 92, 93, 94, 95, 96, 97, 98, 99, 100] (by decide +kernel) (by decide +kernel)
set_option maxRecDepth 20000 in
theorem gX3_init_X1_init : GoodIn wsX3_init (wsX1_init) := ggX3_init_X1_init
set_option maxRecDepth 20000 in
theorem ggX3_init_X0_init : GoodIn wsX3_init wsX0_init := goodIn_r _ [66, 67, 2, 3, 68, 69, 70, 71, 72, 73, 74, 75, 76, 77, 78, 79, 80, 101, 102, 103, 104, 105, 106, 107, 108, 109, 110, 111, 112, 113] (by decide +kernel) (by decide +kernel)
set_option maxRecDepth 20000 in
theorem gX3_init_X0_init : GoodIn wsX3_init (wsX0_init) := ggX3_init_X0_init
set_option maxRecDepth 20000 in
theorem ggX3_allow_X3_needVersion : GoodIn wsX3_allow wsX3_needVersion := goodIn_ca (goodIn_r _ [5, 6, 7] (by decide +kernel) (by decide +kernel)) (goodIn_sub (fun _ h => List.mem_cons_of_mem _ (List.mem_append_left _ (List.mem_append_right _ h))) (by decide +kernel))
set_option maxRecDepth 20000 in
theorem gX3_allow_X3_needVersion : GoodIn wsX3_allow (va_wsS RX3 52 yX3_needVersion wsX3_needVersion) := goodIn_app (goodIn_of _ (by decide +kernel)) ggX3_allow_X3_needVersion
set_option maxRecDepth 20000 in
theorem ggX3_allow_X3_needRange : GoodIn wsX3_allow wsX3_needRange := goodIn_ca (goodIn_r _ [10, 11, 12] (by decide +kernel) (by decide +kernel)) (goodIn_sub (fun _ h => List.mem_cons_of_mem _ (List.mem_append_right _ h)) (by decide +kernel))
set_option maxRecDepth 20000 in
theorem gX3_allow_X3_needRange : GoodIn wsX3_allow (va_wsS RX3 55 yX3_needRange wsX3_needRange) := goodIn_app (goodIn_of _ (by decide +kernel)) ggX3_allow_X3_needRange
set_option maxRecDepth 20000 in
theorem ggX3_setImage_X3_needVersion : GoodIn wsX3_setImage wsX3_needVersion := goodIn_ca (goodIn_r _ [5, 6, 7] (by decide +kernel) (by decide +kernel)) (goodIn_sub (fun _ h => List.mem_cons_of_mem _ (List.mem_append_left _ (List.mem_append_right _ h))) (by decide +kernel))
set_option maxRecDepth 20000 in
theorem gX3_setImage_X3_needVersion : GoodIn wsX3_setImage (va_wsS RX3 52 yX3_needVersion wsX3_needVersion) := goodIn_app (goodIn_of _ (by decide +kernel)) ggX3_setImage_X3_needVersion
set_option maxRecDepth 20000 in
theorem ggX3_setImage_X3_needBytesOrNone : GoodIn wsX3_setImage wsX3_needBytesOrNone := goodIn_ca (goodIn_r _ [10, 11, 12, 13, 4, 14, 15, 16] (by decide +kernel) (by decide +kernel)) (goodIn_sub (fun _ h => List.mem_cons_of_mem _ (List.mem_append_right _ h)) (by decide +kernel))
set_option maxRecDepth 20000 in
theorem gX3_setImage_X3_needBytesOrNone : GoodIn wsX3_setImage (va_wsS RX3 59 yX3_needBytesOrNone wsX3_needBytesOrNone) := goodIn_app (goodIn_of _ (by decide +kernel)) ggX3_setImage_X3_needBytesOrNone
set_option maxRecDepth 20000 in
theorem ggX3_setImage_X2_changeImage : GoodIn wsX3_setImage wsX2_changeImage := goodIn_r _ [21, 22, 23, 24, 25, 20, 26, 27, 28, 29, 30, 31, 32, 33, 34, 35, 36, 37, 38, 39, 40, 41, 49, 50, 51, 52] (by decide +kernel) (by decide +kernel)
set_option maxRecDepth 20000 in
theorem gX3_setImage_X2_changeImage : GoodIn wsX3_setImage (wsV RX3 62 RX2 yX2_changeImage wsX2_changeImage) := goodIn_app (goodIn_of _ (by decide +kernel)) ggX3_setImage_X2_changeImage
set_option maxRecDepth 20000 in
theorem ggX3_setDelta_X3_needVersion : GoodIn wsX3_setDelta wsX3_needVersion := goodIn_ca (goodIn_r _ [7, 8, 9] (by decide +kernel) (by decide +kernel)) (goodIn_sub (fun _ h => List.mem_cons_of_mem _ (List.mem_append_right _ h)) (by decide +kernel))
set_option maxRecDepth 20000 in
theorem gX3_setDelta_X3_needVersion : GoodIn wsX3_setDelta (va_wsS RX3 52 yX3_needVersion wsX3_needVersion) := goodIn_app (goodIn_of _ (by decide +kernel)) ggX3_setDelta_X3_needVersion
set_option maxRecDepth 20000 in
theorem ggX3_setDelta_X3_needBytesOrNone : GoodIn wsX3_setDelta wsX3_needBytesOrNone := goodIn_ca (goodIn_r _ [12, 13, 14, 15, 6, 16, 1, 2] (by decide +kernel) (by decide +kernel)) (goodIn_sub (fun _ h => List.mem_cons_of_mem _ (List.mem_append_left _ (List.mem_append_right _ h))) (by decide +kernel))
set_option maxRecDepth 20000 in
theorem gX3_setDelta_X3_needBytesOrNone : GoodIn wsX3_setDelta (va_wsS RX3 59 yX3_needBytesOrNone wsX3_needBytesOrNone) := goodIn_app (goodIn_of _ (by decide +kernel)) ggX3_setDelta_X3_needBytesOrNone
set_option maxRecDepth 20000 in
theorem ggX3_setDelta_X2_changeDelta : GoodIn wsX3_setDelta wsX2_changeDelta := goodIn_r _ [21, 22, 23, 24, 25, 20, 26, 27, 28, 29, 30, 31, 32, 33, 34, 35, 36, 37, 38, 39, 40, 41, 49, 50, 51, 52] (by decide +kernel) (by decide +kernel)
set_option maxRecDepth 20000 in
theorem gX3_setDelta_X2_changeDelta : GoodIn wsX3_setDelta (wsV RX3 73 RX2 yX2_changeDelta wsX2_changeDelta) := goodIn_app (goodIn_of _ (by decide +kernel)) ggX3_setDelta_X2_changeDelta
set_option maxRecDepth 20000 in
theorem ggX3_size_X3_needVersion : GoodIn wsX3_size wsX3_needVersion := goodIn_ca (goodIn_r _ [5, 6, 7] (by decide +kernel) (by decide +kernel)) (goodIn_sub (fun _ h => List.mem_cons_of_mem _ (List.mem_append_right _ h)) (by decide +kernel))
set_option maxRecDepth 20000 in
theorem gX3_size_X3_needVersion : GoodIn wsX3_size (va_wsS RX3 52 yX3_needVersion wsX3_needVersion) := goodIn_app (goodIn_of _ (by decide +kernel)) ggX3_size_X3_needVersion
set_option maxRecDepth 20000 in
theorem ggX3_size_X2_leastBytes : GoodIn wsX3_size wsX2_leastBytes := goodIn_r _ [12, 13, 14, 15, 16, 17, 18, 19, 20, 11, 21, 22, 30, 31, 32, 33] (by decide +kernel) (by decide +kernel)
set_option maxRecDepth 20000 in
theorem gX3_size_X2_leastBytes : GoodIn wsX3_size (wsV RX3 77 RX2 yX2_leastBytes wsX2_leastBytes) := goodIn_app (goodIn_of _ (by decide +kernel)) ggX3_size_X2_leastBytes
set_option maxRecDepth 20000 in
theorem ggX3_sizeByWays_X3_needVersion : GoodIn wsX3_sizeByWays wsX3_needVersion := goodIn_ca (goodIn_r _ [5, 6, 7] (by decide +kernel) (by decide +kernel)) (goodIn_sub (fun _ h => List.mem_cons_of_mem _ (List.mem_append_right _ h)) (by decide +kernel))
set_option maxRecDepth 20000 in
theorem gX3_sizeByWays_X3_needVersion : GoodIn wsX3_sizeByWays (va_wsS RX3 52 yX3_needVersion wsX3_needVersion) := goodIn_app (goodIn_of _ (by decide +kernel)) ggX3_sizeByWays_X3_needVersion
set_option maxRecDepth 20000 in
theorem ggX3_sizeByWays_X2_leastBytesOfAllWays : GoodIn wsX3_sizeByWays wsX2_leastBytesOfAllWays := goodIn_r _ [12, 13, 14, 15, 16, 17, 18, 19, 20, 11, 21, 22, 23, 4, 24, 25, 26, 27, 35, 36, 37, 38] (by decide +kernel) (by decide +kernel)
set_option maxRecDepth 20000 in
theorem gX3_sizeByWays_X2_leastBytesOfAllWays : GoodIn wsX3_sizeByWays (wsV RX3 80 RX2 yX2_leastBytesOfAllWays wsX2_leastBytesOfAllWays) := goodIn_app (goodIn_of _ (by decide +kernel)) ggX3_sizeByWays_X2_leastBytesOfAllWays
set_option maxRecDepth 20000 in
theorem ggX3_addDevice_X3_needVersion : GoodIn wsX3_addDevice wsX3_needVersion := goodIn_ca (goodIn_r _ [14, 1, 2] (by decide +kernel) (by decide +kernel)) (goodIn_sub (fun _ h => List.mem_cons_of_mem _ (List.mem_append_left _ (List.mem_append_right _ h))) (by decide +kernel))
set_option maxRecDepth 20000 in
theorem gX3_addDevice_X3_needVersion : GoodIn wsX3_addDevice (va_wsS RX3 52 yX3_needVersion wsX3_needVersion) := goodIn_app (goodIn_of _ (by decide +kernel)) ggX3_addDevice_X3_needVersion
set_option maxRecDepth 20000 in
theorem ggX3_addDevice_X3_has : GoodIn wsX3_addDevice wsX3_has := goodIn_r _ [17] (by decide +kernel) (by decide +kernel)
set_option maxRecDepth 20000 in
theorem gX3_addDevice_X3_has : GoodIn wsX3_addDevice (va_wsS RX3 93 yX3_has wsX3_has) := goodIn_app (goodIn_of _ (by decide +kernel)) ggX3_addDevice_X3_has
set_option maxRecDepth 20000 in
theorem ggX3_charge_X3_deviceAt : GoodIn wsX3_charge wsX3_deviceAt := goodIn_ca (goodIn_r _ [6, 7, 8, 9, 10, 25, 26, 27, 28, 29, 30, 31] (by decide +kernel) (by decide +kernel)) (goodIn_sub (fun _ h => List.mem_cons_of_mem _ (List.mem_append_left _ (List.mem_append_right _ h))) (by decide +kernel))
set_option maxRecDepth 20000 in
theorem gX3_charge_X3_deviceAt : GoodIn wsX3_charge (wsV RX3 108 RX3 yX3_deviceAt wsX3_deviceAt) := goodIn_app (goodIn_of _ (by decide +kernel)) ggX3_charge_X3_deviceAt
set_option maxRecDepth 20000 in
theorem ggX3_charge_X3_needRange : GoodIn wsX3_charge wsX3_needRange := goodIn_ca (goodIn_r _ [13, 14, 15] (by decide +kernel) (by decide +kernel)) (goodIn_sub (fun _ h => List.mem_cons_of_mem _ (List.mem_append_right _ h)) (by decide +kernel))
set_option maxRecDepth 20000 in
theorem gX3_charge_X3_needRange : GoodIn wsX3_charge (va_wsS RX3 55 yX3_needRange wsX3_needRange) := goodIn_app (goodIn_of _ (by decide +kernel)) ggX3_charge_X3_needRange
set_option maxRecDepth 20000 in
theorem ggX3_setWindow_X3_deviceAt : GoodIn wsX3_setWindow wsX3_deviceAt := goodIn_ca (goodIn_r _ [7, 8, 9, 10, 11, 26, 27, 28, 29, 30, 31, 32] (by decide +kernel) (by decide +kernel)) (goodIn_sub (fun _ h => List.mem_cons_of_mem _ (List.mem_append_left _ (List.mem_append_right _ h))) (by decide +kernel))
set_option maxRecDepth 20000 in
theorem gX3_setWindow_X3_deviceAt : GoodIn wsX3_setWindow (wsV RX3 108 RX3 yX3_deviceAt wsX3_deviceAt) := goodIn_app (goodIn_of _ (by decide +kernel)) ggX3_setWindow_X3_deviceAt
set_option maxRecDepth 20000 in
theorem ggX3_setWindow_X3_needRange : GoodIn wsX3_setWindow wsX3_needRange := goodIn_ca (goodIn_r _ [14, 15, 16] (by decide +kernel) (by decide +kernel)) (goodIn_sub (fun _ h => List.mem_cons_of_mem _ (List.mem_append_right _ h)) (by decide +kernel))
set_option maxRecDepth 20000 in
theorem gX3_setWindow_X3_needRange : GoodIn wsX3_setWindow (va_wsS RX3 55 yX3_needRange wsX3_needRange) := goodIn_app (goodIn_of _ (by decide +kernel)) ggX3_setWindow_X3_needRange
set_option maxRecDepth 20000 in
theorem ggX3_report_X3_deviceAt : GoodIn wsX3_report wsX3_deviceAt := goodIn_ca (goodIn_r _ [11, 12, 13, 14, 15, 69, 70, 71, 72, 73, 74, 75] (by decide +kernel) (by decide +kernel)) (goodIn_sub (fun _ h => List.mem_cons_of_mem _ (List.mem_append_right _ h)) (by decide +kernel))
set_option maxRecDepth 20000 in
theorem gX3_report_X3_deviceAt : GoodIn wsX3_report (wsV RX3 108 RX3 yX3_deviceAt wsX3_deviceAt) := goodIn_app (goodIn_of _ (by decide +kernel)) ggX3_report_X3_deviceAt
set_option maxRecDepth 20000 in
theorem ggX3_report_X3_campaignAt : GoodIn wsX3_report wsX3_campaignAt := goodIn_ca (goodIn_r _ [19, 20, 21, 22, 23, 10, 24, 12, 13, 25, 69, 70, 71, 72, 73, 74, 75] (by decide +kernel) (by decide +kernel)) (goodIn_sub (fun _ h => List.mem_cons_of_mem _ (List.mem_append_right _ h)) (by decide +kernel))
set_option maxRecDepth 20000 in
theorem gX3_report_X3_campaignAt : GoodIn wsX3_report (wsV RX3 129 RX3 yX3_campaignAt wsX3_campaignAt) := goodIn_app (goodIn_of _ (by decide +kernel)) ggX3_report_X3_campaignAt
set_option maxRecDepth 20000 in
theorem ggX3_report_X0_countReport : GoodIn wsX3_report wsX0_countReport := goodIn_r _ [30, 31, 32, 33, 34, 56, 57, 58, 59, 60, 61, 62, 63, 64, 65, 66, 67, 68, 47, 48, 49, 50, 51, 52, 53, 54, 55] (by decide +kernel) (by decide +kernel)
set_option maxRecDepth 20000 in
theorem gX3_report_X0_countReport : GoodIn wsX3_report (wsV RX3 136 RX0 yX0_countReport wsX0_countReport) := goodIn_app (goodIn_of _ (by decide +kernel)) ggX3_report_X0_countReport
set_option maxRecDepth 20000 in
theorem ggX3_report_X0_judgeRing : GoodIn wsX3_report wsX0_judgeRing := goodIn_r _ [38, 39, 33, 40, 34, 41, 42, 43, 44, 45, 29, 46, 56, 57, 58, 59, 60, 61, 62, 63, 64, 65, 66, 67, 68] (by decide +kernel) (by decide +kernel)
set_option maxRecDepth 20000 in
theorem gX3_report_X0_judgeRing : GoodIn wsX3_report (wsV RX3 140 RX0 yX0_judgeRing wsX0_judgeRing) := goodIn_app (goodIn_of _ (by decide +kernel)) ggX3_report_X0_judgeRing
set_option maxRecDepth 20000 in
theorem ggX3_state_X3_deviceAt : GoodIn wsX3_state wsX3_deviceAt := goodIn_ca (goodIn_r _ [6, 7, 8, 9, 10, 20, 21, 22, 23, 24, 25, 26] (by decide +kernel) (by decide +kernel)) (goodIn_sub (fun _ h => List.mem_cons_of_mem _ (List.mem_append_right _ h)) (by decide +kernel))
set_option maxRecDepth 20000 in
theorem gX3_state_X3_deviceAt : GoodIn wsX3_state (wsV RX3 108 RX3 yX3_deviceAt wsX3_deviceAt) := goodIn_app (goodIn_of _ (by decide +kernel)) ggX3_state_X3_deviceAt
set_option maxRecDepth 20000 in
theorem ggX3_version_X3_deviceAt : GoodIn wsX3_version wsX3_deviceAt := goodIn_ca (goodIn_r _ [6, 7, 8, 9, 10, 20, 21, 22, 23, 24, 25, 26] (by decide +kernel) (by decide +kernel)) (goodIn_sub (fun _ h => List.mem_cons_of_mem _ (List.mem_append_right _ h)) (by decide +kernel))
set_option maxRecDepth 20000 in
theorem gX3_version_X3_deviceAt : GoodIn wsX3_version (wsV RX3 108 RX3 yX3_deviceAt wsX3_deviceAt) := goodIn_app (goodIn_of _ (by decide +kernel)) ggX3_version_X3_deviceAt
set_option maxRecDepth 20000 in
theorem ggX3_campaignOf_X3_deviceAt : GoodIn wsX3_campaignOf wsX3_deviceAt := goodIn_ca (goodIn_r _ [6, 7, 8, 9, 10, 20, 21, 22, 23, 24, 25, 26] (by decide +kernel) (by decide +kernel)) (goodIn_sub (fun _ h => List.mem_cons_of_mem _ (List.mem_append_right _ h)) (by decide +kernel))
set_option maxRecDepth 20000 in
theorem gX3_campaignOf_X3_deviceAt : GoodIn wsX3_campaignOf (wsV RX3 108 RX3 yX3_deviceAt wsX3_deviceAt) := goodIn_app (goodIn_of _ (by decide +kernel)) ggX3_campaignOf_X3_deviceAt
set_option maxRecDepth 20000 in
theorem ggX3_toGo_X3_deviceAt : GoodIn wsX3_toGo wsX3_deviceAt := goodIn_ca (goodIn_r _ [6, 7, 8, 9, 10, 20, 21, 22, 23, 24, 25, 26] (by decide +kernel) (by decide +kernel)) (goodIn_sub (fun _ h => List.mem_cons_of_mem _ (List.mem_append_right _ h)) (by decide +kernel))
set_option maxRecDepth 20000 in
theorem gX3_toGo_X3_deviceAt : GoodIn wsX3_toGo (wsV RX3 108 RX3 yX3_deviceAt wsX3_deviceAt) := goodIn_app (goodIn_of _ (by decide +kernel)) ggX3_toGo_X3_deviceAt
set_option maxRecDepth 20000 in
theorem ggX3_battery_X3_deviceAt : GoodIn wsX3_battery wsX3_deviceAt := goodIn_ca (goodIn_r _ [6, 7, 8, 9, 10, 20, 21, 22, 23, 24, 25, 26] (by decide +kernel) (by decide +kernel)) (goodIn_sub (fun _ h => List.mem_cons_of_mem _ (List.mem_append_right _ h)) (by decide +kernel))
set_option maxRecDepth 20000 in
theorem gX3_battery_X3_deviceAt : GoodIn wsX3_battery (wsV RX3 108 RX3 yX3_deviceAt wsX3_deviceAt) := goodIn_app (goodIn_of _ (by decide +kernel)) ggX3_battery_X3_deviceAt
set_option maxRecDepth 20000 in
theorem ggX3_begin_X3_needVersion : GoodIn wsX3_begin wsX3_needVersion := goodIn_ca (goodIn_r _ [13, 14, 15] (by decide +kernel) (by decide +kernel)) (goodIn_sub (fun _ h => List.mem_cons_of_mem _ (List.mem_append_left _ (List.mem_append_right _ h))) (by decide +kernel))
set_option maxRecDepth 20000 in
theorem gX3_begin_X3_needVersion : GoodIn wsX3_begin (va_wsS RX3 52 yX3_needVersion wsX3_needVersion) := goodIn_app (goodIn_of _ (by decide +kernel)) ggX3_begin_X3_needVersion
set_option maxRecDepth 20000 in
theorem ggX3_begin_X3_needCampaign : GoodIn wsX3_begin wsX3_needCampaign := goodIn_ca (goodIn_r _ [19, 14, 15, 3, 29, 30, 31, 32, 33, 34, 35] (by decide +kernel) (by decide +kernel)) (goodIn_sub (fun _ h => List.mem_cons_of_mem _ (List.mem_append_left _ (List.mem_append_right _ h))) (by decide +kernel))
set_option maxRecDepth 20000 in
theorem gX3_begin_X3_needCampaign : GoodIn wsX3_begin (wsV RX3 146 RX3 yX3_needCampaign wsX3_needCampaign) := goodIn_app (goodIn_of _ (by decide +kernel)) ggX3_begin_X3_needCampaign
set_option maxRecDepth 20000 in
theorem ggX3_begin_X3_needRange : GoodIn wsX3_begin wsX3_needRange := goodIn_ca (goodIn_r _ [22, 23, 24] (by decide +kernel) (by decide +kernel)) (goodIn_sub (fun _ h => List.mem_cons_of_mem _ (List.mem_append_right _ h)) (by decide +kernel))
set_option maxRecDepth 20000 in
theorem gX3_begin_X3_needRange : GoodIn wsX3_begin (va_wsS RX3 55 yX3_needRange wsX3_needRange) := goodIn_app (goodIn_of _ (by decide +kernel)) ggX3_begin_X3_needRange
set_option maxRecDepth 20000 in
theorem ggX3_begin_X3_campaignAt : GoodIn wsX3_begin wsX3_campaignAt := goodIn_ca (goodIn_r _ [28, 5, 16, 17, 18, 12, 19, 14, 15, 3, 29, 30, 31, 32, 33, 34, 35] (by decide +kernel) (by decide +kernel)) (goodIn_sub (fun _ h => List.mem_cons_of_mem _ (List.mem_append_left _ (List.mem_append_right _ h))) (by decide +kernel))
set_option maxRecDepth 20000 in
theorem gX3_begin_X3_campaignAt : GoodIn wsX3_begin (wsV RX3 129 RX3 yX3_campaignAt wsX3_campaignAt) := goodIn_app (goodIn_of _ (by decide +kernel)) ggX3_begin_X3_campaignAt
set_option maxRecDepth 20000 in
theorem ggX3_setRules_X3_campaignAt : GoodIn wsX3_setRules wsX3_campaignAt := goodIn_ca (goodIn_r _ [9, 10, 11, 12, 13, 8, 14, 15, 16, 17, 36, 37, 38, 39, 40, 41, 42] (by decide +kernel) (by decide +kernel)) (goodIn_sub (fun _ h => List.mem_cons_of_mem _ (List.mem_append_left _ (List.mem_append_right _ h))) (by decide +kernel))
set_option maxRecDepth 20000 in
theorem gX3_setRules_X3_campaignAt : GoodIn wsX3_setRules (wsV RX3 129 RX3 yX3_campaignAt wsX3_campaignAt) := goodIn_app (goodIn_of _ (by decide +kernel)) ggX3_setRules_X3_campaignAt
set_option maxRecDepth 20000 in
theorem ggX3_setRules_X3_needRange : GoodIn wsX3_setRules wsX3_needRange := goodIn_ca (goodIn_r _ [20, 21, 22] (by decide +kernel) (by decide +kernel)) (goodIn_sub (fun _ h => List.mem_cons_of_mem _ (List.mem_append_right _ h)) (by decide +kernel))
set_option maxRecDepth 20000 in
theorem gX3_setRules_X3_needRange : GoodIn wsX3_setRules (va_wsS RX3 55 yX3_needRange wsX3_needRange) := goodIn_app (goodIn_of _ (by decide +kernel)) ggX3_setRules_X3_needRange
set_option maxRecDepth 20000 in
theorem ggX3_toggle_X3_campaignAt : GoodIn wsX3_toggle wsX3_campaignAt := goodIn_ca (goodIn_r _ [7, 8, 9, 10, 11, 6, 12, 13, 14, 15, 37, 38, 39, 40, 41, 42, 43] (by decide +kernel) (by decide +kernel)) (goodIn_sub (fun _ h => List.mem_cons_of_mem _ (List.mem_append_right _ h)) (by decide +kernel))
set_option maxRecDepth 20000 in
theorem gX3_toggle_X3_campaignAt : GoodIn wsX3_toggle (wsV RX3 129 RX3 yX3_campaignAt wsX3_campaignAt) := goodIn_app (goodIn_of _ (by decide +kernel)) ggX3_toggle_X3_campaignAt
set_option maxRecDepth 20000 in
theorem ggX3_toggle_X0_beginRing : GoodIn wsX3_toggle wsX0_beginRing := goodIn_r _ [20, 21, 22, 23, 24, 25, 26, 27, 28, 29, 30, 31, 32, 33, 34, 35, 36] (by decide +kernel) (by decide +kernel)
set_option maxRecDepth 20000 in
theorem gX3_toggle_X0_beginRing : GoodIn wsX3_toggle (wsV RX3 177 RX0 yX0_beginRing wsX0_beginRing) := goodIn_app (goodIn_of _ (by decide +kernel)) ggX3_toggle_X0_beginRing
set_option maxRecDepth 20000 in
theorem ggX3_isActive_X3_campaignAt : GoodIn wsX3_isActive wsX3_campaignAt := goodIn_ca (goodIn_r _ [6, 7, 8, 9, 10, 5, 11, 12, 13, 14, 28, 29, 30, 31, 32, 33, 34] (by decide +kernel) (by decide +kernel)) (goodIn_sub (fun _ h => List.mem_cons_of_mem _ (List.mem_append_right _ h)) (by decide +kernel))
set_option maxRecDepth 20000 in
theorem gX3_isActive_X3_campaignAt : GoodIn wsX3_isActive (wsV RX3 129 RX3 yX3_campaignAt wsX3_campaignAt) := goodIn_app (goodIn_of _ (by decide +kernel)) ggX3_isActive_X3_campaignAt
set_option maxRecDepth 20000 in
theorem ggX3_ring_X3_campaignAt : GoodIn wsX3_ring wsX3_campaignAt := goodIn_ca (goodIn_r _ [6, 7, 8, 9, 10, 5, 11, 12, 13, 14, 28, 29, 30, 31, 32, 33, 34] (by decide +kernel) (by decide +kernel)) (goodIn_sub (fun _ h => List.mem_cons_of_mem _ (List.mem_append_right _ h)) (by decide +kernel))
set_option maxRecDepth 20000 in
theorem gX3_ring_X3_campaignAt : GoodIn wsX3_ring (wsV RX3 129 RX3 yX3_campaignAt wsX3_campaignAt) := goodIn_app (goodIn_of _ (by decide +kernel)) ggX3_ring_X3_campaignAt
set_option maxRecDepth 20000 in
theorem ggX3_reports_X3_campaignAt : GoodIn wsX3_reports wsX3_campaignAt := goodIn_ca (goodIn_r _ [6, 7, 8, 9, 10, 5, 11, 12, 13, 14, 28, 29, 30, 31, 32, 33, 34] (by decide +kernel) (by decide +kernel)) (goodIn_sub (fun _ h => List.mem_cons_of_mem _ (List.mem_append_right _ h)) (by decide +kernel))
set_option maxRecDepth 20000 in
theorem gX3_reports_X3_campaignAt : GoodIn wsX3_reports (wsV RX3 129 RX3 yX3_campaignAt wsX3_campaignAt) := goodIn_app (goodIn_of _ (by decide +kernel)) ggX3_reports_X3_campaignAt
set_option maxRecDepth 20000 in
theorem ggX3_eligible_X3_campaignAt : GoodIn wsX3_eligible wsX3_campaignAt := goodIn_ca (goodIn_r _ [7, 8, 9, 10, 11, 6, 12, 13, 14, 15, 69, 70, 71, 72, 73, 74, 75] (by decide +kernel) (by decide +kernel)) (goodIn_sub (fun _ h => List.mem_cons_of_mem _ (List.mem_append_right _ h)) (by decide +kernel))
set_option maxRecDepth 20000 in
theorem gX3_eligible_X3_campaignAt : GoodIn wsX3_eligible (wsV RX3 129 RX3 yX3_campaignAt wsX3_campaignAt) := goodIn_app (goodIn_of _ (by decide +kernel)) ggX3_eligible_X3_campaignAt
set_option maxRecDepth 20000 in
theorem ggX3_eligible_X3_mayTake : GoodIn wsX3_eligible wsX3_mayTake := goodIn_r _ [19, 20, 21, 22, 23, 24, 25, 26, 27, 28, 29, 30, 31, 32, 33, 34, 35, 36, 37, 38, 39, 6, 40, 41, 42, 43, 44, 45, 46, 47, 48, 49, 50, 51, 52, 53, 54, 55, 56, 57, 58, 59, 60, 61, 62, 63, 64, 65, 66, 67, 68, 76, 77, 78, 79, 80, 81, 82, 83, 84, 69, 70, 71, 72, 73, 74, 75, 85, 86, 87, 88, 89, 90, 91, 92, 93, 94, 95, 96, 97, 98, 99, 100, 101] (by decide +kernel) (by decide +kernel)
set_option maxRecDepth 20000 in
theorem gX3_eligible_X3_mayTake : GoodIn wsX3_eligible (wsV RX3 183 RX3 yX3_mayTake wsX3_mayTake) := goodIn_app (goodIn_of _ (by decide +kernel)) ggX3_eligible_X3_mayTake
set_option maxRecDepth 20000 in
theorem ggX3_pass_X3_needRange : GoodIn wsX3_pass wsX3_needRange := goodIn_ca (goodIn_r _ [4, 5, 6] (by decide +kernel) (by decide +kernel)) (goodIn_sub (fun _ h => List.mem_cons_of_mem _ (List.mem_append_right _ h)) (by decide +kernel))
set_option maxRecDepth 20000 in
theorem gX3_pass_X3_needRange : GoodIn wsX3_pass (va_wsS RX3 55 yX3_needRange wsX3_needRange) := goodIn_app (goodIn_of _ (by decide +kernel)) ggX3_pass_X3_needRange
set_option maxRecDepth 20000 in
theorem ggX3_pass_X3_passOneHour : GoodIn wsX3_pass wsX3_passOneHour := goodIn_r _ [10, 11, 12, 13, 14, 15, 16, 17, 3, 18, 19, 20, 21, 22, 23, 24, 25, 26, 27, 28, 29, 30, 31, 32, 33, 34, 35, 36, 37, 38, 39, 40, 41, 42, 43, 44, 45, 46, 47, 48, 49, 50, 51, 52, 53, 54, 55, 56, 57, 58, 59, 60, 61, 62, 63, 64, 65, 66, 67, 68, 69, 70, 71, 72, 73, 74, 75, 76, 77, 78, 79, 80, 81, 82, 83, 84, 85, 86, 87, 88, 89, 90, 91, 92, 93, 94, 95, 96, 97, 98, 99, 100, 101, 102, 103, 104, 105, 106, 107, 108, 109, 110, 111, 112, 113, 114, 115, 116, 117, 118, 119, 120, 121, 122, 123, 124, 125, 126, 127, 128, 129, 130, 131, 132] (by decide +kernel) (by decide +kernel)
set_option maxRecDepth 20000 in
theorem gX3_pass_X3_passOneHour : GoodIn wsX3_pass (wsV RX3 187 RX3 yX3_passOneHour wsX3_passOneHour) := goodIn_app (goodIn_of _ (by decide +kernel)) ggX3_pass_X3_passOneHour
set_option maxRecDepth 20000 in
theorem ggX3_passOneHour_X3_takeLowestCampaign : GoodIn wsX3_passOneHour wsX3_takeLowestCampaign := goodIn_r _ [9, 10, 11, 12, 13, 14, 15, 16, 17, 8, 18, 4, 19, 20, 21, 22, 23, 24, 25, 26, 27, 28, 29, 30, 31, 32, 33, 34, 35, 36, 37, 38, 39, 40, 41, 42, 43, 44, 45, 46, 47, 48, 49, 50, 51, 52, 53, 54, 55, 56, 57, 58, 59, 60, 61, 62, 63, 64, 65, 66, 67, 68, 69, 70, 71, 72, 91, 92, 93, 94, 95, 96, 97, 98, 99, 100, 101, 102, 103, 104, 105, 106, 107, 108, 109, 110, 111, 112, 113, 114, 115, 116, 117, 118, 119, 120, 121, 122, 123] (by decide +kernel) (by decide +kernel)
set_option maxRecDepth 20000 in
theorem gX3_passOneHour_X3_takeLowestCampaign : GoodIn wsX3_passOneHour (wsV RX3 191 RX3 yX3_takeLowestCampaign wsX3_takeLowestCampaign) := goodIn_app (goodIn_of _ (by decide +kernel)) ggX3_passOneHour_X3_takeLowestCampaign
set_option maxRecDepth 20000 in
theorem ggX3_passOneHour_X1_canLoad : GoodIn wsX3_passOneHour wsX1_canLoad := goodIn_r _ [76, 69, 77, 78, 79, 80, 67, 81, 82, 83, 98, 99, 100, 101, 102, 103, 104, 105, 106] (by decide +kernel) (by decide +kernel)
set_option maxRecDepth 20000 in
theorem gX3_passOneHour_X1_canLoad : GoodIn wsX3_passOneHour (wsV RX3 195 RX1 yX1_canLoad wsX1_canLoad) := goodIn_app (goodIn_of _ (by decide +kernel)) ggX3_passOneHour_X1_canLoad
set_option maxRecDepth 20000 in
theorem ggX3_passOneHour_X1_load : GoodIn wsX3_passOneHour wsX1_load := goodIn_r _ [87, 72, 88, 89, 58, 90, 77, 69, 98, 99, 100, 101, 102, 103, 104, 105, 106] (by decide +kernel) (by decide +kernel)
set_option maxRecDepth 20000 in
theorem gX3_passOneHour_X1_load : GoodIn wsX3_passOneHour (wsV RX3 199 RX1 yX1_load wsX1_load) := goodIn_app (goodIn_of _ (by decide +kernel)) ggX3_passOneHour_X1_load
set_option maxRecDepth 20000 in
theorem ggX3_takeLowestCampaign_X3_mayTake : GoodIn wsX3_takeLowestCampaign wsX3_mayTake := goodIn_r _ [10, 11, 12, 5, 13, 3, 4, 14, 15, 16, 17, 18, 19, 20, 21, 22, 23, 24, 25, 26, 27, 9, 28, 29, 30, 31, 32, 33, 34, 35, 36, 37, 38, 39, 40, 41, 42, 43, 44, 45, 46, 47, 48, 49, 50, 51, 52, 53, 54, 55, 56, 73, 74, 75, 76, 77, 78, 79, 80, 81, 66, 67, 68, 69, 70, 71, 72, 82, 83, 84, 85, 86, 87, 88, 89, 90, 91, 92, 93, 94, 95, 96, 97, 98] (by decide +kernel) (by decide +kernel)
set_option maxRecDepth 20000 in
theorem gX3_takeLowestCampaign_X3_mayTake : GoodIn wsX3_takeLowestCampaign (wsV RX3 183 RX3 yX3_mayTake wsX3_mayTake) := goodIn_app (goodIn_of _ (by decide +kernel)) ggX3_takeLowestCampaign_X3_mayTake
set_option maxRecDepth 20000 in
theorem ggX3_takeLowestCampaign_X2_leastBytes : GoodIn wsX3_takeLowestCampaign wsX2_leastBytes := goodIn_r _ [46, 47, 48, 49, 50, 51, 52, 53, 54, 45, 55, 56, 95, 96, 97, 98] (by decide +kernel) (by decide +kernel)
set_option maxRecDepth 20000 in
theorem gX3_takeLowestCampaign_X2_leastBytes : GoodIn wsX3_takeLowestCampaign (wsV RX3 77 RX2 yX2_leastBytes wsX2_leastBytes) := goodIn_app (goodIn_of _ (by decide +kernel)) ggX3_takeLowestCampaign_X2_leastBytes
set_option maxRecDepth 20000 in
theorem ggX3_takeLowestCampaign_X1_take : GoodIn wsX3_takeLowestCampaign wsX1_take := goodIn_r _ [61, 62, 63, 64, 65, 73, 74, 75, 76, 77, 78, 79, 80, 81, 82, 83, 84, 85, 86, 87, 88, 89, 90, 91, 92, 93, 94] (by decide +kernel) (by decide +kernel)
set_option maxRecDepth 20000 in
theorem gX3_takeLowestCampaign_X1_take : GoodIn wsX3_takeLowestCampaign (wsV RX3 202 RX1 yX1_take wsX1_take) := goodIn_app (goodIn_of _ (by decide +kernel)) ggX3_takeLowestCampaign_X1_take
set_option maxRecDepth 20000 in
theorem ggX3_mayTake_X0_isFor : GoodIn wsX3_mayTake wsX0_isFor := goodIn_r _ [11, 12, 13, 14, 15, 16, 17, 18, 19, 20, 21, 22, 23, 24, 25, 10, 26, 27, 28, 29, 30, 31, 32, 33, 34, 67, 68, 69, 70, 71, 72, 73, 74, 75, 76, 77, 78, 79, 51, 52, 53, 54, 55, 56, 57, 58, 59] (by decide +kernel) (by decide +kernel)
set_option maxRecDepth 20000 in
theorem gX3_mayTake_X0_isFor : GoodIn wsX3_mayTake (wsV RX3 206 RX0 yX0_isFor wsX0_isFor) := goodIn_app (goodIn_of _ (by decide +kernel)) ggX3_mayTake_X0_isFor
set_option maxRecDepth 20000 in
theorem ggX3_mayTake_X3_has : GoodIn wsX3_mayTake wsX3_has := goodIn_r _ [22] (by decide +kernel) (by decide +kernel)
set_option maxRecDepth 20000 in
theorem gX3_mayTake_X3_has : GoodIn wsX3_mayTake (va_wsS RX3 93 yX3_has wsX3_has) := goodIn_app (goodIn_of _ (by decide +kernel)) ggX3_mayTake_X3_has
set_option maxRecDepth 20000 in
theorem ggX3_mayTake_X2_leastBytes : GoodIn wsX3_mayTake wsX2_leastBytes := goodIn_r _ [40, 41, 42, 43, 44, 45, 46, 47, 48, 39, 49, 50, 80, 81, 82, 83] (by decide +kernel) (by decide +kernel)
set_option maxRecDepth 20000 in
theorem gX3_mayTake_X2_leastBytes : GoodIn wsX3_mayTake (wsV RX3 77 RX2 yX2_leastBytes wsX2_leastBytes) := goodIn_app (goodIn_of _ (by decide +kernel)) ggX3_mayTake_X2_leastBytes
set_option maxRecDepth 20000 in
theorem ggX3_campaignAt_X3_needCampaign : GoodIn wsX3_campaignAt wsX3_needCampaign := goodIn_ca (goodIn_r _ [6, 7, 8, 9, 10, 11, 12, 13, 14, 15, 16] (by decide +kernel) (by decide +kernel)) (goodIn_sub (fun _ h => List.mem_cons_of_mem _ (List.mem_append_right _ h)) (by decide +kernel))
set_option maxRecDepth 20000 in
theorem gX3_campaignAt_X3_needCampaign : GoodIn wsX3_campaignAt (wsV RX3 146 RX3 yX3_needCampaign wsX3_needCampaign) := goodIn_app (goodIn_of _ (by decide +kernel)) ggX3_campaignAt_X3_needCampaign
set_option maxRecDepth 20000 in
theorem ggX3_needBytesOrNone_X3_needRange : GoodIn wsX3_needBytesOrNone wsX3_needRange := goodIn_ca (goodIn_r _ [5, 6, 7] (by decide +kernel) (by decide +kernel)) (goodIn_sub (fun _ h => List.mem_cons_of_mem _ (List.mem_append_right _ h)) (by decide +kernel))
set_option maxRecDepth 20000 in
theorem gX3_needBytesOrNone_X3_needRange : GoodIn wsX3_needBytesOrNone (va_wsS RX3 55 yX3_needRange wsX3_needRange) := goodIn_app (goodIn_of _ (by decide +kernel)) ggX3_needBytesOrNone_X3_needRange
set_option maxRecDepth 20000 in
theorem ggX4_isVersion_X4_in : GoodIn wsX4_isVersion wsX4_in := goodIn_r _ [4] (by decide +kernel) (by decide +kernel)
set_option maxRecDepth 20000 in
theorem gX4_isVersion_X4_in : GoodIn wsX4_isVersion (va_wsS RX4 84 yX4_in wsX4_in) := goodIn_app (goodIn_of _ (by decide +kernel)) ggX4_isVersion_X4_in
set_option maxRecDepth 20000 in
theorem ggX4_isSize_X4_in : GoodIn wsX4_isSize wsX4_in := goodIn_r _ [5] (by decide +kernel) (by decide +kernel)
set_option maxRecDepth 20000 in
theorem gX4_isSize_X4_in : GoodIn wsX4_isSize (va_wsS RX4 84 yX4_in wsX4_in) := goodIn_app (goodIn_of _ (by decide +kernel)) ggX4_isSize_X4_in
set_option maxRecDepth 20000 in
theorem ggX4_isDevice_X4_in : GoodIn wsX4_isDevice wsX4_in := goodIn_r _ [5] (by decide +kernel) (by decide +kernel)
set_option maxRecDepth 20000 in
theorem gX4_isDevice_X4_in : GoodIn wsX4_isDevice (va_wsS RX4 84 yX4_in wsX4_in) := goodIn_app (goodIn_of _ (by decide +kernel)) ggX4_isDevice_X4_in
set_option maxRecDepth 20000 in
theorem ggX4_isCampaign_X4_in : GoodIn wsX4_isCampaign wsX4_in := goodIn_r _ [5] (by decide +kernel) (by decide +kernel)
set_option maxRecDepth 20000 in
theorem gX4_isCampaign_X4_in : GoodIn wsX4_isCampaign (va_wsS RX4 84 yX4_in wsX4_in) := goodIn_app (goodIn_of _ (by decide +kernel)) ggX4_isCampaign_X4_in
set_option maxRecDepth 20000 in
theorem ggX4_allow_X4_isVersion : GoodIn wsX4_allow wsX4_isVersion := goodIn_r _ [5, 6, 7, 4, 8] (by decide +kernel) (by decide +kernel)
set_option maxRecDepth 20000 in
theorem gX4_allow_X4_isVersion : GoodIn wsX4_allow (va_wsS RX4 95 yX4_isVersion wsX4_isVersion) := goodIn_app (goodIn_of _ (by decide +kernel)) ggX4_allow_X4_isVersion
set_option maxRecDepth 20000 in
theorem ggX4_allow_X4_in : GoodIn wsX4_allow wsX4_in := goodIn_r _ [8] (by decide +kernel) (by decide +kernel)
set_option maxRecDepth 20000 in
theorem gX4_allow_X4_in : GoodIn wsX4_allow (va_wsS RX4 84 yX4_in wsX4_in) := goodIn_app (goodIn_of _ (by decide +kernel)) ggX4_allow_X4_in
set_option maxRecDepth 20000 in
theorem ggX4_allow_X4_refused : GoodIn wsX4_allow wsX4_refused := goodIn_r _ [12, 13, 14, 15, 16, 17, 18, 19, 20, 21, 22, 23, 24, 25, 26, 27, 28, 29, 30, 31, 32, 33, 34, 35, 36, 37, 38, 39, 40] (by decide +kernel) (by decide +kernel)
set_option maxRecDepth 20000 in
theorem gX4_allow_X4_refused : GoodIn wsX4_allow (wsV RX4 99 RX4 yX4_refused wsX4_refused) := goodIn_app (goodIn_of _ (by decide +kernel)) ggX4_allow_X4_refused
set_option maxRecDepth 20000 in
theorem ggX4_setImage_X4_isVersion : GoodIn wsX4_setImage wsX4_isVersion := goodIn_r _ [5, 6, 7, 4, 8] (by decide +kernel) (by decide +kernel)
set_option maxRecDepth 20000 in
theorem gX4_setImage_X4_isVersion : GoodIn wsX4_setImage (va_wsS RX4 95 yX4_isVersion wsX4_isVersion) := goodIn_app (goodIn_of _ (by decide +kernel)) ggX4_setImage_X4_isVersion
set_option maxRecDepth 20000 in
theorem ggX4_setImage_X4_isSize : GoodIn wsX4_setImage wsX4_isSize := goodIn_r _ [11, 12, 6, 7, 4, 8] (by decide +kernel) (by decide +kernel)
set_option maxRecDepth 20000 in
theorem gX4_setImage_X4_isSize : GoodIn wsX4_setImage (va_wsS RX4 102 yX4_isSize wsX4_isSize) := goodIn_app (goodIn_of _ (by decide +kernel)) ggX4_setImage_X4_isSize
set_option maxRecDepth 20000 in
theorem ggX4_setImage_X4_refused : GoodIn wsX4_setImage wsX4_refused := goodIn_r _ [16, 17, 18, 19, 20, 21, 22, 23, 24, 25, 26, 27, 28, 29, 30, 31, 32, 33, 34, 35, 36, 37, 38, 39, 40, 41, 42, 43, 44] (by decide +kernel) (by decide +kernel)
set_option maxRecDepth 20000 in
theorem gX4_setImage_X4_refused : GoodIn wsX4_setImage (wsV RX4 99 RX4 yX4_refused wsX4_refused) := goodIn_app (goodIn_of _ (by decide +kernel)) ggX4_setImage_X4_refused
set_option maxRecDepth 20000 in
theorem ggX4_setDelta_X4_isVersion : GoodIn wsX4_setDelta wsX4_isVersion := goodIn_r _ [5, 6, 7, 4, 8] (by decide +kernel) (by decide +kernel)
set_option maxRecDepth 20000 in
theorem gX4_setDelta_X4_isVersion : GoodIn wsX4_setDelta (va_wsS RX4 95 yX4_isVersion wsX4_isVersion) := goodIn_app (goodIn_of _ (by decide +kernel)) ggX4_setDelta_X4_isVersion
set_option maxRecDepth 20000 in
theorem ggX4_setDelta_X4_isSize : GoodIn wsX4_setDelta wsX4_isSize := goodIn_r _ [11, 12, 6, 7, 4, 8] (by decide +kernel) (by decide +kernel)
set_option maxRecDepth 20000 in
theorem gX4_setDelta_X4_isSize : GoodIn wsX4_setDelta (va_wsS RX4 102 yX4_isSize wsX4_isSize) := goodIn_app (goodIn_of _ (by decide +kernel)) ggX4_setDelta_X4_isSize
set_option maxRecDepth 20000 in
theorem ggX4_setDelta_X4_refused : GoodIn wsX4_setDelta wsX4_refused := goodIn_r _ [16, 17, 18, 19, 20, 21, 22, 23, 24, 25, 26, 27, 28, 29, 30, 31, 32, 33, 34, 35, 36, 37, 38, 39, 40, 41, 42, 43, 44] (by decide +kernel) (by decide +kernel)
set_option maxRecDepth 20000 in
theorem gX4_setDelta_X4_refused : GoodIn wsX4_setDelta (wsV RX4 99 RX4 yX4_refused wsX4_refused) := goodIn_app (goodIn_of _ (by decide +kernel)) ggX4_setDelta_X4_refused
set_option maxRecDepth 20000 in
theorem ggX4_size_X4_isVersion : GoodIn wsX4_size wsX4_isVersion := goodIn_r _ [4, 5, 6, 3, 7] (by decide +kernel) (by decide +kernel)
set_option maxRecDepth 20000 in
theorem gX4_size_X4_isVersion : GoodIn wsX4_size (va_wsS RX4 95 yX4_isVersion wsX4_isVersion) := goodIn_app (goodIn_of _ (by decide +kernel)) ggX4_size_X4_isVersion
set_option maxRecDepth 20000 in
theorem ggX4_size_X4_refused : GoodIn wsX4_size wsX4_refused := goodIn_r _ [11, 12, 21, 22, 23, 24, 25, 26, 27, 28, 29, 30, 31, 32, 33, 34, 35, 36, 37, 38, 39, 40, 41, 42, 43, 44, 45, 46, 47] (by decide +kernel) (by decide +kernel)
set_option maxRecDepth 20000 in
theorem gX4_size_X4_refused : GoodIn wsX4_size (wsV RX4 99 RX4 yX4_refused wsX4_refused) := goodIn_app (goodIn_of _ (by decide +kernel)) ggX4_size_X4_refused
set_option maxRecDepth 20000 in
theorem ggX4_size_X4_sizeOf : GoodIn wsX4_size wsX4_sizeOf := goodIn_r _ [16, 17, 18, 19, 20, 21, 22, 23, 24, 25, 26, 27, 28, 29, 30, 31, 32, 33, 34, 35, 36, 37, 38, 39, 40, 41, 42, 43, 44, 45, 46, 47] (by decide +kernel) (by decide +kernel)
set_option maxRecDepth 20000 in
theorem gX4_size_X4_sizeOf : GoodIn wsX4_size (wsV RX4 106 RX4 yX4_sizeOf wsX4_sizeOf) := goodIn_app (goodIn_of _ (by decide +kernel)) ggX4_size_X4_sizeOf
set_option maxRecDepth 20000 in
theorem ggX4_sizeByWays_X4_size : GoodIn wsX4_sizeByWays wsX4_size := goodIn_r _ [5, 6, 7, 4, 8, 9, 10, 11, 12, 13, 14, 15, 16, 17, 18, 19, 20, 21, 22, 23, 24, 25, 26, 27, 28, 29, 30, 31, 32, 33, 34, 35, 36, 37, 38, 39, 40, 41, 42, 43, 44, 45, 46, 47, 48, 49, 50, 51] (by decide +kernel) (by decide +kernel)
set_option maxRecDepth 20000 in
theorem gX4_sizeByWays_X4_size : GoodIn wsX4_sizeByWays (wsV RX4 110 RX4 yX4_size wsX4_size) := goodIn_app (goodIn_of _ (by decide +kernel)) ggX4_sizeByWays_X4_size
set_option maxRecDepth 20000 in
theorem ggX4_addDevice_X4_in : GoodIn wsX4_addDevice wsX4_in := goodIn_r _ [12] (by decide +kernel) (by decide +kernel)
set_option maxRecDepth 20000 in
theorem gX4_addDevice_X4_in : GoodIn wsX4_addDevice (va_wsS RX4 84 yX4_in wsX4_in) := goodIn_app (goodIn_of _ (by decide +kernel)) ggX4_addDevice_X4_in
set_option maxRecDepth 20000 in
theorem ggX4_addDevice_X4_isVersion : GoodIn wsX4_addDevice wsX4_isVersion := goodIn_r _ [15, 9, 10, 11, 12] (by decide +kernel) (by decide +kernel)
set_option maxRecDepth 20000 in
theorem gX4_addDevice_X4_isVersion : GoodIn wsX4_addDevice (va_wsS RX4 95 yX4_isVersion wsX4_isVersion) := goodIn_app (goodIn_of _ (by decide +kernel)) ggX4_addDevice_X4_isVersion
set_option maxRecDepth 20000 in
theorem ggX4_addDevice_X4_refused : GoodIn wsX4_addDevice wsX4_refused := goodIn_r _ [19, 20, 21, 22, 23, 24, 25, 26, 27, 28, 29, 30, 31, 32, 33, 34, 35, 36, 37, 38, 39, 40, 41, 42, 43, 44, 45, 46, 47] (by decide +kernel) (by decide +kernel)
set_option maxRecDepth 20000 in
theorem gX4_addDevice_X4_refused : GoodIn wsX4_addDevice (wsV RX4 99 RX4 yX4_refused wsX4_refused) := goodIn_app (goodIn_of _ (by decide +kernel)) ggX4_addDevice_X4_refused
set_option maxRecDepth 20000 in
theorem ggX4_charge_X4_isDevice : GoodIn wsX4_charge wsX4_isDevice := goodIn_r _ [6, 7, 8, 9, 5, 10, 16, 17, 18, 19, 20, 21, 22, 23, 24, 25, 26, 27, 28, 29, 30, 31, 32, 33, 34, 35, 36, 37, 38, 39, 40, 41, 42] (by decide +kernel) (by decide +kernel)
set_option maxRecDepth 20000 in
theorem gX4_charge_X4_isDevice : GoodIn wsX4_charge (wsV RX4 113 RX4 yX4_isDevice wsX4_isDevice) := goodIn_app (goodIn_of _ (by decide +kernel)) ggX4_charge_X4_isDevice
set_option maxRecDepth 20000 in
theorem ggX4_charge_X4_in : GoodIn wsX4_charge wsX4_in := goodIn_r _ [10] (by decide +kernel) (by decide +kernel)
set_option maxRecDepth 20000 in
theorem gX4_charge_X4_in : GoodIn wsX4_charge (va_wsS RX4 84 yX4_in wsX4_in) := goodIn_app (goodIn_of _ (by decide +kernel)) ggX4_charge_X4_in
set_option maxRecDepth 20000 in
theorem ggX4_charge_X4_refused : GoodIn wsX4_charge wsX4_refused := goodIn_r _ [14, 15, 16, 17, 18, 19, 20, 21, 22, 23, 24, 25, 26, 27, 28, 29, 30, 31, 32, 33, 34, 35, 36, 37, 38, 39, 40, 41, 42] (by decide +kernel) (by decide +kernel)
set_option maxRecDepth 20000 in
theorem gX4_charge_X4_refused : GoodIn wsX4_charge (wsV RX4 99 RX4 yX4_refused wsX4_refused) := goodIn_app (goodIn_of _ (by decide +kernel)) ggX4_charge_X4_refused
set_option maxRecDepth 20000 in
theorem ggX4_setWindow_X4_isDevice : GoodIn wsX4_setWindow wsX4_isDevice := goodIn_r _ [7, 8, 9, 10, 6, 11, 17, 18, 19, 20, 21, 22, 23, 24, 25, 26, 27, 28, 29, 30, 31, 32, 33, 34, 35, 36, 37, 38, 39, 40, 41, 42, 43] (by decide +kernel) (by decide +kernel)
set_option maxRecDepth 20000 in
theorem gX4_setWindow_X4_isDevice : GoodIn wsX4_setWindow (wsV RX4 113 RX4 yX4_isDevice wsX4_isDevice) := goodIn_app (goodIn_of _ (by decide +kernel)) ggX4_setWindow_X4_isDevice
set_option maxRecDepth 20000 in
theorem ggX4_setWindow_X4_in : GoodIn wsX4_setWindow wsX4_in := goodIn_r _ [11] (by decide +kernel) (by decide +kernel)
set_option maxRecDepth 20000 in
theorem gX4_setWindow_X4_in : GoodIn wsX4_setWindow (va_wsS RX4 84 yX4_in wsX4_in) := goodIn_app (goodIn_of _ (by decide +kernel)) ggX4_setWindow_X4_in
set_option maxRecDepth 20000 in
theorem ggX4_setWindow_X4_refused : GoodIn wsX4_setWindow wsX4_refused := goodIn_r _ [15, 16, 17, 18, 19, 20, 21, 22, 23, 24, 25, 26, 27, 28, 29, 30, 31, 32, 33, 34, 35, 36, 37, 38, 39, 40, 41, 42, 43] (by decide +kernel) (by decide +kernel)
set_option maxRecDepth 20000 in
theorem gX4_setWindow_X4_refused : GoodIn wsX4_setWindow (wsV RX4 99 RX4 yX4_refused wsX4_refused) := goodIn_app (goodIn_of _ (by decide +kernel)) ggX4_setWindow_X4_refused
set_option maxRecDepth 20000 in
theorem ggX4_report_X4_isDevice : GoodIn wsX4_report wsX4_isDevice := goodIn_r _ [12, 13, 14, 15, 11, 16, 30, 31, 32, 33, 34, 35, 36, 37, 38, 39, 40, 41, 42, 43, 44, 45, 46, 47, 48, 49, 50, 51, 52, 53, 54, 55, 56] (by decide +kernel) (by decide +kernel)
set_option maxRecDepth 20000 in
theorem gX4_report_X4_isDevice : GoodIn wsX4_report (wsV RX4 113 RX4 yX4_isDevice wsX4_isDevice) := goodIn_app (goodIn_of _ (by decide +kernel)) ggX4_report_X4_isDevice
set_option maxRecDepth 20000 in
theorem ggX4_report_X4_refused : GoodIn wsX4_report wsX4_refused := goodIn_r _ [20, 21, 30, 31, 32, 33, 34, 35, 36, 37, 38, 39, 40, 41, 42, 43, 44, 45, 46, 47, 48, 49, 50, 51, 52, 53, 54, 55, 56] (by decide +kernel) (by decide +kernel)
set_option maxRecDepth 20000 in
theorem gX4_report_X4_refused : GoodIn wsX4_report (wsV RX4 99 RX4 yX4_refused wsX4_refused) := goodIn_app (goodIn_of _ (by decide +kernel)) ggX4_report_X4_refused
set_option maxRecDepth 20000 in
theorem ggX4_report_X4_judge : GoodIn wsX4_report wsX4_judge := goodIn_r _ [25, 26, 6, 27, 7, 28, 29, 30, 31, 32, 33, 34, 35, 36, 37, 38, 39, 40, 41, 42, 43, 44, 45, 46, 47, 48, 49, 50, 51, 52, 53, 54, 55, 56] (by decide +kernel) (by decide +kernel)
set_option maxRecDepth 20000 in
theorem gX4_report_X4_judge : GoodIn wsX4_report (wsV RX4 116 RX4 yX4_judge wsX4_judge) := goodIn_app (goodIn_of _ (by decide +kernel)) ggX4_report_X4_judge
set_option maxRecDepth 20000 in
theorem ggX4_devices_X4_fine : GoodIn wsX4_devices wsX4_fine := goodIn_r _ [6, 7, 8, 9, 10, 11, 12, 13, 14, 15, 16, 17, 18, 19, 20, 21, 22, 23, 24, 25, 26, 27, 28, 29, 30, 31, 32, 33, 34] (by decide +kernel) (by decide +kernel)
set_option maxRecDepth 20000 in
theorem gX4_devices_X4_fine : GoodIn wsX4_devices (wsV RX4 120 RX4 yX4_fine wsX4_fine) := goodIn_app (goodIn_of _ (by decide +kernel)) ggX4_devices_X4_fine
set_option maxRecDepth 20000 in
theorem ggX4_noDevice_X4_isDevice : GoodIn wsX4_noDevice wsX4_isDevice := goodIn_r _ [5, 6, 7, 8, 4, 9, 15, 16, 17, 18, 19, 20, 21, 22, 23, 24, 25, 26, 27, 28, 29, 30, 31, 32, 33, 34, 35, 36, 37, 38, 39, 40, 41] (by decide +kernel) (by decide +kernel)
set_option maxRecDepth 20000 in
theorem gX4_noDevice_X4_isDevice : GoodIn wsX4_noDevice (wsV RX4 113 RX4 yX4_isDevice wsX4_isDevice) := goodIn_app (goodIn_of _ (by decide +kernel)) ggX4_noDevice_X4_isDevice
set_option maxRecDepth 20000 in
theorem ggX4_noDevice_X4_refused : GoodIn wsX4_noDevice wsX4_refused := goodIn_r _ [13, 14, 15, 16, 17, 18, 19, 20, 21, 22, 23, 24, 25, 26, 27, 28, 29, 30, 31, 32, 33, 34, 35, 36, 37, 38, 39, 40, 41] (by decide +kernel) (by decide +kernel)
set_option maxRecDepth 20000 in
theorem gX4_noDevice_X4_refused : GoodIn wsX4_noDevice (wsV RX4 99 RX4 yX4_refused wsX4_refused) := goodIn_app (goodIn_of _ (by decide +kernel)) ggX4_noDevice_X4_refused
set_option maxRecDepth 20000 in
theorem ggX4_state_X4_noDevice : GoodIn wsX4_state wsX4_noDevice := goodIn_r _ [6, 7, 8, 9, 5, 10, 11, 12, 13, 14, 15, 16, 17, 18, 19, 20, 21, 22, 23, 24, 25, 26, 27, 28, 29, 30, 31, 32, 33, 34, 35, 36, 37, 38, 39, 40, 41, 42, 43, 44, 45, 46] (by decide +kernel) (by decide +kernel)
set_option maxRecDepth 20000 in
theorem gX4_state_X4_noDevice : GoodIn wsX4_state (wsV RX4 124 RX4 yX4_noDevice wsX4_noDevice) := goodIn_app (goodIn_of _ (by decide +kernel)) ggX4_state_X4_noDevice
set_option maxRecDepth 20000 in
theorem ggX4_version_X4_noDevice : GoodIn wsX4_version wsX4_noDevice := goodIn_r _ [6, 7, 8, 9, 5, 10, 11, 12, 13, 14, 15, 16, 17, 18, 19, 20, 21, 22, 23, 24, 25, 26, 27, 28, 29, 30, 31, 32, 33, 34, 35, 36, 37, 38, 39, 40, 41, 42, 43, 44, 45, 46] (by decide +kernel) (by decide +kernel)
set_option maxRecDepth 20000 in
theorem gX4_version_X4_noDevice : GoodIn wsX4_version (wsV RX4 124 RX4 yX4_noDevice wsX4_noDevice) := goodIn_app (goodIn_of _ (by decide +kernel)) ggX4_version_X4_noDevice
set_option maxRecDepth 20000 in
theorem ggX4_campaignOf_X4_noDevice : GoodIn wsX4_campaignOf wsX4_noDevice := goodIn_r _ [6, 7, 8, 9, 5, 10, 11, 12, 13, 14, 15, 16, 17, 18, 19, 20, 21, 22, 23, 24, 25, 26, 27, 28, 29, 30, 31, 32, 33, 34, 35, 36, 37, 38, 39, 40, 41, 42, 43, 44, 45, 46] (by decide +kernel) (by decide +kernel)
set_option maxRecDepth 20000 in
theorem gX4_campaignOf_X4_noDevice : GoodIn wsX4_campaignOf (wsV RX4 124 RX4 yX4_noDevice wsX4_noDevice) := goodIn_app (goodIn_of _ (by decide +kernel)) ggX4_campaignOf_X4_noDevice
set_option maxRecDepth 20000 in
theorem ggX4_toGo_X4_noDevice : GoodIn wsX4_toGo wsX4_noDevice := goodIn_r _ [6, 7, 8, 9, 5, 10, 11, 12, 13, 14, 15, 16, 17, 18, 19, 20, 21, 22, 23, 24, 25, 26, 27, 28, 29, 30, 31, 32, 33, 34, 35, 36, 37, 38, 39, 40, 41, 42, 43, 44, 45, 46] (by decide +kernel) (by decide +kernel)
set_option maxRecDepth 20000 in
theorem gX4_toGo_X4_noDevice : GoodIn wsX4_toGo (wsV RX4 124 RX4 yX4_noDevice wsX4_noDevice) := goodIn_app (goodIn_of _ (by decide +kernel)) ggX4_toGo_X4_noDevice
set_option maxRecDepth 20000 in
theorem ggX4_battery_X4_noDevice : GoodIn wsX4_battery wsX4_noDevice := goodIn_r _ [6, 7, 8, 9, 5, 10, 11, 12, 13, 14, 15, 16, 17, 18, 19, 20, 21, 22, 23, 24, 25, 26, 27, 28, 29, 30, 31, 32, 33, 34, 35, 36, 37, 38, 39, 40, 41, 42, 43, 44, 45, 46] (by decide +kernel) (by decide +kernel)
set_option maxRecDepth 20000 in
theorem gX4_battery_X4_noDevice : GoodIn wsX4_battery (wsV RX4 124 RX4 yX4_noDevice wsX4_noDevice) := goodIn_app (goodIn_of _ (by decide +kernel)) ggX4_battery_X4_noDevice
set_option maxRecDepth 20000 in
theorem ggX4_begin_X4_isVersion : GoodIn wsX4_begin wsX4_isVersion := goodIn_r _ [12, 13, 14, 11, 15] (by decide +kernel) (by decide +kernel)
set_option maxRecDepth 20000 in
theorem gX4_begin_X4_isVersion : GoodIn wsX4_begin (va_wsS RX4 95 yX4_isVersion wsX4_isVersion) := goodIn_app (goodIn_of _ (by decide +kernel)) ggX4_begin_X4_isVersion
set_option maxRecDepth 20000 in
theorem ggX4_begin_X4_isCampaign : GoodIn wsX4_begin wsX4_isCampaign := goodIn_r _ [19, 1, 13, 14, 11, 15, 25, 26, 27, 28, 29, 30, 31, 32, 33, 34, 35, 36, 37, 38, 39, 40, 41, 42, 43, 44, 45, 46, 47, 48, 49, 50, 51] (by decide +kernel) (by decide +kernel)
set_option maxRecDepth 20000 in
theorem gX4_begin_X4_isCampaign : GoodIn wsX4_begin (wsV RX4 127 RX4 yX4_isCampaign wsX4_isCampaign) := goodIn_app (goodIn_of _ (by decide +kernel)) ggX4_begin_X4_isCampaign
set_option maxRecDepth 20000 in
theorem ggX4_begin_X4_in : GoodIn wsX4_begin wsX4_in := goodIn_r _ [15] (by decide +kernel) (by decide +kernel)
set_option maxRecDepth 20000 in
theorem gX4_begin_X4_in : GoodIn wsX4_begin (va_wsS RX4 84 yX4_in wsX4_in) := goodIn_app (goodIn_of _ (by decide +kernel)) ggX4_begin_X4_in
set_option maxRecDepth 20000 in
theorem ggX4_begin_X4_refused : GoodIn wsX4_begin wsX4_refused := goodIn_r _ [23, 24, 25, 26, 27, 28, 29, 30, 31, 32, 33, 34, 35, 36, 37, 38, 39, 40, 41, 42, 43, 44, 45, 46, 47, 48, 49, 50, 51] (by decide +kernel) (by decide +kernel)
set_option maxRecDepth 20000 in
theorem gX4_begin_X4_refused : GoodIn wsX4_begin (wsV RX4 99 RX4 yX4_refused wsX4_refused) := goodIn_app (goodIn_of _ (by decide +kernel)) ggX4_begin_X4_refused
set_option maxRecDepth 20000 in
theorem ggX4_setRules_X4_in : GoodIn wsX4_setRules wsX4_in := goodIn_r _ [7] (by decide +kernel) (by decide +kernel)
set_option maxRecDepth 20000 in
theorem gX4_setRules_X4_in : GoodIn wsX4_setRules (va_wsS RX4 84 yX4_in wsX4_in) := goodIn_app (goodIn_of _ (by decide +kernel)) ggX4_setRules_X4_in
set_option maxRecDepth 20000 in
theorem ggX4_setRules_X4_isCampaign : GoodIn wsX4_setRules wsX4_isCampaign := goodIn_r _ [11, 12, 4, 5, 6, 7, 18, 19, 20, 21, 22, 23, 24, 25, 26, 27, 28, 29, 30, 31, 32, 33, 34, 35, 36, 37, 38, 39, 40, 41, 42, 43, 44] (by decide +kernel) (by decide +kernel)
set_option maxRecDepth 20000 in
theorem gX4_setRules_X4_isCampaign : GoodIn wsX4_setRules (wsV RX4 127 RX4 yX4_isCampaign wsX4_isCampaign) := goodIn_app (goodIn_of _ (by decide +kernel)) ggX4_setRules_X4_isCampaign
set_option maxRecDepth 20000 in
theorem ggX4_setRules_X4_refused : GoodIn wsX4_setRules wsX4_refused := goodIn_r _ [16, 17, 18, 19, 20, 21, 22, 23, 24, 25, 26, 27, 28, 29, 30, 31, 32, 33, 34, 35, 36, 37, 38, 39, 40, 41, 42, 43, 44] (by decide +kernel) (by decide +kernel)
set_option maxRecDepth 20000 in
theorem gX4_setRules_X4_refused : GoodIn wsX4_setRules (wsV RX4 99 RX4 yX4_refused wsX4_refused) := goodIn_app (goodIn_of _ (by decide +kernel)) ggX4_setRules_X4_refused
set_option maxRecDepth 20000 in
theorem ggX4_noCampaign_X4_isCampaign : GoodIn wsX4_noCampaign wsX4_isCampaign := goodIn_r _ [5, 6, 7, 8, 4, 9, 15, 16, 17, 18, 19, 20, 21, 22, 23, 24, 25, 26, 27, 28, 29, 30, 31, 32, 33, 34, 35, 36, 37, 38, 39, 40, 41] (by decide +kernel) (by decide +kernel)
set_option maxRecDepth 20000 in
theorem gX4_noCampaign_X4_isCampaign : GoodIn wsX4_noCampaign (wsV RX4 127 RX4 yX4_isCampaign wsX4_isCampaign) := goodIn_app (goodIn_of _ (by decide +kernel)) ggX4_noCampaign_X4_isCampaign
set_option maxRecDepth 20000 in
theorem ggX4_noCampaign_X4_refused : GoodIn wsX4_noCampaign wsX4_refused := goodIn_r _ [13, 14, 15, 16, 17, 18, 19, 20, 21, 22, 23, 24, 25, 26, 27, 28, 29, 30, 31, 32, 33, 34, 35, 36, 37, 38, 39, 40, 41] (by decide +kernel) (by decide +kernel)
set_option maxRecDepth 20000 in
theorem gX4_noCampaign_X4_refused : GoodIn wsX4_noCampaign (wsV RX4 99 RX4 yX4_refused wsX4_refused) := goodIn_app (goodIn_of _ (by decide +kernel)) ggX4_noCampaign_X4_refused
set_option maxRecDepth 20000 in
theorem ggX4_toggle_X4_noCampaign : GoodIn wsX4_toggle wsX4_noCampaign := goodIn_r _ [8, 9, 10, 11, 7, 12, 13, 14, 15, 16, 17, 18, 19, 20, 21, 22, 23, 24, 25, 26, 27, 28, 29, 30, 31, 32, 33, 34, 35, 36, 37, 38, 39, 40, 41, 42, 43, 44, 45, 46, 47, 48] (by decide +kernel) (by decide +kernel)
set_option maxRecDepth 20000 in
theorem gX4_toggle_X4_noCampaign : GoodIn wsX4_toggle (wsV RX4 130 RX4 yX4_noCampaign wsX4_noCampaign) := goodIn_app (goodIn_of _ (by decide +kernel)) ggX4_toggle_X4_noCampaign
set_option maxRecDepth 20000 in
theorem ggX4_isActive_X4_noCampaign : GoodIn wsX4_isActive wsX4_noCampaign := goodIn_r _ [6, 7, 8, 9, 5, 10, 11, 12, 13, 14, 15, 16, 17, 18, 19, 20, 21, 22, 23, 24, 25, 26, 27, 28, 29, 30, 31, 32, 33, 34, 35, 36, 37, 38, 39, 40, 41, 42, 43, 44, 45, 46] (by decide +kernel) (by decide +kernel)
set_option maxRecDepth 20000 in
theorem gX4_isActive_X4_noCampaign : GoodIn wsX4_isActive (wsV RX4 130 RX4 yX4_noCampaign wsX4_noCampaign) := goodIn_app (goodIn_of _ (by decide +kernel)) ggX4_isActive_X4_noCampaign
set_option maxRecDepth 20000 in
theorem ggX4_ring_X4_noCampaign : GoodIn wsX4_ring wsX4_noCampaign := goodIn_r _ [6, 7, 8, 9, 5, 10, 11, 12, 13, 14, 15, 16, 17, 18, 19, 20, 21, 22, 23, 24, 25, 26, 27, 28, 29, 30, 31, 32, 33, 34, 35, 36, 37, 38, 39, 40, 41, 42, 43, 44, 45, 46] (by decide +kernel) (by decide +kernel)
set_option maxRecDepth 20000 in
theorem gX4_ring_X4_noCampaign : GoodIn wsX4_ring (wsV RX4 130 RX4 yX4_noCampaign wsX4_noCampaign) := goodIn_app (goodIn_of _ (by decide +kernel)) ggX4_ring_X4_noCampaign
set_option maxRecDepth 20000 in
theorem ggX4_reports_X4_noCampaign : GoodIn wsX4_reports wsX4_noCampaign := goodIn_r _ [6, 7, 8, 9, 5, 10, 11, 12, 13, 14, 15, 16, 17, 18, 19, 20, 21, 22, 23, 24, 25, 26, 27, 28, 29, 30, 31, 32, 33, 34, 35, 36, 37, 38, 39, 40, 41, 42, 43, 44, 45, 46] (by decide +kernel) (by decide +kernel)
set_option maxRecDepth 20000 in
theorem gX4_reports_X4_noCampaign : GoodIn wsX4_reports (wsV RX4 130 RX4 yX4_noCampaign wsX4_noCampaign) := goodIn_app (goodIn_of _ (by decide +kernel)) ggX4_reports_X4_noCampaign
set_option maxRecDepth 20000 in
theorem ggX4_mayTake_X4_sizeOf : GoodIn wsX4_mayTake wsX4_sizeOf := goodIn_r _ [16, 17, 18, 19, 20, 21, 22, 23, 24, 25, 26, 27, 28, 29, 30, 31, 32, 33, 34, 35, 36, 37, 38, 39, 40, 41, 42, 43, 44, 45, 46, 47] (by decide +kernel) (by decide +kernel)
set_option maxRecDepth 20000 in
theorem gX4_mayTake_X4_sizeOf : GoodIn wsX4_mayTake (wsV RX4 106 RX4 yX4_sizeOf wsX4_sizeOf) := goodIn_app (goodIn_of _ (by decide +kernel)) ggX4_mayTake_X4_sizeOf
set_option maxRecDepth 20000 in
theorem ggX4_eligible_X4_noCampaign : GoodIn wsX4_eligible wsX4_noCampaign := goodIn_r _ [6, 7, 8, 9, 5, 10, 11, 12, 13, 14, 15, 16, 17, 18, 19, 43, 44, 45, 46, 47, 48, 49, 50, 51, 52, 53, 54, 55, 56, 57, 58, 59, 60, 61, 62, 63, 64, 65, 66, 67, 68, 69] (by decide +kernel) (by decide +kernel)
set_option maxRecDepth 20000 in
theorem gX4_eligible_X4_noCampaign : GoodIn wsX4_eligible (wsV RX4 130 RX4 yX4_noCampaign wsX4_noCampaign) := goodIn_app (goodIn_of _ (by decide +kernel)) ggX4_eligible_X4_noCampaign
set_option maxRecDepth 20000 in
theorem ggX4_eligible_X4_mayTake : GoodIn wsX4_eligible wsX4_mayTake := goodIn_r _ [23, 24, 25, 26, 27, 28, 29, 30, 31, 32, 33, 34, 35, 36, 37, 5, 38, 39, 40, 41, 42, 43, 44, 45, 46, 47, 48, 49, 50, 51, 52, 53, 54, 55, 56, 57, 58, 59, 60, 61, 62, 63, 64, 65, 66, 67, 68, 69] (by decide +kernel) (by decide +kernel)
set_option maxRecDepth 20000 in
theorem gX4_eligible_X4_mayTake : GoodIn wsX4_eligible (wsV RX4 133 RX4 yX4_mayTake wsX4_mayTake) := goodIn_app (goodIn_of _ (by decide +kernel)) ggX4_eligible_X4_mayTake
set_option maxRecDepth 20000 in
theorem ggX4_take_X4_mayTake : GoodIn wsX4_take wsX4_mayTake := goodIn_r _ [11, 5, 12, 13, 14, 4, 15, 16, 17, 18, 6, 19, 20, 21, 22, 10, 23, 24, 25, 26, 27, 28, 29, 30, 31, 32, 33, 34, 35, 36, 37, 38, 39, 40, 41, 42, 43, 44, 45, 46, 47, 48, 49, 50, 51, 52, 53, 54] (by decide +kernel) (by decide +kernel)
set_option maxRecDepth 20000 in
theorem gX4_take_X4_mayTake : GoodIn wsX4_take (wsV RX4 133 RX4 yX4_mayTake wsX4_mayTake) := goodIn_app (goodIn_of _ (by decide +kernel)) ggX4_take_X4_mayTake
set_option maxRecDepth 20000 in
theorem ggX4_take_X4_sizeOf : GoodIn wsX4_take wsX4_sizeOf := goodIn_r _ [23, 24, 25, 26, 27, 28, 29, 30, 31, 32, 33, 34, 35, 36, 37, 38, 39, 40, 41, 42, 43, 44, 45, 46, 47, 48, 49, 50, 51, 52, 53, 54] (by decide +kernel) (by decide +kernel)
set_option maxRecDepth 20000 in
theorem gX4_take_X4_sizeOf : GoodIn wsX4_take (wsV RX4 106 RX4 yX4_sizeOf wsX4_sizeOf) := goodIn_app (goodIn_of _ (by decide +kernel)) ggX4_take_X4_sizeOf
set_option maxRecDepth 20000 in
theorem ggX4_isOpen_X4_in : GoodIn wsX4_isOpen wsX4_in := goodIn_r _ [7] (by decide +kernel) (by decide +kernel)
set_option maxRecDepth 20000 in
theorem gX4_isOpen_X4_in : GoodIn wsX4_isOpen (va_wsS RX4 84 yX4_in wsX4_in) := goodIn_app (goodIn_of _ (by decide +kernel)) ggX4_isOpen_X4_in
set_option maxRecDepth 20000 in
theorem ggX4_pass_X4_in : GoodIn wsX4_pass wsX4_in := goodIn_r _ [9] (by decide +kernel) (by decide +kernel)
set_option maxRecDepth 20000 in
theorem gX4_pass_X4_in : GoodIn wsX4_pass (va_wsS RX4 84 yX4_in wsX4_in) := goodIn_app (goodIn_of _ (by decide +kernel)) ggX4_pass_X4_in
set_option maxRecDepth 20000 in
theorem ggX4_pass_X4_refused : GoodIn wsX4_pass wsX4_refused := goodIn_r _ [13, 14, 49, 50, 51, 52, 53, 54, 55, 56, 57, 58, 59, 60, 61, 62, 63, 64, 65, 66, 67, 68, 69, 70, 71, 72, 73, 74, 75] (by decide +kernel) (by decide +kernel)
set_option maxRecDepth 20000 in
theorem gX4_pass_X4_refused : GoodIn wsX4_pass (wsV RX4 99 RX4 yX4_refused wsX4_refused) := goodIn_app (goodIn_of _ (by decide +kernel)) ggX4_pass_X4_refused
set_option maxRecDepth 20000 in
theorem ggX4_pass_X4_take : GoodIn wsX4_pass wsX4_take := goodIn_r _ [18, 19, 20, 4, 21, 22, 2, 23, 24, 25, 8, 26, 27, 28, 29, 30, 31, 32, 33, 34, 35, 36, 37, 38, 39, 40, 41, 42, 49, 50, 51, 52, 53, 54, 55, 56, 57, 58, 59, 60, 61, 62, 63, 64, 65, 66, 67, 68, 69, 70, 71, 72, 73, 74, 75] (by decide +kernel) (by decide +kernel)
set_option maxRecDepth 20000 in
theorem gX4_pass_X4_take : GoodIn wsX4_pass (wsV RX4 140 RX4 yX4_take wsX4_take) := goodIn_app (goodIn_of _ (by decide +kernel)) ggX4_pass_X4_take
set_option maxRecDepth 20000 in
theorem ggX4_pass_X4_isOpen : GoodIn wsX4_pass wsX4_isOpen := goodIn_r _ [46, 5, 47, 48, 6, 7, 8, 9, 49, 50, 51, 52, 53, 54, 55, 56, 57, 58, 59, 60, 61, 62, 63, 64, 65, 66, 67, 68, 69, 70, 71, 72, 73, 74, 75] (by decide +kernel) (by decide +kernel)
set_option maxRecDepth 20000 in
theorem gX4_pass_X4_isOpen : GoodIn wsX4_pass (wsV RX4 143 RX4 yX4_isOpen wsX4_isOpen) := goodIn_app (goodIn_of _ (by decide +kernel)) ggX4_pass_X4_isOpen
end
section
set_option maxRecDepth 20000 in
theorem ggL_allow_X3_allow : GoodIn wsL_allow wsX3_allow := goodIn_ca (goodIn_ca (goodIn_r _ [7, 8, 9, 10, 6, 11, 12, 13, 14, 15, 16, 17, 18, 19, 20, 21, 22, 23, 24, 25] (by decide +kernel) (by decide +kernel)) (goodIn_sub (fun _ h => List.mem_cons_of_mem _ (List.mem_append_left _ (List.mem_append_right _ h))) (by decide +kernel))) (goodIn_sub (fun _ h => List.mem_cons_of_mem _ (List.mem_append_right _ h)) (by decide +kernel))
set_option maxRecDepth 20000 in
theorem gL_allow_X3_allow : GoodIn wsL_allow (wsV RL 7 RX3 yX3_allow wsX3_allow) := goodIn_app (goodIn_of _ (by decide +kernel)) ggL_allow_X3_allow
set_option maxRecDepth 20000 in
theorem ggL_setImage_X3_setImage : GoodIn wsL_setImage wsX3_setImage := goodIn_ca (goodIn_ca (goodIn_r _ [7, 8, 9, 10, 6, 11, 12, 13, 14, 15, 16, 17, 18, 19, 20, 21, 22, 23, 24, 25, 26, 27, 28, 29, 30, 31, 32, 33, 34, 35, 36, 37, 38, 39, 40, 41, 42, 43, 44, 45, 46, 47, 48, 49, 50, 51, 52, 53, 54, 55, 56, 57, 58] (by decide +kernel) (by decide +kernel)) (goodIn_sub (fun _ h => List.mem_cons_of_mem _ (List.mem_append_left _ (List.mem_append_right _ h))) (by decide +kernel))) (goodIn_sub (fun _ h => List.mem_cons_of_mem _ (List.mem_append_right _ h)) (by decide +kernel))
set_option maxRecDepth 20000 in
theorem gL_setImage_X3_setImage : GoodIn wsL_setImage (wsV RL 17 RX3 yX3_setImage wsX3_setImage) := goodIn_app (goodIn_of _ (by decide +kernel)) ggL_setImage_X3_setImage
set_option maxRecDepth 20000 in
theorem ggL_setDelta_X3_setDelta : GoodIn wsL_setDelta wsX3_setDelta := goodIn_ca (goodIn_ca (goodIn_r _ [7, 8, 9, 10, 11, 12, 6, 13, 14, 15, 16, 17, 18, 19, 20, 21, 22, 23, 24, 25, 26, 27, 28, 29, 30, 31, 32, 33, 34, 35, 36, 37, 38, 39, 40, 41, 42, 43, 44, 45, 46, 47, 48, 49, 50, 51, 52, 53, 54, 55, 56, 57, 58] (by decide +kernel) (by decide +kernel)) (goodIn_sub (fun _ h => List.mem_cons_of_mem _ (List.mem_append_left _ (List.mem_append_right _ h))) (by decide +kernel))) (goodIn_sub (fun _ h => List.mem_cons_of_mem _ (List.mem_append_right _ h)) (by decide +kernel))
set_option maxRecDepth 20000 in
theorem gL_setDelta_X3_setDelta : GoodIn wsL_setDelta (wsV RL 20 RX3 yX3_setDelta wsX3_setDelta) := goodIn_app (goodIn_of _ (by decide +kernel)) ggL_setDelta_X3_setDelta
set_option maxRecDepth 20000 in
theorem ggL_size_X3_size : GoodIn wsL_size wsX3_size := goodIn_ca (goodIn_r _ [6, 7, 8, 9, 5, 10, 11, 12, 13, 14, 15, 16, 17, 18, 19, 20, 21, 22, 23, 24, 25, 26, 27, 28, 29, 30, 31, 32, 33, 34, 35, 36, 37, 38] (by decide +kernel) (by decide +kernel)) (goodIn_sub (fun _ h => List.mem_cons_of_mem _ (List.mem_append_right _ h)) (by decide +kernel))
set_option maxRecDepth 20000 in
theorem gL_size_X3_size : GoodIn wsL_size (wsV RL 24 RX3 yX3_size wsX3_size) := goodIn_app (goodIn_of _ (by decide +kernel)) ggL_size_X3_size
set_option maxRecDepth 20000 in
theorem ggL_sizeByWays_X3_sizeByWays : GoodIn wsL_sizeByWays wsX3_sizeByWays := goodIn_ca (goodIn_r _ [6, 7, 8, 9, 5, 10, 11, 12, 13, 14, 15, 16, 17, 18, 19, 20, 21, 22, 23, 24, 25, 26, 27, 28, 29, 30, 31, 32, 33, 34, 35, 36, 37, 38, 39, 40, 41, 42, 43] (by decide +kernel) (by decide +kernel)) (goodIn_sub (fun _ h => List.mem_cons_of_mem _ (List.mem_append_right _ h)) (by decide +kernel))
set_option maxRecDepth 20000 in
theorem gL_sizeByWays_X3_sizeByWays : GoodIn wsL_sizeByWays (wsV RL 27 RX3 yX3_sizeByWays wsX3_sizeByWays) := goodIn_app (goodIn_of _ (by decide +kernel)) ggL_sizeByWays_X3_sizeByWays
set_option maxRecDepth 20000 in
theorem ggL_addDevice_X3_addDevice : GoodIn wsL_addDevice wsX3_addDevice := goodIn_ca (goodIn_ca (goodIn_r _ [7, 8, 9, 10, 11, 12, 13, 14, 15, 16, 17, 18, 19, 6, 20, 21, 22, 23, 24, 25, 26, 27, 28, 29, 30, 31, 32, 33, 34, 35, 36, 37, 38, 39] (by decide +kernel) (by decide +kernel)) (goodIn_sub (fun _ h => List.mem_cons_of_mem _ (List.mem_append_left _ (List.mem_append_right _ h))) (by decide +kernel))) (goodIn_sub (fun _ h => List.mem_cons_of_mem _ (List.mem_append_right _ h)) (by decide +kernel))
set_option maxRecDepth 20000 in
theorem gL_addDevice_X3_addDevice : GoodIn wsL_addDevice (wsV RL 30 RX3 yX3_addDevice wsX3_addDevice) := goodIn_app (goodIn_of _ (by decide +kernel)) ggL_addDevice_X3_addDevice
set_option maxRecDepth 20000 in
theorem ggL_charge_X3_charge : GoodIn wsL_charge wsX3_charge := goodIn_ca (goodIn_ca (goodIn_r _ [7, 8, 9, 10, 11, 6, 12, 13, 14, 15, 16, 17, 18, 19, 20, 21, 22, 23, 24, 25, 26, 27, 28, 29, 30, 31, 32, 33, 34, 35, 36, 37] (by decide +kernel) (by decide +kernel)) (goodIn_sub (fun _ h => List.mem_cons_of_mem _ (List.mem_append_left _ (List.mem_append_right _ h))) (by decide +kernel))) (goodIn_sub (fun _ h => List.mem_cons_of_mem _ (List.mem_append_right _ h)) (by decide +kernel))
set_option maxRecDepth 20000 in
theorem gL_charge_X3_charge : GoodIn wsL_charge (wsV RL 35 RX3 yX3_charge wsX3_charge) := goodIn_app (goodIn_of _ (by decide +kernel)) ggL_charge_X3_charge
set_option maxRecDepth 20000 in
theorem ggL_setWindow_X3_setWindow : GoodIn wsL_setWindow wsX3_setWindow := goodIn_ca (goodIn_ca (goodIn_r _ [7, 8, 9, 10, 11, 12, 6, 13, 14, 15, 16, 17, 18, 19, 20, 21, 22, 23, 24, 25, 26, 27, 28, 29, 30, 31, 32, 33, 34, 35, 36, 37, 38] (by decide +kernel) (by decide +kernel)) (goodIn_sub (fun _ h => List.mem_cons_of_mem _ (List.mem_append_left _ (List.mem_append_right _ h))) (by decide +kernel))) (goodIn_sub (fun _ h => List.mem_cons_of_mem _ (List.mem_append_right _ h)) (by decide +kernel))
set_option maxRecDepth 20000 in
theorem gL_setWindow_X3_setWindow : GoodIn wsL_setWindow (wsV RL 38 RX3 yX3_setWindow wsX3_setWindow) := goodIn_app (goodIn_of _ (by decide +kernel)) ggL_setWindow_X3_setWindow
set_option maxRecDepth 20000 in
theorem ggL_report_X3_report : GoodIn wsL_report wsX3_report := goodIn_ca (goodIn_ca (goodIn_r _ [7, 8, 9, 10, 11, 12, 13, 14, 15, 16, 6, 17, 18, 19, 20, 21, 22, 23, 24, 25, 26, 27, 28, 29, 30, 31, 32, 33, 34, 35, 36, 37, 38, 39, 40, 41, 42, 43, 44, 45, 46, 47, 48, 49, 50, 51, 52, 53, 54, 55, 56, 57, 58, 59, 60, 61, 62, 63, 64, 65, 66, 67, 68, 69, 70, 71, 72, 73, 74, 75, 76, 77, 78, 79, 80, 81] (by decide +kernel) (by decide +kernel)) (goodIn_sub (fun _ h => List.mem_cons_of_mem _ (List.mem_append_left _ (List.mem_append_right _ h))) (by decide +kernel))) (goodIn_sub (fun _ h => List.mem_cons_of_mem _ (List.mem_append_right _ h)) (by decide +kernel))
set_option maxRecDepth 20000 in
theorem gL_report_X3_report : GoodIn wsL_report (wsV RL 42 RX3 yX3_report wsX3_report) := goodIn_app (goodIn_of _ (by decide +kernel)) ggL_report_X3_report
set_option maxRecDepth 20000 in
theorem ggL_state_X3_state : GoodIn wsL_state wsX3_state := goodIn_ca (goodIn_r _ [6, 7, 8, 9, 10, 5, 11, 12, 13, 14, 15, 16, 17, 18, 19, 20, 21, 22, 23, 24, 25, 26, 27, 28, 29, 30, 31] (by decide +kernel) (by decide +kernel)) (goodIn_sub (fun _ h => List.mem_cons_of_mem _ (List.mem_append_right _ h)) (by decide +kernel))
set_option maxRecDepth 20000 in
theorem gL_state_X3_state : GoodIn wsL_state (wsV RL 46 RX3 yX3_state wsX3_state) := goodIn_app (goodIn_of _ (by decide +kernel)) ggL_state_X3_state
set_option maxRecDepth 20000 in
theorem ggL_version_X3_version : GoodIn wsL_version wsX3_version := goodIn_ca (goodIn_r _ [6, 7, 8, 9, 10, 5, 11, 12, 13, 14, 15, 16, 17, 18, 19, 20, 21, 22, 23, 24, 25, 26, 27, 28, 29, 30, 31] (by decide +kernel) (by decide +kernel)) (goodIn_sub (fun _ h => List.mem_cons_of_mem _ (List.mem_append_right _ h)) (by decide +kernel))
set_option maxRecDepth 20000 in
theorem gL_version_X3_version : GoodIn wsL_version (wsV RL 50 RX3 yX3_version wsX3_version) := goodIn_app (goodIn_of _ (by decide +kernel)) ggL_version_X3_version
set_option maxRecDepth 20000 in
theorem ggL_campaignOf_X3_campaignOf : GoodIn wsL_campaignOf wsX3_campaignOf := goodIn_ca (goodIn_r _ [6, 7, 8, 9, 10, 5, 11, 12, 13, 14, 15, 16, 17, 18, 19, 20, 21, 22, 23, 24, 25, 26, 27, 28, 29, 30, 31] (by decide +kernel) (by decide +kernel)) (goodIn_sub (fun _ h => List.mem_cons_of_mem _ (List.mem_append_right _ h)) (by decide +kernel))
set_option maxRecDepth 20000 in
theorem gL_campaignOf_X3_campaignOf : GoodIn wsL_campaignOf (wsV RL 53 RX3 yX3_campaignOf wsX3_campaignOf) := goodIn_app (goodIn_of _ (by decide +kernel)) ggL_campaignOf_X3_campaignOf
set_option maxRecDepth 20000 in
theorem ggL_toGo_X3_toGo : GoodIn wsL_toGo wsX3_toGo := goodIn_ca (goodIn_r _ [6, 7, 8, 9, 10, 5, 11, 12, 13, 14, 15, 16, 17, 18, 19, 20, 21, 22, 23, 24, 25, 26, 27, 28, 29, 30, 31] (by decide +kernel) (by decide +kernel)) (goodIn_sub (fun _ h => List.mem_cons_of_mem _ (List.mem_append_right _ h)) (by decide +kernel))
set_option maxRecDepth 20000 in
theorem gL_toGo_X3_toGo : GoodIn wsL_toGo (wsV RL 56 RX3 yX3_toGo wsX3_toGo) := goodIn_app (goodIn_of _ (by decide +kernel)) ggL_toGo_X3_toGo
set_option maxRecDepth 20000 in
theorem ggL_battery_X3_battery : GoodIn wsL_battery wsX3_battery := goodIn_ca (goodIn_r _ [6, 7, 8, 9, 10, 5, 11, 12, 13, 14, 15, 16, 17, 18, 19, 20, 21, 22, 23, 24, 25, 26, 27, 28, 29, 30, 31] (by decide +kernel) (by decide +kernel)) (goodIn_sub (fun _ h => List.mem_cons_of_mem _ (List.mem_append_right _ h)) (by decide +kernel))
set_option maxRecDepth 20000 in
theorem gL_battery_X3_battery : GoodIn wsL_battery (wsV RL 59 RX3 yX3_battery wsX3_battery) := goodIn_app (goodIn_of _ (by decide +kernel)) ggL_battery_X3_battery
set_option maxRecDepth 20000 in
theorem ggL_begin_X3_begin : GoodIn wsL_begin wsX3_begin := goodIn_ca (goodIn_ca (goodIn_ca (goodIn_r _ [8, 9, 10, 11, 12, 13, 14, 15, 16, 17, 18, 19, 7, 20, 21, 22, 23, 24, 25, 26, 27, 28, 29, 30, 31, 32, 33, 34, 35, 36, 37, 38, 39, 40, 41, 42, 43, 44, 45, 46, 47, 48, 49, 50, 51, 52, 53, 54, 55] (by decide +kernel) (by decide +kernel)) (goodIn_sub (fun _ h => List.mem_cons_of_mem _ (List.mem_append_left _ (List.mem_append_left _ (List.mem_append_right _ h)))) (by decide +kernel))) (goodIn_sub (fun _ h => List.mem_cons_of_mem _ (List.mem_append_left _ (List.mem_append_right _ h))) (by decide +kernel))) (goodIn_sub (fun _ h => List.mem_cons_of_mem _ (List.mem_append_right _ h)) (by decide +kernel))
set_option maxRecDepth 20000 in
theorem gL_begin_X3_begin : GoodIn wsL_begin (wsV RL 62 RX3 yX3_begin wsX3_begin) := goodIn_app (goodIn_of _ (by decide +kernel)) ggL_begin_X3_begin
set_option maxRecDepth 20000 in
theorem ggL_setRules_X3_setRules : GoodIn wsL_setRules wsX3_setRules := goodIn_ca (goodIn_ca (goodIn_r _ [7, 8, 9, 10, 11, 12, 13, 14, 6, 15, 16, 17, 18, 19, 20, 21, 22, 23, 24, 25, 26, 27, 28, 29, 30, 31, 32, 33, 34, 35, 36, 37, 38, 39, 40, 41, 42, 43, 44, 45, 46, 47, 48] (by decide +kernel) (by decide +kernel)) (goodIn_sub (fun _ h => List.mem_cons_of_mem _ (List.mem_append_left _ (List.mem_append_right _ h))) (by decide +kernel))) (goodIn_sub (fun _ h => List.mem_cons_of_mem _ (List.mem_append_right _ h)) (by decide +kernel))
set_option maxRecDepth 20000 in
theorem gL_setRules_X3_setRules : GoodIn wsL_setRules (wsV RL 66 RX3 yX3_setRules wsX3_setRules) := goodIn_app (goodIn_of _ (by decide +kernel)) ggL_setRules_X3_setRules
set_option maxRecDepth 20000 in
theorem ggL_toggle_X3_toggle : GoodIn wsL_toggle wsX3_toggle := goodIn_ca (goodIn_r _ [6, 7, 8, 9, 10, 11, 5, 12, 13, 14, 15, 16, 17, 18, 19, 20, 21, 22, 23, 24, 25, 26, 27, 28, 29, 30, 31, 32, 33, 34, 35, 36, 37, 38, 39, 40, 41, 42, 43, 44, 45, 46, 47, 48] (by decide +kernel) (by decide +kernel)) (goodIn_sub (fun _ h => List.mem_cons_of_mem _ (List.mem_append_right _ h)) (by decide +kernel))
set_option maxRecDepth 20000 in
theorem gL_toggle_X3_toggle : GoodIn wsL_toggle (wsV RL 70 RX3 yX3_toggle wsX3_toggle) := goodIn_app (goodIn_of _ (by decide +kernel)) ggL_toggle_X3_toggle
set_option maxRecDepth 20000 in
theorem ggL_isActive_X3_isActive : GoodIn wsL_isActive wsX3_isActive := goodIn_ca (goodIn_r _ [6, 7, 8, 9, 10, 5, 11, 12, 13, 14, 15, 16, 17, 18, 19, 20, 21, 22, 23, 24, 25, 26, 27, 28, 29, 30, 31, 32, 33, 34, 35, 36, 37, 38, 39] (by decide +kernel) (by decide +kernel)) (goodIn_sub (fun _ h => List.mem_cons_of_mem _ (List.mem_append_right _ h)) (by decide +kernel))
set_option maxRecDepth 20000 in
theorem gL_isActive_X3_isActive : GoodIn wsL_isActive (wsV RL 74 RX3 yX3_isActive wsX3_isActive) := goodIn_app (goodIn_of _ (by decide +kernel)) ggL_isActive_X3_isActive
set_option maxRecDepth 20000 in
theorem ggL_ring_X3_ring : GoodIn wsL_ring wsX3_ring := goodIn_ca (goodIn_r _ [6, 7, 8, 9, 10, 5, 11, 12, 13, 14, 15, 16, 17, 18, 19, 20, 21, 22, 23, 24, 25, 26, 27, 28, 29, 30, 31, 32, 33, 34, 35, 36, 37, 38, 39] (by decide +kernel) (by decide +kernel)) (goodIn_sub (fun _ h => List.mem_cons_of_mem _ (List.mem_append_right _ h)) (by decide +kernel))
set_option maxRecDepth 20000 in
theorem gL_ring_X3_ring : GoodIn wsL_ring (wsV RL 77 RX3 yX3_ring wsX3_ring) := goodIn_app (goodIn_of _ (by decide +kernel)) ggL_ring_X3_ring
set_option maxRecDepth 20000 in
theorem ggL_reports_X3_reports : GoodIn wsL_reports wsX3_reports := goodIn_ca (goodIn_r _ [6, 7, 8, 9, 10, 5, 11, 12, 13, 14, 15, 16, 17, 18, 19, 20, 21, 22, 23, 24, 25, 26, 27, 28, 29, 30, 31, 32, 33, 34, 35, 36, 37, 38, 39] (by decide +kernel) (by decide +kernel)) (goodIn_sub (fun _ h => List.mem_cons_of_mem _ (List.mem_append_right _ h)) (by decide +kernel))
set_option maxRecDepth 20000 in
theorem gL_reports_X3_reports : GoodIn wsL_reports (wsV RL 80 RX3 yX3_reports wsX3_reports) := goodIn_app (goodIn_of _ (by decide +kernel)) ggL_reports_X3_reports
set_option maxRecDepth 20000 in
theorem ggL_eligible_X3_eligible : GoodIn wsL_eligible wsX3_eligible := goodIn_ca (goodIn_r _ [6, 7, 8, 9, 10, 11, 5, 12, 13, 14, 15, 16, 17, 18, 19, 20, 21, 22, 23, 24, 25, 26, 27, 28, 29, 30, 31, 32, 33, 34, 35, 36, 37, 38, 39, 40, 41, 42, 43, 44, 45, 46, 47, 48, 49, 50, 51, 52, 53, 54, 55, 56, 57, 58, 59, 60, 61, 62, 63, 64, 65, 66, 67, 68, 69, 70, 71, 72, 73, 74, 75, 76, 77, 78, 79, 80, 81, 82, 83, 84, 85, 86, 87, 88, 89, 90, 91, 92, 93, 94, 95, 96, 97, 98, 99, 100, 101, 102, 103, 104, 105, 106] (by decide +kernel) (by decide +kernel)) (goodIn_sub (fun _ h => List.mem_cons_of_mem _ (List.mem_append_right _ h)) (by decide +kernel))
set_option maxRecDepth 20000 in
theorem gL_eligible_X3_eligible : GoodIn wsL_eligible (wsV RL 83 RX3 yX3_eligible wsX3_eligible) := goodIn_app (goodIn_of _ (by decide +kernel)) ggL_eligible_X3_eligible
set_option maxRecDepth 20000 in
theorem ggL_pass_X3_pass : GoodIn wsL_pass wsX3_pass := goodIn_ca (goodIn_r _ [6, 7, 8, 5, 9, 10, 11, 12, 13, 14, 15, 16, 17, 18, 19, 20, 21, 22, 23, 24, 25, 26, 27, 28, 29, 30, 31, 32, 33, 34, 35, 36, 37, 38, 39, 40, 41, 42, 43, 44, 45, 46, 47, 48, 49, 50, 51, 52, 53, 54, 55, 56, 57, 58, 59, 60, 61, 62, 63, 64, 65, 66, 67, 68, 69, 70, 71, 72, 73, 74, 75, 76, 77, 78, 79, 80, 81, 82, 83, 84, 85, 86, 87, 88, 89, 90, 91, 92, 93, 94, 95, 96, 97, 98, 99, 100, 101, 102, 103, 104, 105, 106, 107, 108, 109, 110, 111, 112, 113, 114, 115, 116, 117, 118, 119, 120, 121, 122, 123, 124, 125, 126, 127, 128, 129, 130, 131, 132, 133, 134, 135, 136, 137] (by decide +kernel) (by decide +kernel)) (goodIn_sub (fun _ h => List.mem_cons_of_mem _ (List.mem_append_right _ h)) (by decide +kernel))
set_option maxRecDepth 20000 in
theorem gL_pass_X3_pass : GoodIn wsL_pass (wsV RL 86 RX3 yX3_pass wsX3_pass) := goodIn_app (goodIn_of _ (by decide +kernel)) ggL_pass_X3_pass
set_option maxRecDepth 20000 in
theorem ggL_law_X3_init : GoodIn wsL_law wsX3_init := goodIn_r _ [9, 10, 11, 12, 13, 14, 15, 16, 17, 18, 19, 20, 21, 22, 23, 24, 25, 26, 27, 28, 29, 30, 31, 32, 33, 34, 35, 36, 37, 38, 39, 40, 41, 42, 43, 44, 45, 46, 47, 48, 49, 50, 51, 52, 53, 54, 55, 56, 57, 58, 59, 60, 61, 62, 63, 64, 65, 66, 67, 68, 69, 70, 71, 72, 73, 74, 75, 76, 77, 78, 79, 80, 81, 82, 83, 84, 85, 86, 87, 88, 89, 569, 570, 571, 572, 573, 574, 575, 603, 604, 605, 606, 607, 608, 609, 610, 611, 612, 613, 614, 615, 616, 617, 618, 619, 620, 621, 622, 623, 624, 625, 626, 627, 628] (by decide +kernel) (by decide +kernel)
set_option maxRecDepth 20000 in
theorem gL_law_X3_init : GoodIn wsL_law (wsX3_init) := ggL_law_X3_init
set_option maxRecDepth 20000 in
theorem ggL_law_X4_init : GoodIn wsL_law wsX4_init := goodIn_r _ [92, 93, 11, 12, 13, 94, 95, 96, 97, 98, 99, 100, 101, 102, 103, 104, 105, 106, 107, 108, 109, 110, 111, 112, 113, 114, 115, 116, 117, 576, 577, 578, 579, 580, 581, 582, 583, 584, 585, 586, 587, 588, 589, 590, 591, 592, 593, 594, 595, 596, 597, 598, 599, 600, 601, 602] (by decide +kernel) (by decide +kernel)
set_option maxRecDepth 20000 in
theorem gL_law_X4_init : GoodIn wsL_law (wsX4_init) := ggL_law_X4_init
set_option maxRecDepth 20000 in
theorem ggL_law_L_allow : GoodIn wsL_law wsL_allow := goodIn_ca (goodIn_ca (goodIn_r _ [121, 122, 123, 124, 125, 126, 2, 127, 14, 128, 129, 130, 131, 132, 133, 134, 135, 136, 137, 569, 570, 571, 572, 573, 574, 575] (by decide +kernel) (by decide +kernel)) (goodIn_sub (fun _ h => List.mem_append_left _ (List.mem_append_left _ (List.mem_append_right _ h))) (by decide +kernel))) (goodIn_sub (fun _ h => List.mem_append_left _ (List.mem_append_right _ h)) (by decide +kernel))
set_option maxRecDepth 20000 in
theorem gL_law_L_allow : GoodIn wsL_law (va_wsS RL 93 yL_allow wsL_allow) := goodIn_app (goodIn_of _ (by decide +kernel)) ggL_law_L_allow
set_option maxRecDepth 20000 in
theorem ggL_law_X4_allow : GoodIn wsL_law wsX4_allow := goodIn_r _ [141, 94, 142, 143, 5, 144, 145, 146, 147, 148, 149, 150, 151, 152, 576, 577, 578, 579, 580, 581, 582, 583, 584, 585, 586, 587, 588, 589, 590, 591, 592, 593, 594, 595, 596, 597, 598, 599, 600, 601, 602] (by decide +kernel) (by decide +kernel)
set_option maxRecDepth 20000 in
theorem gL_law_X4_allow : GoodIn wsL_law (wsV RL 98 RX4 yX4_allow wsX4_allow) := goodIn_app (goodIn_of _ (by decide +kernel)) ggL_law_X4_allow
set_option maxRecDepth 20000 in
theorem ggL_law_X4_thrown : GoodIn wsL_law wsX4_thrown := goodIn_r _ [156, 152, 576, 577, 578, 579, 580, 581, 582, 583, 584, 585, 586, 587, 588, 589, 590, 591, 592, 593, 594, 595, 596, 597, 598, 599, 600, 601, 602] (by decide +kernel) (by decide +kernel)
set_option maxRecDepth 20000 in
theorem gL_law_X4_thrown : GoodIn wsL_law (wsV RL 99 RX4 yX4_thrown wsX4_thrown) := goodIn_app (goodIn_of _ (by decide +kernel)) ggL_law_X4_thrown
set_option maxRecDepth 20000 in
theorem ggL_law_L_setImage : GoodIn wsL_law wsL_setImage := goodIn_ca (goodIn_ca (goodIn_r _ [159, 122, 123, 160, 161, 162, 2, 163, 18, 128, 129, 130, 131, 132, 164, 165, 166, 167, 133, 134, 135, 136, 137, 168, 169, 170, 17, 171, 34, 43, 44, 45, 46, 37, 36, 38, 47, 48, 49, 50, 51, 52, 53, 54, 55, 56, 57, 58, 569, 570, 571, 572, 573, 574, 575, 603, 604, 605, 606] (by decide +kernel) (by decide +kernel)) (goodIn_sub (fun _ h => List.mem_append_left _ (List.mem_append_left _ (List.mem_append_right _ h))) (by decide +kernel))) (goodIn_sub (fun _ h => List.mem_append_left _ (List.mem_append_right _ h)) (by decide +kernel))
set_option maxRecDepth 20000 in
theorem gL_law_L_setImage : GoodIn wsL_law (va_wsS RL 103 yL_setImage wsL_setImage) := goodIn_app (goodIn_of _ (by decide +kernel)) ggL_law_L_setImage
set_option maxRecDepth 20000 in
theorem ggL_law_X4_setImage : GoodIn wsL_law wsX4_setImage := goodIn_r _ [175, 95, 142, 143, 5, 144, 145, 146, 147, 176, 177, 178, 179, 148, 149, 150, 151, 152, 576, 577, 578, 579, 580, 581, 582, 583, 584, 585, 586, 587, 588, 589, 590, 591, 592, 593, 594, 595, 596, 597, 598, 599, 600, 601, 602] (by decide +kernel) (by decide +kernel)
set_option maxRecDepth 20000 in
theorem gL_law_X4_setImage : GoodIn wsL_law (wsV RL 105 RX4 yX4_setImage wsX4_setImage) := goodIn_app (goodIn_of _ (by decide +kernel)) ggL_law_X4_setImage
set_option maxRecDepth 20000 in
theorem ggL_law_L_setDelta : GoodIn wsL_law wsL_setDelta := goodIn_ca (goodIn_ca (goodIn_r _ [182, 122, 123, 183, 184, 185, 2, 186, 136, 137, 18, 128, 129, 130, 131, 132, 164, 165, 166, 167, 133, 134, 135, 187, 188, 189, 17, 190, 36, 43, 44, 45, 46, 37, 38, 47, 34, 48, 49, 50, 51, 52, 53, 54, 55, 56, 57, 58, 569, 570, 571, 572, 573, 574, 575, 603, 604, 605, 606] (by decide +kernel) (by decide +kernel)) (goodIn_sub (fun _ h => List.mem_append_left _ (List.mem_append_right _ h)) (by decide +kernel))) (goodIn_sub (fun _ h => List.mem_append_left _ (List.mem_append_left _ (List.mem_append_right _ h))) (by decide +kernel))
set_option maxRecDepth 20000 in
theorem gL_law_L_setDelta : GoodIn wsL_law (va_wsS RL 106 yL_setDelta wsL_setDelta) := goodIn_app (goodIn_of _ (by decide +kernel)) ggL_law_L_setDelta
set_option maxRecDepth 20000 in
theorem ggL_law_X4_setDelta : GoodIn wsL_law wsX4_setDelta := goodIn_r _ [194, 96, 142, 143, 5, 144, 145, 146, 147, 176, 177, 178, 179, 148, 149, 150, 151, 152, 576, 577, 578, 579, 580, 581, 582, 583, 584, 585, 586, 587, 588, 589, 590, 591, 592, 593, 594, 595, 596, 597, 598, 599, 600, 601, 602] (by decide +kernel) (by decide +kernel)
set_option maxRecDepth 20000 in
theorem gL_law_X4_setDelta : GoodIn wsL_law (wsV RL 109 RX4 yX4_setDelta wsX4_setDelta) := goodIn_app (goodIn_of _ (by decide +kernel)) ggL_law_X4_setDelta
set_option maxRecDepth 20000 in
theorem ggL_law_L_size : GoodIn wsL_law wsL_size := goodIn_ca (goodIn_r _ [197, 122, 198, 199, 200, 2, 201, 18, 128, 129, 130, 131, 132, 202, 203, 204, 17, 205, 37, 38, 48, 49, 50, 51, 206, 207, 208, 47, 569, 570, 571, 572, 573, 574, 575, 603, 604, 605, 606] (by decide +kernel) (by decide +kernel)) (goodIn_sub (fun _ h => List.mem_append_left _ (List.mem_append_left _ (List.mem_append_right _ h))) (by decide +kernel))
set_option maxRecDepth 20000 in
theorem gL_law_L_size : GoodIn wsL_law (va_wsS RL 110 yL_size wsL_size) := goodIn_app (goodIn_of _ (by decide +kernel)) ggL_law_L_size
set_option maxRecDepth 20000 in
theorem ggL_law_X4_size : GoodIn wsL_law wsX4_size := goodIn_r _ [212, 142, 143, 5, 144, 145, 146, 147, 148, 149, 150, 151, 152, 213, 214, 215, 216, 97, 95, 217, 96, 576, 577, 578, 579, 580, 581, 582, 583, 584, 585, 586, 587, 588, 589, 590, 591, 592, 593, 594, 595, 596, 597, 598, 599, 600, 601, 602] (by decide +kernel) (by decide +kernel)
set_option maxRecDepth 20000 in
theorem gL_law_X4_size : GoodIn wsL_law (wsV RL 112 RX4 yX4_size wsX4_size) := goodIn_app (goodIn_of _ (by decide +kernel)) ggL_law_X4_size
set_option maxRecDepth 20000 in
theorem ggL_law_L_sizeByWays : GoodIn wsL_law wsL_sizeByWays := goodIn_ca (goodIn_r _ [220, 122, 221, 222, 223, 2, 224, 18, 128, 129, 130, 131, 132, 225, 226, 227, 17, 228, 36, 34, 48, 49, 50, 51, 229, 230, 231, 47, 232, 233, 206, 207, 208, 569, 570, 571, 572, 573, 574, 575, 603, 604, 605, 606] (by decide +kernel) (by decide +kernel)) (goodIn_sub (fun _ h => List.mem_append_left _ (List.mem_append_left _ (List.mem_append_right _ h))) (by decide +kernel))
set_option maxRecDepth 20000 in
theorem gL_law_L_sizeByWays : GoodIn wsL_law (va_wsS RL 113 yL_sizeByWays wsL_sizeByWays) := goodIn_app (goodIn_of _ (by decide +kernel)) ggL_law_L_sizeByWays
set_option maxRecDepth 20000 in
theorem ggL_law_X4_sizeByWays : GoodIn wsL_law wsX4_sizeByWays := goodIn_r _ [237, 238, 210, 211, 5, 212, 142, 143, 144, 145, 146, 147, 148, 149, 150, 151, 152, 213, 214, 215, 216, 97, 95, 217, 96, 576, 577, 578, 579, 580, 581, 582, 583, 584, 585, 586, 587, 588, 589, 590, 591, 592, 593, 594, 595, 596, 597, 598, 599, 600, 601, 602] (by decide +kernel) (by decide +kernel)
set_option maxRecDepth 20000 in
theorem gL_law_X4_sizeByWays : GoodIn wsL_law (wsV RL 115 RX4 yX4_sizeByWays wsX4_sizeByWays) := goodIn_app (goodIn_of _ (by decide +kernel)) ggL_law_X4_sizeByWays
set_option maxRecDepth 20000 in
theorem ggL_law_L_addDevice : GoodIn wsL_law wsL_addDevice := goodIn_ca (goodIn_ca (goodIn_r _ [241, 122, 242, 243, 244, 245, 2, 246, 131, 132, 247, 248, 23, 14, 20, 249, 250, 251, 128, 129, 130, 252, 232, 233, 569, 570, 571, 572, 573, 574, 575, 607, 608, 609, 610, 611, 612, 613, 614, 615] (by decide +kernel) (by decide +kernel)) (goodIn_sub (fun _ h => List.mem_append_left _ (List.mem_append_left _ (List.mem_append_right _ h))) (by decide +kernel))) (goodIn_sub (fun _ h => List.mem_append_right _ h) (by decide +kernel))
set_option maxRecDepth 20000 in
theorem gL_law_L_addDevice : GoodIn wsL_law (va_wsS RL 116 yL_addDevice wsL_addDevice) := goodIn_app (goodIn_of _ (by decide +kernel)) ggL_law_L_addDevice
set_option maxRecDepth 20000 in
theorem ggL_law_X4_addDevice : GoodIn wsL_law wsX4_addDevice := goodIn_r _ [256, 257, 94, 98, 99, 100, 101, 102, 104, 145, 146, 5, 147, 142, 143, 144, 148, 149, 150, 151, 152, 576, 577, 578, 579, 580, 581, 582, 583, 584, 585, 586, 587, 588, 589, 590, 591, 592, 593, 594, 595, 596, 597, 598, 599, 600, 601, 602] (by decide +kernel) (by decide +kernel)
set_option maxRecDepth 20000 in
theorem gL_law_X4_addDevice : GoodIn wsL_law (wsV RL 118 RX4 yX4_addDevice wsX4_addDevice) := goodIn_app (goodIn_of _ (by decide +kernel)) ggL_law_X4_addDevice
set_option maxRecDepth 20000 in
theorem ggL_law_L_charge : GoodIn wsL_law wsL_charge := goodIn_ca (goodIn_ca (goodIn_r _ [260, 122, 123, 261, 262, 263, 2, 264, 265, 266, 267, 268, 269, 131, 132, 23, 20, 133, 134, 135, 136, 137, 607, 608, 609, 610, 611, 612, 613, 614, 615, 569, 570, 571, 572, 573, 574, 575] (by decide +kernel) (by decide +kernel)) (goodIn_sub (fun _ h => List.mem_append_left _ (List.mem_append_left _ (List.mem_append_right _ h))) (by decide +kernel))) (goodIn_sub (fun _ h => List.mem_append_left _ (List.mem_append_right _ h)) (by decide +kernel))
set_option maxRecDepth 20000 in
theorem gL_law_L_charge : GoodIn wsL_law (va_wsS RL 119 yL_charge wsL_charge) := goodIn_app (goodIn_of _ (by decide +kernel)) ggL_law_L_charge
set_option maxRecDepth 20000 in
theorem ggL_law_X4_charge : GoodIn wsL_law wsX4_charge := goodIn_r _ [273, 100, 274, 275, 276, 5, 277, 257, 145, 146, 147, 148, 149, 150, 151, 152, 576, 577, 578, 579, 580, 581, 582, 583, 584, 585, 586, 587, 588, 589, 590, 591, 592, 593, 594, 595, 596, 597, 598, 599, 600, 601, 602] (by decide +kernel) (by decide +kernel)
set_option maxRecDepth 20000 in
theorem gL_law_X4_charge : GoodIn wsL_law (wsV RL 121 RX4 yX4_charge wsX4_charge) := goodIn_app (goodIn_of _ (by decide +kernel)) ggL_law_X4_charge
set_option maxRecDepth 20000 in
theorem ggL_law_L_setWindow : GoodIn wsL_law wsL_setWindow := goodIn_ca (goodIn_ca (goodIn_r _ [280, 122, 123, 281, 282, 283, 2, 284, 285, 286, 266, 267, 268, 269, 131, 132, 23, 20, 133, 134, 135, 136, 137, 607, 608, 609, 610, 611, 612, 613, 614, 615, 569, 570, 571, 572, 573, 574, 575] (by decide +kernel) (by decide +kernel)) (goodIn_sub (fun _ h => List.mem_append_left _ (List.mem_append_left _ (List.mem_append_right _ h))) (by decide +kernel))) (goodIn_sub (fun _ h => List.mem_append_left _ (List.mem_append_right _ h)) (by decide +kernel))
set_option maxRecDepth 20000 in
theorem gL_law_L_setWindow : GoodIn wsL_law (va_wsS RL 122 yL_setWindow wsL_setWindow) := goodIn_app (goodIn_of _ (by decide +kernel)) ggL_law_L_setWindow
set_option maxRecDepth 20000 in
theorem ggL_law_X4_setWindow : GoodIn wsL_law wsX4_setWindow := goodIn_r _ [290, 101, 102, 274, 275, 276, 5, 277, 257, 145, 146, 147, 148, 149, 150, 151, 152, 576, 577, 578, 579, 580, 581, 582, 583, 584, 585, 586, 587, 588, 589, 590, 591, 592, 593, 594, 595, 596, 597, 598, 599, 600, 601, 602] (by decide +kernel) (by decide +kernel)
set_option maxRecDepth 20000 in
theorem gL_law_X4_setWindow : GoodIn wsL_law (wsV RL 125 RX4 yX4_setWindow wsX4_setWindow) := goodIn_app (goodIn_of _ (by decide +kernel)) ggL_law_X4_setWindow
set_option maxRecDepth 20000 in
theorem ggL_law_L_report : GoodIn wsL_law wsL_report := goodIn_ca (goodIn_ca (goodIn_r _ [293, 122, 242, 294, 295, 296, 2, 297, 247, 248, 298, 299, 300, 250, 266, 267, 268, 269, 131, 132, 23, 20, 301, 302, 303, 304, 22, 305, 306, 307, 308, 24, 309, 310, 311, 29, 312, 88, 313, 86, 87, 314, 315, 316, 317, 84, 82, 83, 85, 318, 319, 320, 321, 607, 608, 609, 610, 611, 612, 613, 614, 615, 616, 617, 618, 619, 620, 621, 622, 623, 624, 625, 626, 627, 628, 569, 570, 571, 572, 573, 574, 575] (by decide +kernel) (by decide +kernel)) (goodIn_sub (fun _ h => List.mem_append_right _ h) (by decide +kernel))) (goodIn_sub (fun _ h => List.mem_append_left _ (List.mem_append_left _ (List.mem_append_right _ h))) (by decide +kernel))
set_option maxRecDepth 20000 in
theorem gL_law_L_report : GoodIn wsL_law (va_wsS RL 126 yL_report wsL_report) := goodIn_app (goodIn_of _ (by decide +kernel)) ggL_law_L_report
set_option maxRecDepth 20000 in
theorem ggL_law_X4_report : GoodIn wsL_law wsX4_report := goodIn_r _ [325, 103, 104, 99, 106, 117, 115, 116, 274, 275, 276, 5, 277, 257, 145, 146, 147, 148, 149, 150, 151, 152, 326, 327, 328, 329, 110, 113, 114, 111, 576, 577, 578, 579, 580, 581, 582, 583, 584, 585, 586, 587, 588, 589, 590, 591, 592, 593, 594, 595, 596, 597, 598, 599, 600, 601, 602] (by decide +kernel) (by decide +kernel)
set_option maxRecDepth 20000 in
theorem gL_law_X4_report : GoodIn wsL_law (wsV RL 129 RX4 yX4_report wsX4_report) := goodIn_app (goodIn_of _ (by decide +kernel)) ggL_law_X4_report
set_option maxRecDepth 20000 in
theorem ggL_law_X3_devices : GoodIn wsL_law wsX3_devices := goodIn_r _ [333, 23, 569, 570, 571, 572, 573, 574, 575] (by decide +kernel) (by decide +kernel)
set_option maxRecDepth 20000 in
theorem gL_law_X3_devices : GoodIn wsL_law (wsV RL 130 RX3 yX3_devices wsX3_devices) := goodIn_app (goodIn_of _ (by decide +kernel)) ggL_law_X3_devices
set_option maxRecDepth 20000 in
theorem ggL_law_X4_devices : GoodIn wsL_law wsX4_devices := goodIn_r _ [337, 257, 338, 339, 340, 5, 341, 152, 576, 577, 578, 579, 580, 581, 582, 583, 584, 585, 586, 587, 588, 589, 590, 591, 592, 593, 594, 595, 596, 597, 598, 599, 600, 601, 602] (by decide +kernel) (by decide +kernel)
set_option maxRecDepth 20000 in
theorem gL_law_X4_devices : GoodIn wsL_law (wsV RL 133 RX4 yX4_devices wsX4_devices) := goodIn_app (goodIn_of _ (by decide +kernel)) ggL_law_X4_devices
set_option maxRecDepth 20000 in
theorem ggL_law_L_state : GoodIn wsL_law wsL_state := goodIn_ca (goodIn_r _ [344, 122, 345, 346, 347, 2, 348, 298, 266, 267, 268, 269, 131, 132, 23, 20, 607, 608, 609, 610, 611, 612, 613, 614, 615, 569, 570, 571, 572, 573, 574, 575] (by decide +kernel) (by decide +kernel)) (goodIn_sub (fun _ h => List.mem_append_left _ (List.mem_append_left _ (List.mem_append_right _ h))) (by decide +kernel))
set_option maxRecDepth 20000 in
theorem gL_law_L_state : GoodIn wsL_law (va_wsS RL 134 yL_state wsL_state) := goodIn_app (goodIn_of _ (by decide +kernel)) ggL_law_L_state
set_option maxRecDepth 20000 in
theorem ggL_law_X4_state : GoodIn wsL_law wsX4_state := goodIn_r _ [352, 103, 353, 354, 355, 5, 356, 274, 275, 276, 277, 257, 145, 146, 147, 148, 149, 150, 151, 152, 576, 577, 578, 579, 580, 581, 582, 583, 584, 585, 586, 587, 588, 589, 590, 591, 592, 593, 594, 595, 596, 597, 598, 599, 600, 601, 602] (by decide +kernel) (by decide +kernel)
set_option maxRecDepth 20000 in
theorem gL_law_X4_state : GoodIn wsL_law (wsV RL 137 RX4 yX4_state wsX4_state) := goodIn_app (goodIn_of _ (by decide +kernel)) ggL_law_X4_state
set_option maxRecDepth 20000 in
theorem ggL_law_L_version : GoodIn wsL_law wsL_version := goodIn_ca (goodIn_r _ [359, 122, 360, 361, 362, 2, 363, 250, 266, 267, 268, 269, 131, 132, 23, 20, 607, 608, 609, 610, 611, 612, 613, 614, 615, 569, 570, 571, 572, 573, 574, 575] (by decide +kernel) (by decide +kernel)) (goodIn_sub (fun _ h => List.mem_append_left _ (List.mem_append_left _ (List.mem_append_right _ h))) (by decide +kernel))
set_option maxRecDepth 20000 in
theorem gL_law_L_version : GoodIn wsL_law (va_wsS RL 138 yL_version wsL_version) := goodIn_app (goodIn_of _ (by decide +kernel)) ggL_law_L_version
set_option maxRecDepth 20000 in
theorem ggL_law_X4_version : GoodIn wsL_law wsX4_version := goodIn_r _ [367, 99, 353, 354, 355, 5, 356, 274, 275, 276, 277, 257, 145, 146, 147, 148, 149, 150, 151, 152, 576, 577, 578, 579, 580, 581, 582, 583, 584, 585, 586, 587, 588, 589, 590, 591, 592, 593, 594, 595, 596, 597, 598, 599, 600, 601, 602] (by decide +kernel) (by decide +kernel)
set_option maxRecDepth 20000 in
theorem gL_law_X4_version : GoodIn wsL_law (wsV RL 140 RX4 yX4_version wsX4_version) := goodIn_app (goodIn_of _ (by decide +kernel)) ggL_law_X4_version
set_option maxRecDepth 20000 in
theorem ggL_law_L_campaignOf : GoodIn wsL_law wsL_campaignOf := goodIn_ca (goodIn_r _ [370, 122, 371, 372, 373, 2, 374, 299, 266, 267, 268, 269, 131, 132, 23, 20, 607, 608, 609, 610, 611, 612, 613, 614, 615, 569, 570, 571, 572, 573, 574, 575] (by decide +kernel) (by decide +kernel)) (goodIn_sub (fun _ h => List.mem_append_left _ (List.mem_append_left _ (List.mem_append_right _ h))) (by decide +kernel))
set_option maxRecDepth 20000 in
theorem gL_law_L_campaignOf : GoodIn wsL_law (va_wsS RL 141 yL_campaignOf wsL_campaignOf) := goodIn_app (goodIn_of _ (by decide +kernel)) ggL_law_L_campaignOf
set_option maxRecDepth 20000 in
theorem ggL_law_X4_campaignOf : GoodIn wsL_law wsX4_campaignOf := goodIn_r _ [378, 104, 353, 354, 355, 5, 356, 274, 275, 276, 277, 257, 145, 146, 147, 148, 149, 150, 151, 152, 576, 577, 578, 579, 580, 581, 582, 583, 584, 585, 586, 587, 588, 589, 590, 591, 592, 593, 594, 595, 596, 597, 598, 599, 600, 601, 602] (by decide +kernel) (by decide +kernel)
set_option maxRecDepth 20000 in
theorem gL_law_X4_campaignOf : GoodIn wsL_law (wsV RL 143 RX4 yX4_campaignOf wsX4_campaignOf) := goodIn_app (goodIn_of _ (by decide +kernel)) ggL_law_X4_campaignOf
set_option maxRecDepth 20000 in
theorem ggL_law_L_toGo : GoodIn wsL_law wsL_toGo := goodIn_ca (goodIn_r _ [381, 122, 382, 383, 384, 2, 385, 386, 266, 267, 268, 269, 131, 132, 23, 20, 607, 608, 609, 610, 611, 612, 613, 614, 615, 569, 570, 571, 572, 573, 574, 575] (by decide +kernel) (by decide +kernel)) (goodIn_sub (fun _ h => List.mem_append_left _ (List.mem_append_left _ (List.mem_append_right _ h))) (by decide +kernel))
set_option maxRecDepth 20000 in
theorem gL_law_L_toGo : GoodIn wsL_law (va_wsS RL 144 yL_toGo wsL_toGo) := goodIn_app (goodIn_of _ (by decide +kernel)) ggL_law_L_toGo
set_option maxRecDepth 20000 in
theorem ggL_law_X4_toGo : GoodIn wsL_law wsX4_toGo := goodIn_r _ [390, 105, 353, 354, 355, 5, 356, 274, 275, 276, 277, 257, 145, 146, 147, 148, 149, 150, 151, 152, 576, 577, 578, 579, 580, 581, 582, 583, 584, 585, 586, 587, 588, 589, 590, 591, 592, 593, 594, 595, 596, 597, 598, 599, 600, 601, 602] (by decide +kernel) (by decide +kernel)
set_option maxRecDepth 20000 in
theorem gL_law_X4_toGo : GoodIn wsL_law (wsV RL 146 RX4 yX4_toGo wsX4_toGo) := goodIn_app (goodIn_of _ (by decide +kernel)) ggL_law_X4_toGo
set_option maxRecDepth 20000 in
theorem ggL_law_L_battery : GoodIn wsL_law wsL_battery := goodIn_ca (goodIn_r _ [393, 122, 394, 395, 396, 2, 397, 265, 266, 267, 268, 269, 131, 132, 23, 20, 607, 608, 609, 610, 611, 612, 613, 614, 615, 569, 570, 571, 572, 573, 574, 575] (by decide +kernel) (by decide +kernel)) (goodIn_sub (fun _ h => List.mem_append_left _ (List.mem_append_left _ (List.mem_append_right _ h))) (by decide +kernel))
set_option maxRecDepth 20000 in
theorem gL_law_L_battery : GoodIn wsL_law (va_wsS RL 147 yL_battery wsL_battery) := goodIn_app (goodIn_of _ (by decide +kernel)) ggL_law_L_battery
set_option maxRecDepth 20000 in
theorem ggL_law_X4_battery : GoodIn wsL_law wsX4_battery := goodIn_r _ [401, 100, 353, 354, 355, 5, 356, 274, 275, 276, 277, 257, 145, 146, 147, 148, 149, 150, 151, 152, 576, 577, 578, 579, 580, 581, 582, 583, 584, 585, 586, 587, 588, 589, 590, 591, 592, 593, 594, 595, 596, 597, 598, 599, 600, 601, 602] (by decide +kernel) (by decide +kernel)
set_option maxRecDepth 20000 in
theorem gL_law_X4_battery : GoodIn wsL_law (wsV RL 149 RX4 yX4_battery wsX4_battery) := goodIn_app (goodIn_of _ (by decide +kernel)) ggL_law_X4_battery
set_option maxRecDepth 20000 in
theorem ggL_law_L_begin : GoodIn wsL_law wsL_begin := goodIn_ca (goodIn_ca (goodIn_ca (goodIn_r _ [404, 122, 123, 242, 405, 406, 407, 2, 408, 247, 248, 24, 409, 22, 300, 410, 411, 412, 128, 129, 130, 131, 132, 305, 306, 307, 308, 133, 134, 135, 136, 137, 301, 302, 303, 304, 569, 570, 571, 572, 573, 574, 575, 616, 617, 618, 619, 620, 621, 622, 623, 624, 625, 626, 627, 628] (by decide +kernel) (by decide +kernel)) (goodIn_sub (fun _ h => List.mem_append_right _ h) (by decide +kernel))) (goodIn_sub (fun _ h => List.mem_append_left _ (List.mem_append_left _ (List.mem_append_right _ h))) (by decide +kernel))) (goodIn_sub (fun _ h => List.mem_append_left _ (List.mem_append_right _ h)) (by decide +kernel))
set_option maxRecDepth 20000 in
theorem gL_law_L_begin : GoodIn wsL_law (va_wsS RL 150 yL_begin wsL_begin) := goodIn_app (goodIn_of _ (by decide +kernel)) ggL_law_L_begin
set_option maxRecDepth 20000 in
theorem ggL_law_X4_begin : GoodIn wsL_law wsX4_begin := goodIn_r _ [416, 417, 110, 106, 107, 108, 112, 113, 114, 142, 143, 5, 144, 145, 146, 147, 418, 419, 420, 421, 148, 149, 150, 151, 152, 576, 577, 578, 579, 580, 581, 582, 583, 584, 585, 586, 587, 588, 589, 590, 591, 592, 593, 594, 595, 596, 597, 598, 599, 600, 601, 602] (by decide +kernel) (by decide +kernel)
set_option maxRecDepth 20000 in
theorem gL_law_X4_begin : GoodIn wsL_law (wsV RL 153 RX4 yX4_begin wsX4_begin) := goodIn_app (goodIn_of _ (by decide +kernel)) ggL_law_X4_begin
set_option maxRecDepth 20000 in
theorem ggL_law_L_setRules : GoodIn wsL_law wsL_setRules := goodIn_ca (goodIn_ca (goodIn_r _ [424, 122, 123, 425, 426, 427, 2, 428, 429, 430, 431, 432, 301, 302, 303, 304, 22, 305, 306, 307, 308, 131, 132, 24, 133, 134, 135, 136, 137, 616, 617, 618, 619, 620, 621, 622, 623, 624, 625, 626, 627, 628, 569, 570, 571, 572, 573, 574, 575] (by decide +kernel) (by decide +kernel)) (goodIn_sub (fun _ h => List.mem_append_left _ (List.mem_append_left _ (List.mem_append_right _ h))) (by decide +kernel))) (goodIn_sub (fun _ h => List.mem_append_left _ (List.mem_append_right _ h)) (by decide +kernel))
set_option maxRecDepth 20000 in
theorem gL_law_L_setRules : GoodIn wsL_law (va_wsS RL 154 yL_setRules wsL_setRules) := goodIn_app (goodIn_of _ (by decide +kernel)) ggL_law_L_setRules
set_option maxRecDepth 20000 in
theorem ggL_law_X4_setRules : GoodIn wsL_law wsX4_setRules := goodIn_r _ [436, 112, 113, 114, 145, 146, 5, 147, 418, 419, 420, 421, 417, 148, 149, 150, 151, 152, 576, 577, 578, 579, 580, 581, 582, 583, 584, 585, 586, 587, 588, 589, 590, 591, 592, 593, 594, 595, 596, 597, 598, 599, 600, 601, 602] (by decide +kernel) (by decide +kernel)
set_option maxRecDepth 20000 in
theorem gL_law_X4_setRules : GoodIn wsL_law (wsV RL 157 RX4 yX4_setRules wsX4_setRules) := goodIn_app (goodIn_of _ (by decide +kernel)) ggL_law_X4_setRules
set_option maxRecDepth 20000 in
theorem ggL_law_L_toggle : GoodIn wsL_law wsL_toggle := goodIn_ca (goodIn_r _ [439, 122, 440, 441, 442, 2, 443, 409, 444, 301, 302, 303, 304, 22, 305, 306, 307, 308, 131, 132, 24, 445, 319, 320, 29, 321, 85, 86, 87, 616, 617, 618, 619, 620, 621, 622, 623, 624, 625, 626, 627, 628, 569, 570, 571, 572, 573, 574, 575] (by decide +kernel) (by decide +kernel)) (goodIn_sub (fun _ h => List.mem_append_left _ (List.mem_append_left _ (List.mem_append_right _ h))) (by decide +kernel))
set_option maxRecDepth 20000 in
theorem gL_law_L_toggle : GoodIn wsL_law (va_wsS RL 158 yL_toggle wsL_toggle) := goodIn_app (goodIn_of _ (by decide +kernel)) ggL_law_L_toggle
set_option maxRecDepth 20000 in
theorem ggL_law_X4_toggle : GoodIn wsL_law wsX4_toggle := goodIn_r _ [449, 110, 115, 116, 450, 451, 452, 5, 453, 418, 419, 420, 421, 417, 145, 146, 147, 148, 149, 150, 151, 152, 576, 577, 578, 579, 580, 581, 582, 583, 584, 585, 586, 587, 588, 589, 590, 591, 592, 593, 594, 595, 596, 597, 598, 599, 600, 601, 602] (by decide +kernel) (by decide +kernel)
set_option maxRecDepth 20000 in
theorem gL_law_X4_toggle : GoodIn wsL_law (wsV RL 160 RX4 yX4_toggle wsX4_toggle) := goodIn_app (goodIn_of _ (by decide +kernel)) ggL_law_X4_toggle
set_option maxRecDepth 20000 in
theorem ggL_law_L_isActive : GoodIn wsL_law wsL_isActive := goodIn_ca (goodIn_r _ [456, 122, 457, 458, 459, 2, 460, 409, 301, 302, 303, 304, 22, 305, 306, 307, 308, 131, 132, 24, 616, 617, 618, 619, 620, 621, 622, 623, 624, 625, 626, 627, 628, 569, 570, 571, 572, 573, 574, 575] (by decide +kernel) (by decide +kernel)) (goodIn_sub (fun _ h => List.mem_append_left _ (List.mem_append_left _ (List.mem_append_right _ h))) (by decide +kernel))
set_option maxRecDepth 20000 in
theorem gL_law_L_isActive : GoodIn wsL_law (va_wsS RL 161 yL_isActive wsL_isActive) := goodIn_app (goodIn_of _ (by decide +kernel)) ggL_law_L_isActive
set_option maxRecDepth 20000 in
theorem ggL_law_X4_isActive : GoodIn wsL_law wsX4_isActive := goodIn_r _ [464, 110, 450, 451, 452, 5, 453, 418, 419, 420, 421, 417, 145, 146, 147, 148, 149, 150, 151, 152, 576, 577, 578, 579, 580, 581, 582, 583, 584, 585, 586, 587, 588, 589, 590, 591, 592, 593, 594, 595, 596, 597, 598, 599, 600, 601, 602] (by decide +kernel) (by decide +kernel)
set_option maxRecDepth 20000 in
theorem gL_law_X4_isActive : GoodIn wsL_law (wsV RL 163 RX4 yX4_isActive wsX4_isActive) := goodIn_app (goodIn_of _ (by decide +kernel)) ggL_law_X4_isActive
set_option maxRecDepth 20000 in
theorem ggL_law_L_ring : GoodIn wsL_law wsL_ring := goodIn_ca (goodIn_r _ [467, 122, 468, 469, 470, 2, 471, 444, 301, 302, 303, 304, 22, 305, 306, 307, 308, 131, 132, 24, 616, 617, 618, 619, 620, 621, 622, 623, 624, 625, 626, 627, 628, 569, 570, 571, 572, 573, 574, 575] (by decide +kernel) (by decide +kernel)) (goodIn_sub (fun _ h => List.mem_append_left _ (List.mem_append_left _ (List.mem_append_right _ h))) (by decide +kernel))
set_option maxRecDepth 20000 in
theorem gL_law_L_ring : GoodIn wsL_law (va_wsS RL 164 yL_ring wsL_ring) := goodIn_app (goodIn_of _ (by decide +kernel)) ggL_law_L_ring
set_option maxRecDepth 20000 in
theorem ggL_law_X4_ring : GoodIn wsL_law wsX4_ring := goodIn_r _ [475, 111, 450, 451, 452, 5, 453, 418, 419, 420, 421, 417, 145, 146, 147, 148, 149, 150, 151, 152, 576, 577, 578, 579, 580, 581, 582, 583, 584, 585, 586, 587, 588, 589, 590, 591, 592, 593, 594, 595, 596, 597, 598, 599, 600, 601, 602] (by decide +kernel) (by decide +kernel)
set_option maxRecDepth 20000 in
theorem gL_law_X4_ring : GoodIn wsL_law (wsV RL 166 RX4 yX4_ring wsX4_ring) := goodIn_app (goodIn_of _ (by decide +kernel)) ggL_law_X4_ring
set_option maxRecDepth 20000 in
theorem ggL_law_L_reports : GoodIn wsL_law wsL_reports := goodIn_ca (goodIn_r _ [478, 122, 479, 480, 481, 2, 482, 483, 301, 302, 303, 304, 22, 305, 306, 307, 308, 131, 132, 24, 616, 617, 618, 619, 620, 621, 622, 623, 624, 625, 626, 627, 628, 569, 570, 571, 572, 573, 574, 575] (by decide +kernel) (by decide +kernel)) (goodIn_sub (fun _ h => List.mem_append_left _ (List.mem_append_left _ (List.mem_append_right _ h))) (by decide +kernel))
set_option maxRecDepth 20000 in
theorem gL_law_L_reports : GoodIn wsL_law (va_wsS RL 167 yL_reports wsL_reports) := goodIn_app (goodIn_of _ (by decide +kernel)) ggL_law_L_reports
set_option maxRecDepth 20000 in
theorem ggL_law_X4_reports : GoodIn wsL_law wsX4_reports := goodIn_r _ [487, 115, 450, 451, 452, 5, 453, 418, 419, 420, 421, 417, 145, 146, 147, 148, 149, 150, 151, 152, 576, 577, 578, 579, 580, 581, 582, 583, 584, 585, 586, 587, 588, 589, 590, 591, 592, 593, 594, 595, 596, 597, 598, 599, 600, 601, 602] (by decide +kernel) (by decide +kernel)
set_option maxRecDepth 20000 in
theorem gL_law_X4_reports : GoodIn wsL_law (wsV RL 169 RX4 yX4_reports wsX4_reports) := goodIn_app (goodIn_of _ (by decide +kernel)) ggL_law_X4_reports
set_option maxRecDepth 20000 in
theorem ggL_law_L_eligible : GoodIn wsL_law wsL_eligible := goodIn_ca (goodIn_r _ [490, 122, 491, 492, 493, 2, 494, 23, 20, 301, 302, 303, 304, 22, 305, 306, 307, 308, 131, 132, 24, 495, 496, 497, 498, 298, 14, 300, 249, 18, 250, 499, 500, 501, 29, 502, 84, 78, 503, 79, 504, 77, 88, 313, 232, 233, 505, 506, 507, 508, 89, 509, 510, 511, 512, 85, 80, 81, 252, 202, 203, 204, 17, 205, 37, 38, 48, 49, 50, 51, 206, 207, 208, 47, 569, 570, 571, 572, 573, 574, 575, 607, 608, 609, 610, 611, 612, 613, 614, 615, 616, 617, 618, 619, 620, 621, 622, 623, 624, 625, 626, 627, 628, 603, 604, 605, 606] (by decide +kernel) (by decide +kernel)) (goodIn_sub (fun _ h => List.mem_append_left _ (List.mem_append_left _ (List.mem_append_right _ h))) (by decide +kernel))
set_option maxRecDepth 20000 in
theorem gL_law_L_eligible : GoodIn wsL_law (va_wsS RL 170 yL_eligible wsL_eligible) := goodIn_app (goodIn_of _ (by decide +kernel)) ggL_law_L_eligible
set_option maxRecDepth 20000 in
theorem ggL_law_X4_eligible : GoodIn wsL_law wsX4_eligible := goodIn_r _ [516, 257, 450, 451, 452, 5, 453, 418, 419, 420, 421, 417, 145, 146, 147, 148, 149, 150, 151, 152, 517, 518, 519, 520, 106, 107, 98, 108, 99, 94, 112, 111, 117, 103, 110, 213, 214, 215, 216, 97, 95, 217, 96, 576, 577, 578, 579, 580, 581, 582, 583, 584, 585, 586, 587, 588, 589, 590, 591, 592, 593, 594, 595, 596, 597, 598, 599, 600, 601, 602] (by decide +kernel) (by decide +kernel)
set_option maxRecDepth 20000 in
theorem gL_law_X4_eligible : GoodIn wsL_law (wsV RL 172 RX4 yX4_eligible wsX4_eligible) := goodIn_app (goodIn_of _ (by decide +kernel)) ggL_law_X4_eligible
set_option maxRecDepth 20000 in
theorem ggL_law_L_pass : GoodIn wsL_law wsL_pass := goodIn_ca (goodIn_r _ [523, 123, 524, 525, 526, 2, 527, 133, 134, 135, 136, 137, 528, 529, 530, 531, 23, 20, 25, 298, 532, 533, 534, 535, 24, 22, 18, 250, 300, 495, 496, 497, 498, 14, 249, 499, 500, 501, 29, 502, 84, 78, 503, 79, 504, 77, 88, 313, 232, 233, 505, 506, 507, 508, 89, 509, 510, 511, 512, 85, 80, 81, 252, 202, 203, 204, 17, 205, 37, 38, 48, 49, 50, 51, 206, 207, 208, 47, 536, 537, 538, 27, 539, 69, 540, 70, 71, 541, 542, 543, 544, 66, 545, 546, 547, 548, 67, 68, 549, 550, 551, 552, 553, 554, 555, 569, 570, 571, 572, 573, 574, 575, 607, 608, 609, 610, 611, 612, 613, 614, 615, 616, 617, 618, 619, 620, 621, 622, 623, 624, 625, 626, 627, 628, 603, 604, 605, 606] (by decide +kernel) (by decide +kernel)) (goodIn_sub (fun _ h => List.mem_append_left _ (List.mem_append_right _ h)) (by decide +kernel))
set_option maxRecDepth 20000 in
theorem gL_law_L_pass : GoodIn wsL_law (va_wsS RL 173 yL_pass wsL_pass) := goodIn_app (goodIn_of _ (by decide +kernel)) ggL_law_L_pass
set_option maxRecDepth 20000 in
theorem ggL_law_X4_pass : GoodIn wsL_law wsX4_pass := goodIn_r _ [559, 257, 103, 100, 105, 560, 145, 146, 5, 147, 148, 149, 150, 151, 152, 561, 562, 563, 564, 417, 104, 99, 106, 517, 518, 519, 520, 107, 98, 108, 94, 112, 111, 117, 110, 213, 214, 215, 216, 97, 95, 217, 96, 565, 566, 567, 568, 101, 102, 576, 577, 578, 579, 580, 581, 582, 583, 584, 585, 586, 587, 588, 589, 590, 591, 592, 593, 594, 595, 596, 597, 598, 599, 600, 601, 602] (by decide +kernel) (by decide +kernel)
set_option maxRecDepth 20000 in
theorem gL_law_X4_pass : GoodIn wsL_law (wsV RL 175 RX4 yX4_pass wsX4_pass) := goodIn_app (goodIn_of _ (by decide +kernel)) ggL_law_X4_pass
end
section
theorem dX0_init_0 : decode cX0_init 0 = .ok (.aload_n 0, 1) := by decide +kernel
theorem dX0_init_1 : decode cX0_init 1 = .ok (.invokespecial 3, 3) := by decide +kernel
theorem dX0_init_4 : decode cX0_init 4 = .ok (.aload_n 0, 1) := by decide +kernel
theorem dX0_init_5 : decode cX0_init 5 = .ok (.iconst 0, 1) := by decide +kernel
theorem dX0_init_6 : decode cX0_init 6 = .ok (.putfield 9, 3) := by decide +kernel
theorem dX0_init_9 : decode cX0_init 9 = .ok (.aload_n 0, 1) := by decide +kernel
theorem dX0_init_10 : decode cX0_init 10 = .ok (.iconst 0, 1) := by decide +kernel
theorem dX0_init_11 : decode cX0_init 11 = .ok (.putfield 15, 3) := by decide +kernel
theorem dX0_init_14 : decode cX0_init 14 = .ok (.aload_n 0, 1) := by decide +kernel
theorem dX0_init_15 : decode cX0_init 15 = .ok (.iconst 0, 1) := by decide +kernel
theorem dX0_init_16 : decode cX0_init 16 = .ok (.putfield 18, 3) := by decide +kernel
theorem dX0_init_19 : decode cX0_init 19 = .ok (.aload_n 0, 1) := by decide +kernel
theorem dX0_init_20 : decode cX0_init 20 = .ok (.bipush 10, 2) := by decide +kernel
theorem dX0_init_22 : decode cX0_init 22 = .ok (.putfield 21, 3) := by decide +kernel
theorem dX0_init_25 : decode cX0_init 25 = .ok (.aload_n 0, 1) := by decide +kernel
theorem dX0_init_26 : decode cX0_init 26 = .ok (.bipush 50, 2) := by decide +kernel
theorem dX0_init_28 : decode cX0_init 28 = .ok (.putfield 24, 3) := by decide +kernel
theorem dX0_init_31 : decode cX0_init 31 = .ok (.aload_n 0, 1) := by decide +kernel
theorem dX0_init_32 : decode cX0_init 32 = .ok (.iconst 3, 1) := by decide +kernel
theorem dX0_init_33 : decode cX0_init 33 = .ok (.putfield 27, 3) := by decide +kernel
theorem dX0_init_36 : decode cX0_init 36 = .ok (.aload_n 0, 1) := by decide +kernel
theorem dX0_init_37 : decode cX0_init 37 = .ok (.sipush 200, 3) := by decide +kernel
theorem dX0_init_40 : decode cX0_init 40 = .ok (.putfield 30, 3) := by decide +kernel
theorem dX0_init_43 : decode cX0_init 43 = .ok (.aload_n 0, 1) := by decide +kernel
theorem dX0_init_44 : decode cX0_init 44 = .ok (.iconst 1, 1) := by decide +kernel
theorem dX0_init_45 : decode cX0_init 45 = .ok (.putfield 33, 3) := by decide +kernel
theorem dX0_init_48 : decode cX0_init 48 = .ok (.aload_n 0, 1) := by decide +kernel
theorem dX0_init_49 : decode cX0_init 49 = .ok (.iconst 0, 1) := by decide +kernel
theorem dX0_init_50 : decode cX0_init 50 = .ok (.putfield 37, 3) := by decide +kernel
theorem dX0_init_53 : decode cX0_init 53 = .ok (.aload_n 0, 1) := by decide +kernel
theorem dX0_init_54 : decode cX0_init 54 = .ok (.iconst 0, 1) := by decide +kernel
theorem dX0_init_55 : decode cX0_init 55 = .ok (.putfield 40, 3) := by decide +kernel
theorem dX0_init_58 : decode cX0_init 58 = .ok (.aload_n 0, 1) := by decide +kernel
theorem dX0_init_59 : decode cX0_init 59 = .ok (.iconst 0, 1) := by decide +kernel
theorem dX0_init_60 : decode cX0_init 60 = .ok (.putfield 43, 3) := by decide +kernel
theorem dX0_init_63 : decode cX0_init 63 = .ok (.aload_n 0, 1) := by decide +kernel
theorem dX0_init_64 : decode cX0_init 64 = .ok (.iconst 0, 1) := by decide +kernel
theorem dX0_init_65 : decode cX0_init 65 = .ok (.putfield 46, 3) := by decide +kernel
theorem dX0_init_68 : decode cX0_init 68 = .ok (.aload_n 0, 1) := by decide +kernel
theorem dX0_init_69 : decode cX0_init 69 = .ok (.iload_n 1, 1) := by decide +kernel
theorem dX0_init_70 : decode cX0_init 70 = .ok (.putfield 49, 3) := by decide +kernel
theorem dX0_init_73 : decode cX0_init 73 = .ok (.return_, 1) := by decide +kernel
theorem dX0_isFor_0 : decode cX0_isFor 0 = .ok (.aload_n 0, 1) := by decide +kernel
theorem dX0_isFor_1 : decode cX0_isFor 1 = .ok (.getfield 33, 3) := by decide +kernel
theorem dX0_isFor_4 : decode cX0_isFor 4 = .ok (.ifCond .eq 72, 3) := by decide +kernel
theorem dX0_isFor_7 : decode cX0_isFor 7 = .ok (.aload_n 0, 1) := by decide +kernel
theorem dX0_isFor_8 : decode cX0_isFor 8 = .ok (.getfield 15, 3) := by decide +kernel
theorem dX0_isFor_11 : decode cX0_isFor 11 = .ok (.aload_n 1, 1) := by decide +kernel
theorem dX0_isFor_12 : decode cX0_isFor 12 = .ok (.getfield 52, 3) := by decide +kernel
theorem dX0_isFor_15 : decode cX0_isFor 15 = .ok (.invokestatic 57, 3) := by decide +kernel
theorem dX0_isFor_18 : decode cX0_isFor 18 = .ok (.ifCond .eq 58, 3) := by decide +kernel
theorem dX0_isFor_21 : decode cX0_isFor 21 = .ok (.aload_n 0, 1) := by decide +kernel
theorem dX0_isFor_22 : decode cX0_isFor 22 = .ok (.getfield 18, 3) := by decide +kernel
theorem dX0_isFor_25 : decode cX0_isFor 25 = .ok (.aload_n 1, 1) := by decide +kernel
theorem dX0_isFor_26 : decode cX0_isFor 26 = .ok (.getfield 61, 3) := by decide +kernel
theorem dX0_isFor_29 : decode cX0_isFor 29 = .ok (.invokestatic 57, 3) := by decide +kernel
theorem dX0_isFor_32 : decode cX0_isFor 32 = .ok (.ifCond .eq 44, 3) := by decide +kernel
theorem dX0_isFor_35 : decode cX0_isFor 35 = .ok (.aload_n 1, 1) := by decide +kernel
theorem dX0_isFor_36 : decode cX0_isFor 36 = .ok (.getfield 61, 3) := by decide +kernel
theorem dX0_isFor_39 : decode cX0_isFor 39 = .ok (.aload_n 0, 1) := by decide +kernel
theorem dX0_isFor_40 : decode cX0_isFor 40 = .ok (.getfield 9, 3) := by decide +kernel
theorem dX0_isFor_43 : decode cX0_isFor 43 = .ok (.if_icmp .eq 33, 3) := by decide +kernel
theorem dX0_isFor_46 : decode cX0_isFor 46 = .ok (.aload_n 0, 1) := by decide +kernel
theorem dX0_isFor_47 : decode cX0_isFor 47 = .ok (.aload_n 1, 1) := by decide +kernel
theorem dX0_isFor_48 : decode cX0_isFor 48 = .ok (.invokevirtual 64, 3) := by decide +kernel
theorem dX0_isFor_51 : decode cX0_isFor 51 = .ok (.aload_n 0, 1) := by decide +kernel
theorem dX0_isFor_52 : decode cX0_isFor 52 = .ok (.invokevirtual 68, 3) := by decide +kernel
theorem dX0_isFor_55 : decode cX0_isFor 55 = .ok (.if_icmp .ge 21, 3) := by decide +kernel
theorem dX0_isFor_58 : decode cX0_isFor 58 = .ok (.aload_n 0, 1) := by decide +kernel
theorem dX0_isFor_59 : decode cX0_isFor 59 = .ok (.getfield 46, 3) := by decide +kernel
theorem dX0_isFor_62 : decode cX0_isFor 62 = .ok (.aload_n 1, 1) := by decide +kernel
theorem dX0_isFor_63 : decode cX0_isFor 63 = .ok (.getfield 72, 3) := by decide +kernel
theorem dX0_isFor_66 : decode cX0_isFor 66 = .ok (.invokestatic 57, 3) := by decide +kernel
theorem dX0_isFor_69 : decode cX0_isFor 69 = .ok (.ifCond .ne 7, 3) := by decide +kernel
theorem dX0_isFor_72 : decode cX0_isFor 72 = .ok (.iconst 1, 1) := by decide +kernel
theorem dX0_isFor_73 : decode cX0_isFor 73 = .ok (.goto 4, 3) := by decide +kernel
theorem dX0_isFor_76 : decode cX0_isFor 76 = .ok (.iconst 0, 1) := by decide +kernel
theorem dX0_isFor_77 : decode cX0_isFor 77 = .ok (.ireturn, 1) := by decide +kernel
theorem dX0_countReport_0 : decode cX0_countReport 0 = .ok (.aload_n 0, 1) := by decide +kernel
theorem dX0_countReport_1 : decode cX0_countReport 1 = .ok (.dup, 1) := by decide +kernel
theorem dX0_countReport_2 : decode cX0_countReport 2 = .ok (.getfield 46, 3) := by decide +kernel
theorem dX0_countReport_5 : decode cX0_countReport 5 = .ok (.iconst 1, 1) := by decide +kernel
theorem dX0_countReport_6 : decode cX0_countReport 6 = .ok (.aload_n 1, 1) := by decide +kernel
theorem dX0_countReport_7 : decode cX0_countReport 7 = .ok (.getfield 72, 3) := by decide +kernel
theorem dX0_countReport_10 : decode cX0_countReport 10 = .ok (.ishl, 1) := by decide +kernel
theorem dX0_countReport_11 : decode cX0_countReport 11 = .ok (.ior, 1) := by decide +kernel
theorem dX0_countReport_12 : decode cX0_countReport 12 = .ok (.putfield 46, 3) := by decide +kernel
theorem dX0_countReport_15 : decode cX0_countReport 15 = .ok (.aload_n 0, 1) := by decide +kernel
theorem dX0_countReport_16 : decode cX0_countReport 16 = .ok (.dup, 1) := by decide +kernel
theorem dX0_countReport_17 : decode cX0_countReport 17 = .ok (.getfield 40, 3) := by decide +kernel
theorem dX0_countReport_20 : decode cX0_countReport 20 = .ok (.iconst 1, 1) := by decide +kernel
theorem dX0_countReport_21 : decode cX0_countReport 21 = .ok (.iadd, 1) := by decide +kernel
theorem dX0_countReport_22 : decode cX0_countReport 22 = .ok (.putfield 40, 3) := by decide +kernel
theorem dX0_countReport_25 : decode cX0_countReport 25 = .ok (.iload_n 2, 1) := by decide +kernel
theorem dX0_countReport_26 : decode cX0_countReport 26 = .ok (.ifCond .ne 13, 3) := by decide +kernel
theorem dX0_countReport_29 : decode cX0_countReport 29 = .ok (.aload_n 0, 1) := by decide +kernel
theorem dX0_countReport_30 : decode cX0_countReport 30 = .ok (.dup, 1) := by decide +kernel
theorem dX0_countReport_31 : decode cX0_countReport 31 = .ok (.getfield 43, 3) := by decide +kernel
theorem dX0_countReport_34 : decode cX0_countReport 34 = .ok (.iconst 1, 1) := by decide +kernel
theorem dX0_countReport_35 : decode cX0_countReport 35 = .ok (.iadd, 1) := by decide +kernel
theorem dX0_countReport_36 : decode cX0_countReport 36 = .ok (.putfield 43, 3) := by decide +kernel
theorem dX0_countReport_39 : decode cX0_countReport 39 = .ok (.return_, 1) := by decide +kernel
theorem dX0_judgeRing_0 : decode cX0_judgeRing 0 = .ok (.aload_n 0, 1) := by decide +kernel
theorem dX0_judgeRing_1 : decode cX0_judgeRing 1 = .ok (.getfield 33, 3) := by decide +kernel
theorem dX0_judgeRing_4 : decode cX0_judgeRing 4 = .ok (.ifCond .eq 14, 3) := by decide +kernel
theorem dX0_judgeRing_7 : decode cX0_judgeRing 7 = .ok (.aload_n 0, 1) := by decide +kernel
theorem dX0_judgeRing_8 : decode cX0_judgeRing 8 = .ok (.getfield 40, 3) := by decide +kernel
theorem dX0_judgeRing_11 : decode cX0_judgeRing 11 = .ok (.aload_n 0, 1) := by decide +kernel
theorem dX0_judgeRing_12 : decode cX0_judgeRing 12 = .ok (.getfield 27, 3) := by decide +kernel
theorem dX0_judgeRing_15 : decode cX0_judgeRing 15 = .ok (.if_icmp .ge 4, 3) := by decide +kernel
theorem dX0_judgeRing_18 : decode cX0_judgeRing 18 = .ok (.return_, 1) := by decide +kernel
theorem dX0_judgeRing_19 : decode cX0_judgeRing 19 = .ok (.aload_n 0, 1) := by decide +kernel
theorem dX0_judgeRing_20 : decode cX0_judgeRing 20 = .ok (.getfield 43, 3) := by decide +kernel
theorem dX0_judgeRing_23 : decode cX0_judgeRing 23 = .ok (.sipush 1000, 3) := by decide +kernel
theorem dX0_judgeRing_26 : decode cX0_judgeRing 26 = .ok (.imul, 1) := by decide +kernel
theorem dX0_judgeRing_27 : decode cX0_judgeRing 27 = .ok (.aload_n 0, 1) := by decide +kernel
theorem dX0_judgeRing_28 : decode cX0_judgeRing 28 = .ok (.getfield 40, 3) := by decide +kernel
theorem dX0_judgeRing_31 : decode cX0_judgeRing 31 = .ok (.aload_n 0, 1) := by decide +kernel
theorem dX0_judgeRing_32 : decode cX0_judgeRing 32 = .ok (.getfield 30, 3) := by decide +kernel
theorem dX0_judgeRing_35 : decode cX0_judgeRing 35 = .ok (.imul, 1) := by decide +kernel
theorem dX0_judgeRing_36 : decode cX0_judgeRing 36 = .ok (.if_icmp .le 11, 3) := by decide +kernel
theorem dX0_judgeRing_39 : decode cX0_judgeRing 39 = .ok (.aload_n 0, 1) := by decide +kernel
theorem dX0_judgeRing_40 : decode cX0_judgeRing 40 = .ok (.iconst 0, 1) := by decide +kernel
theorem dX0_judgeRing_41 : decode cX0_judgeRing 41 = .ok (.putfield 33, 3) := by decide +kernel
theorem dX0_judgeRing_44 : decode cX0_judgeRing 44 = .ok (.goto 21, 3) := by decide +kernel
theorem dX0_judgeRing_47 : decode cX0_judgeRing 47 = .ok (.aload_n 0, 1) := by decide +kernel
theorem dX0_judgeRing_48 : decode cX0_judgeRing 48 = .ok (.getfield 37, 3) := by decide +kernel
theorem dX0_judgeRing_51 : decode cX0_judgeRing 51 = .ok (.iconst 2, 1) := by decide +kernel
theorem dX0_judgeRing_52 : decode cX0_judgeRing 52 = .ok (.if_icmp .eq 13, 3) := by decide +kernel
theorem dX0_judgeRing_55 : decode cX0_judgeRing 55 = .ok (.aload_n 0, 1) := by decide +kernel
theorem dX0_judgeRing_56 : decode cX0_judgeRing 56 = .ok (.aload_n 0, 1) := by decide +kernel
theorem dX0_judgeRing_57 : decode cX0_judgeRing 57 = .ok (.getfield 37, 3) := by decide +kernel
theorem dX0_judgeRing_60 : decode cX0_judgeRing 60 = .ok (.iconst 1, 1) := by decide +kernel
theorem dX0_judgeRing_61 : decode cX0_judgeRing 61 = .ok (.iadd, 1) := by decide +kernel
theorem dX0_judgeRing_62 : decode cX0_judgeRing 62 = .ok (.invokevirtual 73, 3) := by decide +kernel
theorem dX0_judgeRing_65 : decode cX0_judgeRing 65 = .ok (.return_, 1) := by decide +kernel
theorem dX0_beginRing_0 : decode cX0_beginRing 0 = .ok (.aload_n 0, 1) := by decide +kernel
theorem dX0_beginRing_1 : decode cX0_beginRing 1 = .ok (.iload_n 1, 1) := by decide +kernel
theorem dX0_beginRing_2 : decode cX0_beginRing 2 = .ok (.putfield 37, 3) := by decide +kernel
theorem dX0_beginRing_5 : decode cX0_beginRing 5 = .ok (.aload_n 0, 1) := by decide +kernel
theorem dX0_beginRing_6 : decode cX0_beginRing 6 = .ok (.iconst 0, 1) := by decide +kernel
theorem dX0_beginRing_7 : decode cX0_beginRing 7 = .ok (.putfield 40, 3) := by decide +kernel
theorem dX0_beginRing_10 : decode cX0_beginRing 10 = .ok (.aload_n 0, 1) := by decide +kernel
theorem dX0_beginRing_11 : decode cX0_beginRing 11 = .ok (.iconst 0, 1) := by decide +kernel
theorem dX0_beginRing_12 : decode cX0_beginRing 12 = .ok (.putfield 43, 3) := by decide +kernel
theorem dX0_beginRing_15 : decode cX0_beginRing 15 = .ok (.return_, 1) := by decide +kernel
theorem dX0_drawOf_0 : decode cX0_drawOf 0 = .ok (.aload_n 1, 1) := by decide +kernel
theorem dX0_drawOf_1 : decode cX0_drawOf 1 = .ok (.getfield 72, 3) := by decide +kernel
theorem dX0_drawOf_4 : decode cX0_drawOf 4 = .ok (.bipush 37, 2) := by decide +kernel
theorem dX0_drawOf_6 : decode cX0_drawOf 6 = .ok (.imul, 1) := by decide +kernel
theorem dX0_drawOf_7 : decode cX0_drawOf 7 = .ok (.aload_n 0, 1) := by decide +kernel
theorem dX0_drawOf_8 : decode cX0_drawOf 8 = .ok (.getfield 49, 3) := by decide +kernel
theorem dX0_drawOf_11 : decode cX0_drawOf 11 = .ok (.bipush 11, 2) := by decide +kernel
theorem dX0_drawOf_13 : decode cX0_drawOf 13 = .ok (.imul, 1) := by decide +kernel
theorem dX0_drawOf_14 : decode cX0_drawOf 14 = .ok (.iadd, 1) := by decide +kernel
theorem dX0_drawOf_15 : decode cX0_drawOf 15 = .ok (.bipush 13, 2) := by decide +kernel
theorem dX0_drawOf_17 : decode cX0_drawOf 17 = .ok (.iadd, 1) := by decide +kernel
theorem dX0_drawOf_18 : decode cX0_drawOf 18 = .ok (.bipush 100, 2) := by decide +kernel
theorem dX0_drawOf_20 : decode cX0_drawOf 20 = .ok (.irem, 1) := by decide +kernel
theorem dX0_drawOf_21 : decode cX0_drawOf 21 = .ok (.ireturn, 1) := by decide +kernel
theorem dX0_share_0 : decode cX0_share 0 = .ok (.aload_n 0, 1) := by decide +kernel
theorem dX0_share_1 : decode cX0_share 1 = .ok (.getfield 37, 3) := by decide +kernel
theorem dX0_share_4 : decode cX0_share 4 = .ok (.ifCond .ne 8, 3) := by decide +kernel
theorem dX0_share_7 : decode cX0_share 7 = .ok (.aload_n 0, 1) := by decide +kernel
theorem dX0_share_8 : decode cX0_share 8 = .ok (.getfield 21, 3) := by decide +kernel
theorem dX0_share_11 : decode cX0_share 11 = .ok (.ireturn, 1) := by decide +kernel
theorem dX0_share_12 : decode cX0_share 12 = .ok (.aload_n 0, 1) := by decide +kernel
theorem dX0_share_13 : decode cX0_share 13 = .ok (.getfield 37, 3) := by decide +kernel
theorem dX0_share_16 : decode cX0_share 16 = .ok (.iconst 1, 1) := by decide +kernel
theorem dX0_share_17 : decode cX0_share 17 = .ok (.if_icmp .ne 10, 3) := by decide +kernel
theorem dX0_share_20 : decode cX0_share 20 = .ok (.aload_n 0, 1) := by decide +kernel
theorem dX0_share_21 : decode cX0_share 21 = .ok (.getfield 24, 3) := by decide +kernel
theorem dX0_share_24 : decode cX0_share 24 = .ok (.goto 5, 3) := by decide +kernel
theorem dX0_share_27 : decode cX0_share 27 = .ok (.bipush 100, 2) := by decide +kernel
theorem dX0_share_29 : decode cX0_share 29 = .ok (.ireturn, 1) := by decide +kernel
theorem dX1_init_0 : decode cX1_init 0 = .ok (.aload_n 0, 1) := by decide +kernel
theorem dX1_init_1 : decode cX1_init 1 = .ok (.invokespecial 3, 3) := by decide +kernel
theorem dX1_init_4 : decode cX1_init 4 = .ok (.aload_n 0, 1) := by decide +kernel
theorem dX1_init_5 : decode cX1_init 5 = .ok (.iconst 0, 1) := by decide +kernel
theorem dX1_init_6 : decode cX1_init 6 = .ok (.putfield 9, 3) := by decide +kernel
theorem dX1_init_9 : decode cX1_init 9 = .ok (.aload_n 0, 1) := by decide +kernel
theorem dX1_init_10 : decode cX1_init 10 = .ok (.iconst 0, 1) := by decide +kernel
theorem dX1_init_11 : decode cX1_init 11 = .ok (.putfield 15, 3) := by decide +kernel
theorem dX1_init_14 : decode cX1_init 14 = .ok (.aload_n 0, 1) := by decide +kernel
theorem dX1_init_15 : decode cX1_init 15 = .ok (.bipush 100, 2) := by decide +kernel
theorem dX1_init_17 : decode cX1_init 17 = .ok (.putfield 18, 3) := by decide +kernel
theorem dX1_init_20 : decode cX1_init 20 = .ok (.aload_n 0, 1) := by decide +kernel
theorem dX1_init_21 : decode cX1_init 21 = .ok (.iconst 0, 1) := by decide +kernel
theorem dX1_init_22 : decode cX1_init 22 = .ok (.putfield 21, 3) := by decide +kernel
theorem dX1_init_25 : decode cX1_init 25 = .ok (.aload_n 0, 1) := by decide +kernel
theorem dX1_init_26 : decode cX1_init 26 = .ok (.bipush 23, 2) := by decide +kernel
theorem dX1_init_28 : decode cX1_init 28 = .ok (.putfield 24, 3) := by decide +kernel
theorem dX1_init_31 : decode cX1_init 31 = .ok (.aload_n 0, 1) := by decide +kernel
theorem dX1_init_32 : decode cX1_init 32 = .ok (.iconst 0, 1) := by decide +kernel
theorem dX1_init_33 : decode cX1_init 33 = .ok (.putfield 27, 3) := by decide +kernel
theorem dX1_init_36 : decode cX1_init 36 = .ok (.aload_n 0, 1) := by decide +kernel
theorem dX1_init_37 : decode cX1_init 37 = .ok (.iconst (-1), 1) := by decide +kernel
theorem dX1_init_38 : decode cX1_init 38 = .ok (.putfield 30, 3) := by decide +kernel
theorem dX1_init_41 : decode cX1_init 41 = .ok (.aload_n 0, 1) := by decide +kernel
theorem dX1_init_42 : decode cX1_init 42 = .ok (.iconst 0, 1) := by decide +kernel
theorem dX1_init_43 : decode cX1_init 43 = .ok (.putfield 33, 3) := by decide +kernel
theorem dX1_init_46 : decode cX1_init 46 = .ok (.aload_n 0, 1) := by decide +kernel
theorem dX1_init_47 : decode cX1_init 47 = .ok (.iload_n 1, 1) := by decide +kernel
theorem dX1_init_48 : decode cX1_init 48 = .ok (.putfield 36, 3) := by decide +kernel
theorem dX1_init_51 : decode cX1_init 51 = .ok (.return_, 1) := by decide +kernel
theorem dX1_take_0 : decode cX1_take 0 = .ok (.aload_n 0, 1) := by decide +kernel
theorem dX1_take_1 : decode cX1_take 1 = .ok (.iconst 1, 1) := by decide +kernel
theorem dX1_take_2 : decode cX1_take 2 = .ok (.putfield 27, 3) := by decide +kernel
theorem dX1_take_5 : decode cX1_take 5 = .ok (.aload_n 0, 1) := by decide +kernel
theorem dX1_take_6 : decode cX1_take 6 = .ok (.aload_n 1, 1) := by decide +kernel
theorem dX1_take_7 : decode cX1_take 7 = .ok (.getfield 39, 3) := by decide +kernel
theorem dX1_take_10 : decode cX1_take 10 = .ok (.putfield 30, 3) := by decide +kernel
theorem dX1_take_13 : decode cX1_take 13 = .ok (.aload_n 0, 1) := by decide +kernel
theorem dX1_take_14 : decode cX1_take 14 = .ok (.iload_n 2, 1) := by decide +kernel
theorem dX1_take_15 : decode cX1_take 15 = .ok (.putfield 33, 3) := by decide +kernel
theorem dX1_take_18 : decode cX1_take 18 = .ok (.return_, 1) := by decide +kernel
theorem dX1_canLoad_0 : decode cX1_canLoad 0 = .ok (.aload_n 0, 1) := by decide +kernel
theorem dX1_canLoad_1 : decode cX1_canLoad 1 = .ok (.getfield 27, 3) := by decide +kernel
theorem dX1_canLoad_4 : decode cX1_canLoad 4 = .ok (.iconst 1, 1) := by decide +kernel
theorem dX1_canLoad_5 : decode cX1_canLoad 5 = .ok (.if_icmp .ne 24, 3) := by decide +kernel
theorem dX1_canLoad_8 : decode cX1_canLoad 8 = .ok (.aload_n 0, 1) := by decide +kernel
theorem dX1_canLoad_9 : decode cX1_canLoad 9 = .ok (.iload_n 1, 1) := by decide +kernel
theorem dX1_canLoad_10 : decode cX1_canLoad 10 = .ok (.invokevirtual 42, 3) := by decide +kernel
theorem dX1_canLoad_13 : decode cX1_canLoad 13 = .ok (.ifCond .eq 16, 3) := by decide +kernel
theorem dX1_canLoad_16 : decode cX1_canLoad 16 = .ok (.aload_n 0, 1) := by decide +kernel
theorem dX1_canLoad_17 : decode cX1_canLoad 17 = .ok (.getfield 18, 3) := by decide +kernel
theorem dX1_canLoad_20 : decode cX1_canLoad 20 = .ok (.bipush 20, 2) := by decide +kernel
theorem dX1_canLoad_22 : decode cX1_canLoad 22 = .ok (.if_icmp .lt 7, 3) := by decide +kernel
theorem dX1_canLoad_25 : decode cX1_canLoad 25 = .ok (.iconst 1, 1) := by decide +kernel
theorem dX1_canLoad_26 : decode cX1_canLoad 26 = .ok (.goto 4, 3) := by decide +kernel
theorem dX1_canLoad_29 : decode cX1_canLoad 29 = .ok (.iconst 0, 1) := by decide +kernel
theorem dX1_canLoad_30 : decode cX1_canLoad 30 = .ok (.ireturn, 1) := by decide +kernel
theorem dX1_load_0 : decode cX1_load 0 = .ok (.aload_n 0, 1) := by decide +kernel
theorem dX1_load_1 : decode cX1_load 1 = .ok (.iconst 0, 1) := by decide +kernel
theorem dX1_load_2 : decode cX1_load 2 = .ok (.aload_n 0, 1) := by decide +kernel
theorem dX1_load_3 : decode cX1_load 3 = .ok (.getfield 33, 3) := by decide +kernel
theorem dX1_load_6 : decode cX1_load 6 = .ok (.bipush 100, 2) := by decide +kernel
theorem dX1_load_8 : decode cX1_load 8 = .ok (.isub, 1) := by decide +kernel
theorem dX1_load_9 : decode cX1_load 9 = .ok (.invokestatic 46, 3) := by decide +kernel
theorem dX1_load_12 : decode cX1_load 12 = .ok (.putfield 33, 3) := by decide +kernel
theorem dX1_load_15 : decode cX1_load 15 = .ok (.aload_n 0, 1) := by decide +kernel
theorem dX1_load_16 : decode cX1_load 16 = .ok (.dup, 1) := by decide +kernel
theorem dX1_load_17 : decode cX1_load 17 = .ok (.getfield 18, 3) := by decide +kernel
theorem dX1_load_20 : decode cX1_load 20 = .ok (.iconst 1, 1) := by decide +kernel
theorem dX1_load_21 : decode cX1_load 21 = .ok (.isub, 1) := by decide +kernel
theorem dX1_load_22 : decode cX1_load 22 = .ok (.putfield 18, 3) := by decide +kernel
theorem dX1_load_25 : decode cX1_load 25 = .ok (.aload_n 0, 1) := by decide +kernel
theorem dX1_load_26 : decode cX1_load 26 = .ok (.getfield 33, 3) := by decide +kernel
theorem dX1_load_29 : decode cX1_load 29 = .ok (.ifCond .ne 8, 3) := by decide +kernel
theorem dX1_load_32 : decode cX1_load 32 = .ok (.aload_n 0, 1) := by decide +kernel
theorem dX1_load_33 : decode cX1_load 33 = .ok (.iconst 2, 1) := by decide +kernel
theorem dX1_load_34 : decode cX1_load 34 = .ok (.putfield 27, 3) := by decide +kernel
theorem dX1_load_37 : decode cX1_load 37 = .ok (.return_, 1) := by decide +kernel
theorem dX1_isInWindow_0 : decode cX1_isInWindow 0 = .ok (.aload_n 0, 1) := by decide +kernel
theorem dX1_isInWindow_1 : decode cX1_isInWindow 1 = .ok (.getfield 21, 3) := by decide +kernel
theorem dX1_isInWindow_4 : decode cX1_isInWindow 4 = .ok (.aload_n 0, 1) := by decide +kernel
theorem dX1_isInWindow_5 : decode cX1_isInWindow 5 = .ok (.getfield 24, 3) := by decide +kernel
theorem dX1_isInWindow_8 : decode cX1_isInWindow 8 = .ok (.if_icmp .gt 25, 3) := by decide +kernel
theorem dX1_isInWindow_11 : decode cX1_isInWindow 11 = .ok (.aload_n 0, 1) := by decide +kernel
theorem dX1_isInWindow_12 : decode cX1_isInWindow 12 = .ok (.getfield 21, 3) := by decide +kernel
theorem dX1_isInWindow_15 : decode cX1_isInWindow 15 = .ok (.iload_n 1, 1) := by decide +kernel
theorem dX1_isInWindow_16 : decode cX1_isInWindow 16 = .ok (.if_icmp .gt 15, 3) := by decide +kernel
theorem dX1_isInWindow_19 : decode cX1_isInWindow 19 = .ok (.iload_n 1, 1) := by decide +kernel
theorem dX1_isInWindow_20 : decode cX1_isInWindow 20 = .ok (.aload_n 0, 1) := by decide +kernel
theorem dX1_isInWindow_21 : decode cX1_isInWindow 21 = .ok (.getfield 24, 3) := by decide +kernel
theorem dX1_isInWindow_24 : decode cX1_isInWindow 24 = .ok (.if_icmp .gt 7, 3) := by decide +kernel
theorem dX1_isInWindow_27 : decode cX1_isInWindow 27 = .ok (.iconst 1, 1) := by decide +kernel
theorem dX1_isInWindow_28 : decode cX1_isInWindow 28 = .ok (.goto 4, 3) := by decide +kernel
theorem dX1_isInWindow_31 : decode cX1_isInWindow 31 = .ok (.iconst 0, 1) := by decide +kernel
theorem dX1_isInWindow_32 : decode cX1_isInWindow 32 = .ok (.ireturn, 1) := by decide +kernel
theorem dX1_isInWindow_33 : decode cX1_isInWindow 33 = .ok (.aload_n 0, 1) := by decide +kernel
theorem dX1_isInWindow_34 : decode cX1_isInWindow 34 = .ok (.getfield 21, 3) := by decide +kernel
theorem dX1_isInWindow_37 : decode cX1_isInWindow 37 = .ok (.iload_n 1, 1) := by decide +kernel
theorem dX1_isInWindow_38 : decode cX1_isInWindow 38 = .ok (.if_icmp .le 11, 3) := by decide +kernel
theorem dX1_isInWindow_41 : decode cX1_isInWindow 41 = .ok (.iload_n 1, 1) := by decide +kernel
theorem dX1_isInWindow_42 : decode cX1_isInWindow 42 = .ok (.aload_n 0, 1) := by decide +kernel
theorem dX1_isInWindow_43 : decode cX1_isInWindow 43 = .ok (.getfield 24, 3) := by decide +kernel
theorem dX1_isInWindow_46 : decode cX1_isInWindow 46 = .ok (.if_icmp .gt 7, 3) := by decide +kernel
theorem dX1_isInWindow_49 : decode cX1_isInWindow 49 = .ok (.iconst 1, 1) := by decide +kernel
theorem dX1_isInWindow_50 : decode cX1_isInWindow 50 = .ok (.goto 4, 3) := by decide +kernel
theorem dX1_isInWindow_53 : decode cX1_isInWindow 53 = .ok (.iconst 0, 1) := by decide +kernel
theorem dX1_isInWindow_54 : decode cX1_isInWindow 54 = .ok (.ireturn, 1) := by decide +kernel
theorem dX2_init_0 : decode cX2_init 0 = .ok (.aload_n 0, 1) := by decide +kernel
theorem dX2_init_1 : decode cX2_init 1 = .ok (.invokespecial 3, 3) := by decide +kernel
theorem dX2_init_4 : decode cX2_init 4 = .ok (.aload_n 0, 1) := by decide +kernel
theorem dX2_init_5 : decode cX2_init 5 = .ok (.bipush 8, 2) := by decide +kernel
theorem dX2_init_7 : decode cX2_init 7 = .ok (.newarray .int, 2) := by decide +kernel
theorem dX2_init_9 : decode cX2_init 9 = .ok (.putfield 9, 3) := by decide +kernel
theorem dX2_init_12 : decode cX2_init 12 = .ok (.aload_n 0, 1) := by decide +kernel
theorem dX2_init_13 : decode cX2_init 13 = .ok (.bipush 8, 2) := by decide +kernel
theorem dX2_init_15 : decode cX2_init 15 = .ok (.bipush 8, 2) := by decide +kernel
theorem dX2_init_17 : decode cX2_init 17 = .ok (.multianewarray 15 2, 4) := by decide +kernel
theorem dX2_init_21 : decode cX2_init 21 = .ok (.putfield 17, 3) := by decide +kernel
theorem dX2_init_24 : decode cX2_init 24 = .ok (.aload_n 0, 1) := by decide +kernel
theorem dX2_init_25 : decode cX2_init 25 = .ok (.bipush 8, 2) := by decide +kernel
theorem dX2_init_27 : decode cX2_init 27 = .ok (.bipush 8, 2) := by decide +kernel
theorem dX2_init_29 : decode cX2_init 29 = .ok (.multianewarray 15 2, 4) := by decide +kernel
theorem dX2_init_33 : decode cX2_init 33 = .ok (.putfield 20, 3) := by decide +kernel
theorem dX2_init_36 : decode cX2_init 36 = .ok (.aload_n 0, 1) := by decide +kernel
theorem dX2_init_37 : decode cX2_init 37 = .ok (.bipush 8, 2) := by decide +kernel
theorem dX2_init_39 : decode cX2_init 39 = .ok (.newarray .int, 2) := by decide +kernel
theorem dX2_init_41 : decode cX2_init 41 = .ok (.putfield 23, 3) := by decide +kernel
theorem dX2_init_44 : decode cX2_init 44 = .ok (.aload_n 0, 1) := by decide +kernel
theorem dX2_init_45 : decode cX2_init 45 = .ok (.getfield 9, 3) := by decide +kernel
theorem dX2_init_48 : decode cX2_init 48 = .ok (.iconst (-1), 1) := by decide +kernel
theorem dX2_init_49 : decode cX2_init 49 = .ok (.invokestatic 26, 3) := by decide +kernel
theorem dX2_init_52 : decode cX2_init 52 = .ok (.iconst 0, 1) := by decide +kernel
theorem dX2_init_53 : decode cX2_init 53 = .ok (.istore_n 1, 1) := by decide +kernel
theorem dX2_init_54 : decode cX2_init 54 = .ok (.iload_n 1, 1) := by decide +kernel
theorem dX2_init_55 : decode cX2_init 55 = .ok (.bipush 8, 2) := by decide +kernel
theorem dX2_init_57 : decode cX2_init 57 = .ok (.if_icmp .ge 19, 3) := by decide +kernel
theorem dX2_init_60 : decode cX2_init 60 = .ok (.aload_n 0, 1) := by decide +kernel
theorem dX2_init_61 : decode cX2_init 61 = .ok (.getfield 17, 3) := by decide +kernel
theorem dX2_init_64 : decode cX2_init 64 = .ok (.iload_n 1, 1) := by decide +kernel
theorem dX2_init_65 : decode cX2_init 65 = .ok (.aaload, 1) := by decide +kernel
theorem dX2_init_66 : decode cX2_init 66 = .ok (.iconst (-1), 1) := by decide +kernel
theorem dX2_init_67 : decode cX2_init 67 = .ok (.invokestatic 26, 3) := by decide +kernel
theorem dX2_init_70 : decode cX2_init 70 = .ok (.iinc 1 1, 3) := by decide +kernel
theorem dX2_init_73 : decode cX2_init 73 = .ok (.goto (-19), 3) := by decide +kernel
theorem dX2_init_76 : decode cX2_init 76 = .ok (.aload_n 0, 1) := by decide +kernel
theorem dX2_init_77 : decode cX2_init 77 = .ok (.invokevirtual 32, 3) := by decide +kernel
theorem dX2_init_80 : decode cX2_init 80 = .ok (.return_, 1) := by decide +kernel
theorem dX2_changeImage_0 : decode cX2_changeImage 0 = .ok (.aload_n 0, 1) := by decide +kernel
theorem dX2_changeImage_1 : decode cX2_changeImage 1 = .ok (.getfield 9, 3) := by decide +kernel
theorem dX2_changeImage_4 : decode cX2_changeImage 4 = .ok (.iload_n 1, 1) := by decide +kernel
theorem dX2_changeImage_5 : decode cX2_changeImage 5 = .ok (.iaload, 1) := by decide +kernel
theorem dX2_changeImage_6 : decode cX2_changeImage 6 = .ok (.istore_n 3, 1) := by decide +kernel
theorem dX2_changeImage_7 : decode cX2_changeImage 7 = .ok (.aload_n 0, 1) := by decide +kernel
theorem dX2_changeImage_8 : decode cX2_changeImage 8 = .ok (.getfield 9, 3) := by decide +kernel
theorem dX2_changeImage_11 : decode cX2_changeImage 11 = .ok (.iload_n 1, 1) := by decide +kernel
theorem dX2_changeImage_12 : decode cX2_changeImage 12 = .ok (.iload_n 2, 1) := by decide +kernel
theorem dX2_changeImage_13 : decode cX2_changeImage 13 = .ok (.iastore, 1) := by decide +kernel
theorem dX2_changeImage_14 : decode cX2_changeImage 14 = .ok (.aload_n 0, 1) := by decide +kernel
theorem dX2_changeImage_15 : decode cX2_changeImage 15 = .ok (.invokevirtual 32, 3) := by decide +kernel
theorem dX2_changeImage_18 : decode cX2_changeImage 18 = .ok (.iload_n 3, 1) := by decide +kernel
theorem dX2_changeImage_19 : decode cX2_changeImage 19 = .ok (.ireturn, 1) := by decide +kernel
theorem dX2_changeDelta_0 : decode cX2_changeDelta 0 = .ok (.aload_n 0, 1) := by decide +kernel
theorem dX2_changeDelta_1 : decode cX2_changeDelta 1 = .ok (.getfield 17, 3) := by decide +kernel
theorem dX2_changeDelta_4 : decode cX2_changeDelta 4 = .ok (.iload_n 1, 1) := by decide +kernel
theorem dX2_changeDelta_5 : decode cX2_changeDelta 5 = .ok (.aaload, 1) := by decide +kernel
theorem dX2_changeDelta_6 : decode cX2_changeDelta 6 = .ok (.iload_n 2, 1) := by decide +kernel
theorem dX2_changeDelta_7 : decode cX2_changeDelta 7 = .ok (.iaload, 1) := by decide +kernel
theorem dX2_changeDelta_8 : decode cX2_changeDelta 8 = .ok (.istore 4, 2) := by decide +kernel
theorem dX2_changeDelta_10 : decode cX2_changeDelta 10 = .ok (.aload_n 0, 1) := by decide +kernel
theorem dX2_changeDelta_11 : decode cX2_changeDelta 11 = .ok (.getfield 17, 3) := by decide +kernel
theorem dX2_changeDelta_14 : decode cX2_changeDelta 14 = .ok (.iload_n 1, 1) := by decide +kernel
theorem dX2_changeDelta_15 : decode cX2_changeDelta 15 = .ok (.aaload, 1) := by decide +kernel
theorem dX2_changeDelta_16 : decode cX2_changeDelta 16 = .ok (.iload_n 2, 1) := by decide +kernel
theorem dX2_changeDelta_17 : decode cX2_changeDelta 17 = .ok (.iload_n 3, 1) := by decide +kernel
theorem dX2_changeDelta_18 : decode cX2_changeDelta 18 = .ok (.iastore, 1) := by decide +kernel
theorem dX2_changeDelta_19 : decode cX2_changeDelta 19 = .ok (.aload_n 0, 1) := by decide +kernel
theorem dX2_changeDelta_20 : decode cX2_changeDelta 20 = .ok (.invokevirtual 32, 3) := by decide +kernel
theorem dX2_changeDelta_23 : decode cX2_changeDelta 23 = .ok (.iload 4, 2) := by decide +kernel
theorem dX2_changeDelta_25 : decode cX2_changeDelta 25 = .ok (.ireturn, 1) := by decide +kernel
theorem dX2_leastBytes_0 : decode cX2_leastBytes 0 = .ok (.iload_n 1, 1) := by decide +kernel
theorem dX2_leastBytes_1 : decode cX2_leastBytes 1 = .ok (.iload_n 2, 1) := by decide +kernel
theorem dX2_leastBytes_2 : decode cX2_leastBytes 2 = .ok (.if_icmp .ne 5, 3) := by decide +kernel
theorem dX2_leastBytes_5 : decode cX2_leastBytes 5 = .ok (.iconst 0, 1) := by decide +kernel
theorem dX2_leastBytes_6 : decode cX2_leastBytes 6 = .ok (.ireturn, 1) := by decide +kernel
theorem dX2_leastBytes_7 : decode cX2_leastBytes 7 = .ok (.aload_n 0, 1) := by decide +kernel
theorem dX2_leastBytes_8 : decode cX2_leastBytes 8 = .ok (.getfield 20, 3) := by decide +kernel
theorem dX2_leastBytes_11 : decode cX2_leastBytes 11 = .ok (.iload_n 1, 1) := by decide +kernel
theorem dX2_leastBytes_12 : decode cX2_leastBytes 12 = .ok (.aaload, 1) := by decide +kernel
theorem dX2_leastBytes_13 : decode cX2_leastBytes 13 = .ok (.iload_n 2, 1) := by decide +kernel
theorem dX2_leastBytes_14 : decode cX2_leastBytes 14 = .ok (.iaload, 1) := by decide +kernel
theorem dX2_leastBytes_15 : decode cX2_leastBytes 15 = .ok (.aload_n 0, 1) := by decide +kernel
theorem dX2_leastBytes_16 : decode cX2_leastBytes 16 = .ok (.getfield 23, 3) := by decide +kernel
theorem dX2_leastBytes_19 : decode cX2_leastBytes 19 = .ok (.iload_n 2, 1) := by decide +kernel
theorem dX2_leastBytes_20 : decode cX2_leastBytes 20 = .ok (.iaload, 1) := by decide +kernel
theorem dX2_leastBytes_21 : decode cX2_leastBytes 21 = .ok (.invokestatic 35, 3) := by decide +kernel
theorem dX2_leastBytes_24 : decode cX2_leastBytes 24 = .ok (.invokestatic 41, 3) := by decide +kernel
theorem dX2_leastBytes_27 : decode cX2_leastBytes 27 = .ok (.ireturn, 1) := by decide +kernel
theorem dX2_leastBytesOfAllWays_0 : decode cX2_leastBytesOfAllWays 0 = .ok (.iload_n 1, 1) := by decide +kernel
theorem dX2_leastBytesOfAllWays_1 : decode cX2_leastBytesOfAllWays 1 = .ok (.iload_n 2, 1) := by decide +kernel
theorem dX2_leastBytesOfAllWays_2 : decode cX2_leastBytesOfAllWays 2 = .ok (.if_icmp .ne 5, 3) := by decide +kernel
theorem dX2_leastBytesOfAllWays_5 : decode cX2_leastBytesOfAllWays 5 = .ok (.iconst 0, 1) := by decide +kernel
theorem dX2_leastBytesOfAllWays_6 : decode cX2_leastBytesOfAllWays 6 = .ok (.ireturn, 1) := by decide +kernel
theorem dX2_leastBytesOfAllWays_7 : decode cX2_leastBytesOfAllWays 7 = .ok (.aload_n 0, 1) := by decide +kernel
theorem dX2_leastBytesOfAllWays_8 : decode cX2_leastBytesOfAllWays 8 = .ok (.getfield 17, 3) := by decide +kernel
theorem dX2_leastBytesOfAllWays_11 : decode cX2_leastBytesOfAllWays 11 = .ok (.iload_n 1, 1) := by decide +kernel
theorem dX2_leastBytesOfAllWays_12 : decode cX2_leastBytesOfAllWays 12 = .ok (.iload_n 2, 1) := by decide +kernel
theorem dX2_leastBytesOfAllWays_13 : decode cX2_leastBytesOfAllWays 13 = .ok (.iconst 1, 1) := by decide +kernel
theorem dX2_leastBytesOfAllWays_14 : decode cX2_leastBytesOfAllWays 14 = .ok (.iload_n 1, 1) := by decide +kernel
theorem dX2_leastBytesOfAllWays_15 : decode cX2_leastBytesOfAllWays 15 = .ok (.ishl, 1) := by decide +kernel
theorem dX2_leastBytesOfAllWays_16 : decode cX2_leastBytesOfAllWays 16 = .ok (.iconst 0, 1) := by decide +kernel
theorem dX2_leastBytesOfAllWays_17 : decode cX2_leastBytesOfAllWays 17 = .ok (.invokestatic 45, 3) := by decide +kernel
theorem dX2_leastBytesOfAllWays_20 : decode cX2_leastBytesOfAllWays 20 = .ok (.istore_n 3, 1) := by decide +kernel
theorem dX2_leastBytesOfAllWays_21 : decode cX2_leastBytesOfAllWays 21 = .ok (.iconst 0, 1) := by decide +kernel
theorem dX2_leastBytesOfAllWays_22 : decode cX2_leastBytesOfAllWays 22 = .ok (.istore 4, 2) := by decide +kernel
theorem dX2_leastBytesOfAllWays_24 : decode cX2_leastBytesOfAllWays 24 = .ok (.iload 4, 2) := by decide +kernel
theorem dX2_leastBytesOfAllWays_26 : decode cX2_leastBytesOfAllWays 26 = .ok (.bipush 8, 2) := by decide +kernel
theorem dX2_leastBytesOfAllWays_28 : decode cX2_leastBytesOfAllWays 28 = .ok (.if_icmp .ge 48, 3) := by decide +kernel
theorem dX2_leastBytesOfAllWays_31 : decode cX2_leastBytesOfAllWays 31 = .ok (.aload_n 0, 1) := by decide +kernel
theorem dX2_leastBytesOfAllWays_32 : decode cX2_leastBytesOfAllWays 32 = .ok (.getfield 9, 3) := by decide +kernel
theorem dX2_leastBytesOfAllWays_35 : decode cX2_leastBytesOfAllWays 35 = .ok (.iload 4, 2) := by decide +kernel
theorem dX2_leastBytesOfAllWays_37 : decode cX2_leastBytesOfAllWays 37 = .ok (.iaload, 1) := by decide +kernel
theorem dX2_leastBytesOfAllWays_38 : decode cX2_leastBytesOfAllWays 38 = .ok (.iconst (-1), 1) := by decide +kernel
theorem dX2_leastBytesOfAllWays_39 : decode cX2_leastBytesOfAllWays 39 = .ok (.if_icmp .eq 31, 3) := by decide +kernel
theorem dX2_leastBytesOfAllWays_42 : decode cX2_leastBytesOfAllWays 42 = .ok (.iload_n 3, 1) := by decide +kernel
theorem dX2_leastBytesOfAllWays_43 : decode cX2_leastBytesOfAllWays 43 = .ok (.aload_n 0, 1) := by decide +kernel
theorem dX2_leastBytesOfAllWays_44 : decode cX2_leastBytesOfAllWays 44 = .ok (.getfield 9, 3) := by decide +kernel
theorem dX2_leastBytesOfAllWays_47 : decode cX2_leastBytesOfAllWays 47 = .ok (.iload 4, 2) := by decide +kernel
theorem dX2_leastBytesOfAllWays_49 : decode cX2_leastBytesOfAllWays 49 = .ok (.iaload, 1) := by decide +kernel
theorem dX2_leastBytesOfAllWays_50 : decode cX2_leastBytesOfAllWays 50 = .ok (.aload_n 0, 1) := by decide +kernel
theorem dX2_leastBytesOfAllWays_51 : decode cX2_leastBytesOfAllWays 51 = .ok (.getfield 17, 3) := by decide +kernel
theorem dX2_leastBytesOfAllWays_54 : decode cX2_leastBytesOfAllWays 54 = .ok (.iload 4, 2) := by decide +kernel
theorem dX2_leastBytesOfAllWays_56 : decode cX2_leastBytesOfAllWays 56 = .ok (.iload_n 2, 1) := by decide +kernel
theorem dX2_leastBytesOfAllWays_57 : decode cX2_leastBytesOfAllWays 57 = .ok (.iconst 1, 1) := by decide +kernel
theorem dX2_leastBytesOfAllWays_58 : decode cX2_leastBytesOfAllWays 58 = .ok (.iload 4, 2) := by decide +kernel
theorem dX2_leastBytesOfAllWays_60 : decode cX2_leastBytesOfAllWays 60 = .ok (.ishl, 1) := by decide +kernel
theorem dX2_leastBytesOfAllWays_61 : decode cX2_leastBytesOfAllWays 61 = .ok (.iconst 0, 1) := by decide +kernel
theorem dX2_leastBytesOfAllWays_62 : decode cX2_leastBytesOfAllWays 62 = .ok (.invokestatic 45, 3) := by decide +kernel
theorem dX2_leastBytesOfAllWays_65 : decode cX2_leastBytesOfAllWays 65 = .ok (.iadd, 1) := by decide +kernel
theorem dX2_leastBytesOfAllWays_66 : decode cX2_leastBytesOfAllWays 66 = .ok (.invokestatic 35, 3) := by decide +kernel
theorem dX2_leastBytesOfAllWays_69 : decode cX2_leastBytesOfAllWays 69 = .ok (.istore_n 3, 1) := by decide +kernel
theorem dX2_leastBytesOfAllWays_70 : decode cX2_leastBytesOfAllWays 70 = .ok (.iinc 4 1, 3) := by decide +kernel
theorem dX2_leastBytesOfAllWays_73 : decode cX2_leastBytesOfAllWays 73 = .ok (.goto (-49), 3) := by decide +kernel
theorem dX2_leastBytesOfAllWays_76 : decode cX2_leastBytesOfAllWays 76 = .ok (.iload_n 3, 1) := by decide +kernel
theorem dX2_leastBytesOfAllWays_77 : decode cX2_leastBytesOfAllWays 77 = .ok (.invokestatic 41, 3) := by decide +kernel
theorem dX2_leastBytesOfAllWays_80 : decode cX2_leastBytesOfAllWays 80 = .ok (.ireturn, 1) := by decide +kernel
theorem dX2_leastAlong_0 : decode cX2_leastAlong 0 = .ok (.iload_n 1, 1) := by decide +kernel
theorem dX2_leastAlong_1 : decode cX2_leastAlong 1 = .ok (.iload_n 2, 1) := by decide +kernel
theorem dX2_leastAlong_2 : decode cX2_leastAlong 2 = .ok (.if_icmp .ne 5, 3) := by decide +kernel
theorem dX2_leastAlong_5 : decode cX2_leastAlong 5 = .ok (.iconst 0, 1) := by decide +kernel
theorem dX2_leastAlong_6 : decode cX2_leastAlong 6 = .ok (.ireturn, 1) := by decide +kernel
theorem dX2_leastAlong_7 : decode cX2_leastAlong 7 = .ok (.iload 4, 2) := by decide +kernel
theorem dX2_leastAlong_9 : decode cX2_leastAlong 9 = .ok (.bipush 8, 2) := by decide +kernel
theorem dX2_leastAlong_11 : decode cX2_leastAlong 11 = .ok (.if_icmp .lt 6, 3) := by decide +kernel
theorem dX2_leastAlong_14 : decode cX2_leastAlong 14 = .ok (.ldc 49, 2) := by decide +kernel
theorem dX2_leastAlong_16 : decode cX2_leastAlong 16 = .ok (.ireturn, 1) := by decide +kernel
theorem dX2_leastAlong_17 : decode cX2_leastAlong 17 = .ok (.ldc 49, 2) := by decide +kernel
theorem dX2_leastAlong_19 : decode cX2_leastAlong 19 = .ok (.istore 5, 2) := by decide +kernel
theorem dX2_leastAlong_21 : decode cX2_leastAlong 21 = .ok (.iconst 0, 1) := by decide +kernel
theorem dX2_leastAlong_22 : decode cX2_leastAlong 22 = .ok (.istore 6, 2) := by decide +kernel
theorem dX2_leastAlong_24 : decode cX2_leastAlong 24 = .ok (.iload 6, 2) := by decide +kernel
theorem dX2_leastAlong_26 : decode cX2_leastAlong 26 = .ok (.bipush 8, 2) := by decide +kernel
theorem dX2_leastAlong_28 : decode cX2_leastAlong 28 = .ok (.if_icmp .ge 63, 3) := by decide +kernel
theorem dX2_leastAlong_31 : decode cX2_leastAlong 31 = .ok (.iload_n 3, 1) := by decide +kernel
theorem dX2_leastAlong_32 : decode cX2_leastAlong 32 = .ok (.iload 6, 2) := by decide +kernel
theorem dX2_leastAlong_34 : decode cX2_leastAlong 34 = .ok (.invokestatic 50, 3) := by decide +kernel
theorem dX2_leastAlong_37 : decode cX2_leastAlong 37 = .ok (.ifCond .ne 48, 3) := by decide +kernel
theorem dX2_leastAlong_40 : decode cX2_leastAlong 40 = .ok (.aload_n 0, 1) := by decide +kernel
theorem dX2_leastAlong_41 : decode cX2_leastAlong 41 = .ok (.iload_n 1, 1) := by decide +kernel
theorem dX2_leastAlong_42 : decode cX2_leastAlong 42 = .ok (.aaload, 1) := by decide +kernel
theorem dX2_leastAlong_43 : decode cX2_leastAlong 43 = .ok (.iload 6, 2) := by decide +kernel
theorem dX2_leastAlong_45 : decode cX2_leastAlong 45 = .ok (.iaload, 1) := by decide +kernel
theorem dX2_leastAlong_46 : decode cX2_leastAlong 46 = .ok (.iconst (-1), 1) := by decide +kernel
theorem dX2_leastAlong_47 : decode cX2_leastAlong 47 = .ok (.if_icmp .eq 38, 3) := by decide +kernel
theorem dX2_leastAlong_50 : decode cX2_leastAlong 50 = .ok (.aload_n 0, 1) := by decide +kernel
theorem dX2_leastAlong_51 : decode cX2_leastAlong 51 = .ok (.iload 6, 2) := by decide +kernel
theorem dX2_leastAlong_53 : decode cX2_leastAlong 53 = .ok (.iload_n 2, 1) := by decide +kernel
theorem dX2_leastAlong_54 : decode cX2_leastAlong 54 = .ok (.iload_n 3, 1) := by decide +kernel
theorem dX2_leastAlong_55 : decode cX2_leastAlong 55 = .ok (.iconst 1, 1) := by decide +kernel
theorem dX2_leastAlong_56 : decode cX2_leastAlong 56 = .ok (.iload 6, 2) := by decide +kernel
theorem dX2_leastAlong_58 : decode cX2_leastAlong 58 = .ok (.ishl, 1) := by decide +kernel
theorem dX2_leastAlong_59 : decode cX2_leastAlong 59 = .ok (.ior, 1) := by decide +kernel
theorem dX2_leastAlong_60 : decode cX2_leastAlong 60 = .ok (.iload 4, 2) := by decide +kernel
theorem dX2_leastAlong_62 : decode cX2_leastAlong 62 = .ok (.iconst 1, 1) := by decide +kernel
theorem dX2_leastAlong_63 : decode cX2_leastAlong 63 = .ok (.iadd, 1) := by decide +kernel
theorem dX2_leastAlong_64 : decode cX2_leastAlong 64 = .ok (.invokestatic 45, 3) := by decide +kernel
theorem dX2_leastAlong_67 : decode cX2_leastAlong 67 = .ok (.istore 7, 2) := by decide +kernel
theorem dX2_leastAlong_69 : decode cX2_leastAlong 69 = .ok (.iload 5, 2) := by decide +kernel
theorem dX2_leastAlong_71 : decode cX2_leastAlong 71 = .ok (.aload_n 0, 1) := by decide +kernel
theorem dX2_leastAlong_72 : decode cX2_leastAlong 72 = .ok (.iload_n 1, 1) := by decide +kernel
theorem dX2_leastAlong_73 : decode cX2_leastAlong 73 = .ok (.aaload, 1) := by decide +kernel
theorem dX2_leastAlong_74 : decode cX2_leastAlong 74 = .ok (.iload 6, 2) := by decide +kernel
theorem dX2_leastAlong_76 : decode cX2_leastAlong 76 = .ok (.iaload, 1) := by decide +kernel
theorem dX2_leastAlong_77 : decode cX2_leastAlong 77 = .ok (.iload 7, 2) := by decide +kernel
theorem dX2_leastAlong_79 : decode cX2_leastAlong 79 = .ok (.iadd, 1) := by decide +kernel
theorem dX2_leastAlong_80 : decode cX2_leastAlong 80 = .ok (.invokestatic 35, 3) := by decide +kernel
theorem dX2_leastAlong_83 : decode cX2_leastAlong 83 = .ok (.istore 5, 2) := by decide +kernel
theorem dX2_leastAlong_85 : decode cX2_leastAlong 85 = .ok (.iinc 6 1, 3) := by decide +kernel
theorem dX2_leastAlong_88 : decode cX2_leastAlong 88 = .ok (.goto (-64), 3) := by decide +kernel
theorem dX2_leastAlong_91 : decode cX2_leastAlong 91 = .ok (.iload 5, 2) := by decide +kernel
theorem dX2_leastAlong_93 : decode cX2_leastAlong 93 = .ok (.ireturn, 1) := by decide +kernel
theorem dX2_measure_0 : decode cX2_measure 0 = .ok (.iconst 0, 1) := by decide +kernel
theorem dX2_measure_1 : decode cX2_measure 1 = .ok (.istore_n 1, 1) := by decide +kernel
theorem dX2_measure_2 : decode cX2_measure 2 = .ok (.iload_n 1, 1) := by decide +kernel
theorem dX2_measure_3 : decode cX2_measure 3 = .ok (.bipush 8, 2) := by decide +kernel
theorem dX2_measure_5 : decode cX2_measure 5 = .ok (.if_icmp .ge 51, 3) := by decide +kernel
theorem dX2_measure_8 : decode cX2_measure 8 = .ok (.iconst 0, 1) := by decide +kernel
theorem dX2_measure_9 : decode cX2_measure 9 = .ok (.istore_n 2, 1) := by decide +kernel
theorem dX2_measure_10 : decode cX2_measure 10 = .ok (.iload_n 2, 1) := by decide +kernel
theorem dX2_measure_11 : decode cX2_measure 11 = .ok (.bipush 8, 2) := by decide +kernel
theorem dX2_measure_13 : decode cX2_measure 13 = .ok (.if_icmp .ge 37, 3) := by decide +kernel
theorem dX2_measure_16 : decode cX2_measure 16 = .ok (.aload_n 0, 1) := by decide +kernel
theorem dX2_measure_17 : decode cX2_measure 17 = .ok (.getfield 20, 3) := by decide +kernel
theorem dX2_measure_20 : decode cX2_measure 20 = .ok (.iload_n 1, 1) := by decide +kernel
theorem dX2_measure_21 : decode cX2_measure 21 = .ok (.aaload, 1) := by decide +kernel
theorem dX2_measure_22 : decode cX2_measure 22 = .ok (.iload_n 2, 1) := by decide +kernel
theorem dX2_measure_23 : decode cX2_measure 23 = .ok (.iload_n 1, 1) := by decide +kernel
theorem dX2_measure_24 : decode cX2_measure 24 = .ok (.iload_n 2, 1) := by decide +kernel
theorem dX2_measure_25 : decode cX2_measure 25 = .ok (.if_icmp .ne 7, 3) := by decide +kernel
theorem dX2_measure_28 : decode cX2_measure 28 = .ok (.iconst 0, 1) := by decide +kernel
theorem dX2_measure_29 : decode cX2_measure 29 = .ok (.goto 14, 3) := by decide +kernel
theorem dX2_measure_32 : decode cX2_measure 32 = .ok (.aload_n 0, 1) := by decide +kernel
theorem dX2_measure_33 : decode cX2_measure 33 = .ok (.getfield 17, 3) := by decide +kernel
theorem dX2_measure_36 : decode cX2_measure 36 = .ok (.iload_n 1, 1) := by decide +kernel
theorem dX2_measure_37 : decode cX2_measure 37 = .ok (.aaload, 1) := by decide +kernel
theorem dX2_measure_38 : decode cX2_measure 38 = .ok (.iload_n 2, 1) := by decide +kernel
theorem dX2_measure_39 : decode cX2_measure 39 = .ok (.iaload, 1) := by decide +kernel
theorem dX2_measure_40 : decode cX2_measure 40 = .ok (.invokestatic 54, 3) := by decide +kernel
theorem dX2_measure_43 : decode cX2_measure 43 = .ok (.iastore, 1) := by decide +kernel
theorem dX2_measure_44 : decode cX2_measure 44 = .ok (.iinc 2 1, 3) := by decide +kernel
theorem dX2_measure_47 : decode cX2_measure 47 = .ok (.goto (-37), 3) := by decide +kernel
theorem dX2_measure_50 : decode cX2_measure 50 = .ok (.iinc 1 1, 3) := by decide +kernel
theorem dX2_measure_53 : decode cX2_measure 53 = .ok (.goto (-51), 3) := by decide +kernel
theorem dX2_measure_56 : decode cX2_measure 56 = .ok (.iconst 0, 1) := by decide +kernel
theorem dX2_measure_57 : decode cX2_measure 57 = .ok (.istore_n 1, 1) := by decide +kernel
theorem dX2_measure_58 : decode cX2_measure 58 = .ok (.iload_n 1, 1) := by decide +kernel
theorem dX2_measure_59 : decode cX2_measure 59 = .ok (.bipush 8, 2) := by decide +kernel
theorem dX2_measure_61 : decode cX2_measure 61 = .ok (.if_icmp .ge 14, 3) := by decide +kernel
theorem dX2_measure_64 : decode cX2_measure 64 = .ok (.aload_n 0, 1) := by decide +kernel
theorem dX2_measure_65 : decode cX2_measure 65 = .ok (.iload_n 1, 1) := by decide +kernel
theorem dX2_measure_66 : decode cX2_measure 66 = .ok (.invokevirtual 57, 3) := by decide +kernel
theorem dX2_measure_69 : decode cX2_measure 69 = .ok (.iinc 1 1, 3) := by decide +kernel
theorem dX2_measure_72 : decode cX2_measure 72 = .ok (.goto (-14), 3) := by decide +kernel
theorem dX2_measure_75 : decode cX2_measure 75 = .ok (.iconst 0, 1) := by decide +kernel
theorem dX2_measure_76 : decode cX2_measure 76 = .ok (.istore_n 1, 1) := by decide +kernel
theorem dX2_measure_77 : decode cX2_measure 77 = .ok (.iload_n 1, 1) := by decide +kernel
theorem dX2_measure_78 : decode cX2_measure 78 = .ok (.bipush 8, 2) := by decide +kernel
theorem dX2_measure_80 : decode cX2_measure 80 = .ok (.if_icmp .ge 64, 3) := by decide +kernel
theorem dX2_measure_83 : decode cX2_measure 83 = .ok (.aload_n 0, 1) := by decide +kernel
theorem dX2_measure_84 : decode cX2_measure 84 = .ok (.getfield 23, 3) := by decide +kernel
theorem dX2_measure_87 : decode cX2_measure 87 = .ok (.iload_n 1, 1) := by decide +kernel
theorem dX2_measure_88 : decode cX2_measure 88 = .ok (.ldc 49, 2) := by decide +kernel
theorem dX2_measure_90 : decode cX2_measure 90 = .ok (.iastore, 1) := by decide +kernel
theorem dX2_measure_91 : decode cX2_measure 91 = .ok (.iconst 0, 1) := by decide +kernel
theorem dX2_measure_92 : decode cX2_measure 92 = .ok (.istore_n 2, 1) := by decide +kernel
theorem dX2_measure_93 : decode cX2_measure 93 = .ok (.iload_n 2, 1) := by decide +kernel
theorem dX2_measure_94 : decode cX2_measure 94 = .ok (.bipush 8, 2) := by decide +kernel
theorem dX2_measure_96 : decode cX2_measure 96 = .ok (.if_icmp .ge 42, 3) := by decide +kernel
theorem dX2_measure_99 : decode cX2_measure 99 = .ok (.aload_n 0, 1) := by decide +kernel
theorem dX2_measure_100 : decode cX2_measure 100 = .ok (.getfield 23, 3) := by decide +kernel
theorem dX2_measure_103 : decode cX2_measure 103 = .ok (.iload_n 1, 1) := by decide +kernel
theorem dX2_measure_104 : decode cX2_measure 104 = .ok (.aload_n 0, 1) := by decide +kernel
theorem dX2_measure_105 : decode cX2_measure 105 = .ok (.getfield 23, 3) := by decide +kernel
theorem dX2_measure_108 : decode cX2_measure 108 = .ok (.iload_n 1, 1) := by decide +kernel
theorem dX2_measure_109 : decode cX2_measure 109 = .ok (.iaload, 1) := by decide +kernel
theorem dX2_measure_110 : decode cX2_measure 110 = .ok (.aload_n 0, 1) := by decide +kernel
theorem dX2_measure_111 : decode cX2_measure 111 = .ok (.getfield 9, 3) := by decide +kernel
theorem dX2_measure_114 : decode cX2_measure 114 = .ok (.iload_n 2, 1) := by decide +kernel
theorem dX2_measure_115 : decode cX2_measure 115 = .ok (.iaload, 1) := by decide +kernel
theorem dX2_measure_116 : decode cX2_measure 116 = .ok (.invokestatic 54, 3) := by decide +kernel
theorem dX2_measure_119 : decode cX2_measure 119 = .ok (.aload_n 0, 1) := by decide +kernel
theorem dX2_measure_120 : decode cX2_measure 120 = .ok (.getfield 20, 3) := by decide +kernel
theorem dX2_measure_123 : decode cX2_measure 123 = .ok (.iload_n 2, 1) := by decide +kernel
theorem dX2_measure_124 : decode cX2_measure 124 = .ok (.aaload, 1) := by decide +kernel
theorem dX2_measure_125 : decode cX2_measure 125 = .ok (.iload_n 1, 1) := by decide +kernel
theorem dX2_measure_126 : decode cX2_measure 126 = .ok (.iaload, 1) := by decide +kernel
theorem dX2_measure_127 : decode cX2_measure 127 = .ok (.iadd, 1) := by decide +kernel
theorem dX2_measure_128 : decode cX2_measure 128 = .ok (.invokestatic 35, 3) := by decide +kernel
theorem dX2_measure_131 : decode cX2_measure 131 = .ok (.iastore, 1) := by decide +kernel
theorem dX2_measure_132 : decode cX2_measure 132 = .ok (.iinc 2 1, 3) := by decide +kernel
theorem dX2_measure_135 : decode cX2_measure 135 = .ok (.goto (-42), 3) := by decide +kernel
theorem dX2_measure_138 : decode cX2_measure 138 = .ok (.iinc 1 1, 3) := by decide +kernel
theorem dX2_measure_141 : decode cX2_measure 141 = .ok (.goto (-64), 3) := by decide +kernel
theorem dX2_measure_144 : decode cX2_measure 144 = .ok (.return_, 1) := by decide +kernel
theorem dX2_measureVia_0 : decode cX2_measureVia 0 = .ok (.iconst 0, 1) := by decide +kernel
theorem dX2_measureVia_1 : decode cX2_measureVia 1 = .ok (.istore_n 2, 1) := by decide +kernel
theorem dX2_measureVia_2 : decode cX2_measureVia 2 = .ok (.iload_n 2, 1) := by decide +kernel
theorem dX2_measureVia_3 : decode cX2_measureVia 3 = .ok (.bipush 8, 2) := by decide +kernel
theorem dX2_measureVia_5 : decode cX2_measureVia 5 = .ok (.if_icmp .ge 63, 3) := by decide +kernel
theorem dX2_measureVia_8 : decode cX2_measureVia 8 = .ok (.iconst 0, 1) := by decide +kernel
theorem dX2_measureVia_9 : decode cX2_measureVia 9 = .ok (.istore_n 3, 1) := by decide +kernel
theorem dX2_measureVia_10 : decode cX2_measureVia 10 = .ok (.iload_n 3, 1) := by decide +kernel
theorem dX2_measureVia_11 : decode cX2_measureVia 11 = .ok (.bipush 8, 2) := by decide +kernel
theorem dX2_measureVia_13 : decode cX2_measureVia 13 = .ok (.if_icmp .ge 49, 3) := by decide +kernel
theorem dX2_measureVia_16 : decode cX2_measureVia 16 = .ok (.aload_n 0, 1) := by decide +kernel
theorem dX2_measureVia_17 : decode cX2_measureVia 17 = .ok (.getfield 20, 3) := by decide +kernel
theorem dX2_measureVia_20 : decode cX2_measureVia 20 = .ok (.iload_n 2, 1) := by decide +kernel
theorem dX2_measureVia_21 : decode cX2_measureVia 21 = .ok (.aaload, 1) := by decide +kernel
theorem dX2_measureVia_22 : decode cX2_measureVia 22 = .ok (.iload_n 1, 1) := by decide +kernel
theorem dX2_measureVia_23 : decode cX2_measureVia 23 = .ok (.iaload, 1) := by decide +kernel
theorem dX2_measureVia_24 : decode cX2_measureVia 24 = .ok (.aload_n 0, 1) := by decide +kernel
theorem dX2_measureVia_25 : decode cX2_measureVia 25 = .ok (.getfield 20, 3) := by decide +kernel
theorem dX2_measureVia_28 : decode cX2_measureVia 28 = .ok (.iload_n 1, 1) := by decide +kernel
theorem dX2_measureVia_29 : decode cX2_measureVia 29 = .ok (.aaload, 1) := by decide +kernel
theorem dX2_measureVia_30 : decode cX2_measureVia 30 = .ok (.iload_n 3, 1) := by decide +kernel
theorem dX2_measureVia_31 : decode cX2_measureVia 31 = .ok (.iaload, 1) := by decide +kernel
theorem dX2_measureVia_32 : decode cX2_measureVia 32 = .ok (.iadd, 1) := by decide +kernel
theorem dX2_measureVia_33 : decode cX2_measureVia 33 = .ok (.istore 4, 2) := by decide +kernel
theorem dX2_measureVia_35 : decode cX2_measureVia 35 = .ok (.aload_n 0, 1) := by decide +kernel
theorem dX2_measureVia_36 : decode cX2_measureVia 36 = .ok (.getfield 20, 3) := by decide +kernel
theorem dX2_measureVia_39 : decode cX2_measureVia 39 = .ok (.iload_n 2, 1) := by decide +kernel
theorem dX2_measureVia_40 : decode cX2_measureVia 40 = .ok (.aaload, 1) := by decide +kernel
theorem dX2_measureVia_41 : decode cX2_measureVia 41 = .ok (.iload_n 3, 1) := by decide +kernel
theorem dX2_measureVia_42 : decode cX2_measureVia 42 = .ok (.aload_n 0, 1) := by decide +kernel
theorem dX2_measureVia_43 : decode cX2_measureVia 43 = .ok (.getfield 20, 3) := by decide +kernel
theorem dX2_measureVia_46 : decode cX2_measureVia 46 = .ok (.iload_n 2, 1) := by decide +kernel
theorem dX2_measureVia_47 : decode cX2_measureVia 47 = .ok (.aaload, 1) := by decide +kernel
theorem dX2_measureVia_48 : decode cX2_measureVia 48 = .ok (.iload_n 3, 1) := by decide +kernel
theorem dX2_measureVia_49 : decode cX2_measureVia 49 = .ok (.iaload, 1) := by decide +kernel
theorem dX2_measureVia_50 : decode cX2_measureVia 50 = .ok (.iload 4, 2) := by decide +kernel
theorem dX2_measureVia_52 : decode cX2_measureVia 52 = .ok (.invokestatic 35, 3) := by decide +kernel
theorem dX2_measureVia_55 : decode cX2_measureVia 55 = .ok (.iastore, 1) := by decide +kernel
theorem dX2_measureVia_56 : decode cX2_measureVia 56 = .ok (.iinc 3 1, 3) := by decide +kernel
theorem dX2_measureVia_59 : decode cX2_measureVia 59 = .ok (.goto (-49), 3) := by decide +kernel
theorem dX2_measureVia_62 : decode cX2_measureVia 62 = .ok (.iinc 2 1, 3) := by decide +kernel
theorem dX2_measureVia_65 : decode cX2_measureVia 65 = .ok (.goto (-63), 3) := by decide +kernel
theorem dX2_measureVia_68 : decode cX2_measureVia 68 = .ok (.return_, 1) := by decide +kernel
theorem dX2_orFar_0 : decode cX2_orFar 0 = .ok (.iload_n 0, 1) := by decide +kernel
theorem dX2_orFar_1 : decode cX2_orFar 1 = .ok (.iconst (-1), 1) := by decide +kernel
theorem dX2_orFar_2 : decode cX2_orFar 2 = .ok (.if_icmp .ne 8, 3) := by decide +kernel
theorem dX2_orFar_5 : decode cX2_orFar 5 = .ok (.ldc 49, 2) := by decide +kernel
theorem dX2_orFar_7 : decode cX2_orFar 7 = .ok (.goto 4, 3) := by decide +kernel
theorem dX2_orFar_10 : decode cX2_orFar 10 = .ok (.iload_n 0, 1) := by decide +kernel
theorem dX2_orFar_11 : decode cX2_orFar 11 = .ok (.ireturn, 1) := by decide +kernel
theorem dX2_orNone_0 : decode cX2_orNone 0 = .ok (.iload_n 0, 1) := by decide +kernel
theorem dX2_orNone_1 : decode cX2_orNone 1 = .ok (.ldc 49, 2) := by decide +kernel
theorem dX2_orNone_3 : decode cX2_orNone 3 = .ok (.if_icmp .lt 7, 3) := by decide +kernel
theorem dX2_orNone_6 : decode cX2_orNone 6 = .ok (.iconst (-1), 1) := by decide +kernel
theorem dX2_orNone_7 : decode cX2_orNone 7 = .ok (.goto 4, 3) := by decide +kernel
theorem dX2_orNone_10 : decode cX2_orNone 10 = .ok (.iload_n 0, 1) := by decide +kernel
theorem dX2_orNone_11 : decode cX2_orNone 11 = .ok (.ireturn, 1) := by decide +kernel
theorem dX3_init_0 : decode cX3_init 0 = .ok (.aload_n 0, 1) := by decide +kernel
theorem dX3_init_1 : decode cX3_init 1 = .ok (.invokespecial 1, 3) := by decide +kernel
theorem dX3_init_4 : decode cX3_init 4 = .ok (.aload_n 0, 1) := by decide +kernel
theorem dX3_init_5 : decode cX3_init 5 = .ok (.bipush 8, 2) := by decide +kernel
theorem dX3_init_7 : decode cX3_init 7 = .ok (.newarray .int, 2) := by decide +kernel
theorem dX3_init_9 : decode cX3_init 9 = .ok (.putfield 9, 3) := by decide +kernel
theorem dX3_init_12 : decode cX3_init 12 = .ok (.aload_n 0, 1) := by decide +kernel
theorem dX3_init_13 : decode cX3_init 13 = .ok (.new 13, 3) := by decide +kernel
theorem dX3_init_16 : decode cX3_init 16 = .ok (.dup, 1) := by decide +kernel
theorem dX3_init_17 : decode cX3_init 17 = .ok (.invokespecial 15, 3) := by decide +kernel
theorem dX3_init_20 : decode cX3_init 20 = .ok (.putfield 16, 3) := by decide +kernel
theorem dX3_init_23 : decode cX3_init 23 = .ok (.aload_n 0, 1) := by decide +kernel
theorem dX3_init_24 : decode cX3_init 24 = .ok (.bipush 10, 2) := by decide +kernel
theorem dX3_init_26 : decode cX3_init 26 = .ok (.anewarray 20, 3) := by decide +kernel
theorem dX3_init_29 : decode cX3_init 29 = .ok (.putfield 22, 3) := by decide +kernel
theorem dX3_init_32 : decode cX3_init 32 = .ok (.aload_n 0, 1) := by decide +kernel
theorem dX3_init_33 : decode cX3_init 33 = .ok (.bipush 6, 2) := by decide +kernel
theorem dX3_init_35 : decode cX3_init 35 = .ok (.anewarray 26, 3) := by decide +kernel
theorem dX3_init_38 : decode cX3_init 38 = .ok (.putfield 28, 3) := by decide +kernel
theorem dX3_init_41 : decode cX3_init 41 = .ok (.aload_n 0, 1) := by decide +kernel
theorem dX3_init_42 : decode cX3_init 42 = .ok (.iconst 0, 1) := by decide +kernel
theorem dX3_init_43 : decode cX3_init 43 = .ok (.putfield 32, 3) := by decide +kernel
theorem dX3_init_46 : decode cX3_init 46 = .ok (.aload_n 0, 1) := by decide +kernel
theorem dX3_init_47 : decode cX3_init 47 = .ok (.iconst 0, 1) := by decide +kernel
theorem dX3_init_48 : decode cX3_init 48 = .ok (.putfield 36, 3) := by decide +kernel
theorem dX3_init_51 : decode cX3_init 51 = .ok (.aload_n 0, 1) := by decide +kernel
theorem dX3_init_52 : decode cX3_init 52 = .ok (.iconst 0, 1) := by decide +kernel
theorem dX3_init_53 : decode cX3_init 53 = .ok (.putfield 39, 3) := by decide +kernel
theorem dX3_init_56 : decode cX3_init 56 = .ok (.aload_n 0, 1) := by decide +kernel
theorem dX3_init_57 : decode cX3_init 57 = .ok (.getfield 9, 3) := by decide +kernel
theorem dX3_init_60 : decode cX3_init 60 = .ok (.bipush 15, 2) := by decide +kernel
theorem dX3_init_62 : decode cX3_init 62 = .ok (.invokestatic 42, 3) := by decide +kernel
theorem dX3_init_65 : decode cX3_init 65 = .ok (.iconst 0, 1) := by decide +kernel
theorem dX3_init_66 : decode cX3_init 66 = .ok (.istore_n 1, 1) := by decide +kernel
theorem dX3_init_67 : decode cX3_init 67 = .ok (.iload_n 1, 1) := by decide +kernel
theorem dX3_init_68 : decode cX3_init 68 = .ok (.bipush 10, 2) := by decide +kernel
theorem dX3_init_70 : decode cX3_init 70 = .ok (.if_icmp .ge 23, 3) := by decide +kernel
theorem dX3_init_73 : decode cX3_init 73 = .ok (.aload_n 0, 1) := by decide +kernel
theorem dX3_init_74 : decode cX3_init 74 = .ok (.getfield 22, 3) := by decide +kernel
theorem dX3_init_77 : decode cX3_init 77 = .ok (.iload_n 1, 1) := by decide +kernel
theorem dX3_init_78 : decode cX3_init 78 = .ok (.new 20, 3) := by decide +kernel
theorem dX3_init_81 : decode cX3_init 81 = .ok (.dup, 1) := by decide +kernel
theorem dX3_init_82 : decode cX3_init 82 = .ok (.iload_n 1, 1) := by decide +kernel
theorem dX3_init_83 : decode cX3_init 83 = .ok (.invokespecial 48, 3) := by decide +kernel
theorem dX3_init_86 : decode cX3_init 86 = .ok (.aastore, 1) := by decide +kernel
theorem dX3_init_87 : decode cX3_init 87 = .ok (.iinc 1 1, 3) := by decide +kernel
theorem dX3_init_90 : decode cX3_init 90 = .ok (.goto (-23), 3) := by decide +kernel
theorem dX3_init_93 : decode cX3_init 93 = .ok (.iconst 0, 1) := by decide +kernel
theorem dX3_init_94 : decode cX3_init 94 = .ok (.istore_n 1, 1) := by decide +kernel
theorem dX3_init_95 : decode cX3_init 95 = .ok (.iload_n 1, 1) := by decide +kernel
theorem dX3_init_96 : decode cX3_init 96 = .ok (.bipush 6, 2) := by decide +kernel
theorem dX3_init_98 : decode cX3_init 98 = .ok (.if_icmp .ge 23, 3) := by decide +kernel
theorem dX3_init_101 : decode cX3_init 101 = .ok (.aload_n 0, 1) := by decide +kernel
theorem dX3_init_102 : decode cX3_init 102 = .ok (.getfield 28, 3) := by decide +kernel
theorem dX3_init_105 : decode cX3_init 105 = .ok (.iload_n 1, 1) := by decide +kernel
theorem dX3_init_106 : decode cX3_init 106 = .ok (.new 26, 3) := by decide +kernel
theorem dX3_init_109 : decode cX3_init 109 = .ok (.dup, 1) := by decide +kernel
theorem dX3_init_110 : decode cX3_init 110 = .ok (.iload_n 1, 1) := by decide +kernel
theorem dX3_init_111 : decode cX3_init 111 = .ok (.invokespecial 51, 3) := by decide +kernel
theorem dX3_init_114 : decode cX3_init 114 = .ok (.aastore, 1) := by decide +kernel
theorem dX3_init_115 : decode cX3_init 115 = .ok (.iinc 1 1, 3) := by decide +kernel
theorem dX3_init_118 : decode cX3_init 118 = .ok (.goto (-23), 3) := by decide +kernel
theorem dX3_init_121 : decode cX3_init 121 = .ok (.return_, 1) := by decide +kernel
theorem dX3_allow_0 : decode cX3_allow 0 = .ok (.iload_n 1, 1) := by decide +kernel
theorem dX3_allow_1 : decode cX3_allow 1 = .ok (.invokestatic 52, 3) := by decide +kernel
theorem dX3_allow_4 : decode cX3_allow 4 = .ok (.iload_n 2, 1) := by decide +kernel
theorem dX3_allow_5 : decode cX3_allow 5 = .ok (.iconst 0, 1) := by decide +kernel
theorem dX3_allow_6 : decode cX3_allow 6 = .ok (.bipush 15, 2) := by decide +kernel
theorem dX3_allow_8 : decode cX3_allow 8 = .ok (.invokestatic 55, 3) := by decide +kernel
theorem dX3_allow_11 : decode cX3_allow 11 = .ok (.aload_n 0, 1) := by decide +kernel
theorem dX3_allow_12 : decode cX3_allow 12 = .ok (.getfield 9, 3) := by decide +kernel
theorem dX3_allow_15 : decode cX3_allow 15 = .ok (.iload_n 1, 1) := by decide +kernel
theorem dX3_allow_16 : decode cX3_allow 16 = .ok (.iaload, 1) := by decide +kernel
theorem dX3_allow_17 : decode cX3_allow 17 = .ok (.istore_n 3, 1) := by decide +kernel
theorem dX3_allow_18 : decode cX3_allow 18 = .ok (.aload_n 0, 1) := by decide +kernel
theorem dX3_allow_19 : decode cX3_allow 19 = .ok (.getfield 9, 3) := by decide +kernel
theorem dX3_allow_22 : decode cX3_allow 22 = .ok (.iload_n 1, 1) := by decide +kernel
theorem dX3_allow_23 : decode cX3_allow 23 = .ok (.iload_n 2, 1) := by decide +kernel
theorem dX3_allow_24 : decode cX3_allow 24 = .ok (.iastore, 1) := by decide +kernel
theorem dX3_allow_25 : decode cX3_allow 25 = .ok (.iload_n 3, 1) := by decide +kernel
theorem dX3_allow_26 : decode cX3_allow 26 = .ok (.ireturn, 1) := by decide +kernel
theorem dX3_setImage_0 : decode cX3_setImage 0 = .ok (.iload_n 1, 1) := by decide +kernel
theorem dX3_setImage_1 : decode cX3_setImage 1 = .ok (.invokestatic 52, 3) := by decide +kernel
theorem dX3_setImage_4 : decode cX3_setImage 4 = .ok (.iload_n 2, 1) := by decide +kernel
theorem dX3_setImage_5 : decode cX3_setImage 5 = .ok (.invokestatic 59, 3) := by decide +kernel
theorem dX3_setImage_8 : decode cX3_setImage 8 = .ok (.aload_n 0, 1) := by decide +kernel
theorem dX3_setImage_9 : decode cX3_setImage 9 = .ok (.getfield 16, 3) := by decide +kernel
theorem dX3_setImage_12 : decode cX3_setImage 12 = .ok (.iload_n 1, 1) := by decide +kernel
theorem dX3_setImage_13 : decode cX3_setImage 13 = .ok (.iload_n 2, 1) := by decide +kernel
theorem dX3_setImage_14 : decode cX3_setImage 14 = .ok (.invokevirtual 62, 3) := by decide +kernel
theorem dX3_setImage_17 : decode cX3_setImage 17 = .ok (.ireturn, 1) := by decide +kernel
theorem dX3_setDelta_0 : decode cX3_setDelta 0 = .ok (.iload_n 1, 1) := by decide +kernel
theorem dX3_setDelta_1 : decode cX3_setDelta 1 = .ok (.invokestatic 52, 3) := by decide +kernel
theorem dX3_setDelta_4 : decode cX3_setDelta 4 = .ok (.iload_n 2, 1) := by decide +kernel
theorem dX3_setDelta_5 : decode cX3_setDelta 5 = .ok (.invokestatic 52, 3) := by decide +kernel
theorem dX3_setDelta_8 : decode cX3_setDelta 8 = .ok (.iload_n 1, 1) := by decide +kernel
theorem dX3_setDelta_9 : decode cX3_setDelta 9 = .ok (.iload_n 2, 1) := by decide +kernel
theorem dX3_setDelta_10 : decode cX3_setDelta 10 = .ok (.if_icmp .ne 13, 3) := by decide +kernel
theorem dX3_setDelta_13 : decode cX3_setDelta 13 = .ok (.new 66, 3) := by decide +kernel
theorem dX3_setDelta_16 : decode cX3_setDelta 16 = .ok (.dup, 1) := by decide +kernel
theorem dX3_setDelta_17 : decode cX3_setDelta 17 = .ok (.ldc 68, 2) := by decide +kernel
theorem dX3_setDelta_19 : decode cX3_setDelta 19 = .ok (.invokespecial 70, 3) := by decide +kernel
theorem dX3_setDelta_22 : decode cX3_setDelta 22 = .ok (.athrow, 1) := by decide +kernel
theorem dX3_setDelta_23 : decode cX3_setDelta 23 = .ok (.iload_n 3, 1) := by decide +kernel
theorem dX3_setDelta_24 : decode cX3_setDelta 24 = .ok (.invokestatic 59, 3) := by decide +kernel
theorem dX3_setDelta_27 : decode cX3_setDelta 27 = .ok (.aload_n 0, 1) := by decide +kernel
theorem dX3_setDelta_28 : decode cX3_setDelta 28 = .ok (.getfield 16, 3) := by decide +kernel
theorem dX3_setDelta_31 : decode cX3_setDelta 31 = .ok (.iload_n 1, 1) := by decide +kernel
theorem dX3_setDelta_32 : decode cX3_setDelta 32 = .ok (.iload_n 2, 1) := by decide +kernel
theorem dX3_setDelta_33 : decode cX3_setDelta 33 = .ok (.iload_n 3, 1) := by decide +kernel
theorem dX3_setDelta_34 : decode cX3_setDelta 34 = .ok (.invokevirtual 73, 3) := by decide +kernel
theorem dX3_setDelta_37 : decode cX3_setDelta 37 = .ok (.ireturn, 1) := by decide +kernel
theorem dX3_size_0 : decode cX3_size 0 = .ok (.iload_n 1, 1) := by decide +kernel
theorem dX3_size_1 : decode cX3_size 1 = .ok (.invokestatic 52, 3) := by decide +kernel
theorem dX3_size_4 : decode cX3_size 4 = .ok (.iload_n 2, 1) := by decide +kernel
theorem dX3_size_5 : decode cX3_size 5 = .ok (.invokestatic 52, 3) := by decide +kernel
theorem dX3_size_8 : decode cX3_size 8 = .ok (.aload_n 0, 1) := by decide +kernel
theorem dX3_size_9 : decode cX3_size 9 = .ok (.getfield 16, 3) := by decide +kernel
theorem dX3_size_12 : decode cX3_size 12 = .ok (.iload_n 1, 1) := by decide +kernel
theorem dX3_size_13 : decode cX3_size 13 = .ok (.iload_n 2, 1) := by decide +kernel
theorem dX3_size_14 : decode cX3_size 14 = .ok (.invokevirtual 77, 3) := by decide +kernel
theorem dX3_size_17 : decode cX3_size 17 = .ok (.ireturn, 1) := by decide +kernel
theorem dX3_sizeByWays_0 : decode cX3_sizeByWays 0 = .ok (.iload_n 1, 1) := by decide +kernel
theorem dX3_sizeByWays_1 : decode cX3_sizeByWays 1 = .ok (.invokestatic 52, 3) := by decide +kernel
theorem dX3_sizeByWays_4 : decode cX3_sizeByWays 4 = .ok (.iload_n 2, 1) := by decide +kernel
theorem dX3_sizeByWays_5 : decode cX3_sizeByWays 5 = .ok (.invokestatic 52, 3) := by decide +kernel
theorem dX3_sizeByWays_8 : decode cX3_sizeByWays 8 = .ok (.aload_n 0, 1) := by decide +kernel
theorem dX3_sizeByWays_9 : decode cX3_sizeByWays 9 = .ok (.getfield 16, 3) := by decide +kernel
theorem dX3_sizeByWays_12 : decode cX3_sizeByWays 12 = .ok (.iload_n 1, 1) := by decide +kernel
theorem dX3_sizeByWays_13 : decode cX3_sizeByWays 13 = .ok (.iload_n 2, 1) := by decide +kernel
theorem dX3_sizeByWays_14 : decode cX3_sizeByWays 14 = .ok (.invokevirtual 80, 3) := by decide +kernel
theorem dX3_sizeByWays_17 : decode cX3_sizeByWays 17 = .ok (.ireturn, 1) := by decide +kernel
theorem dX3_addDevice_0 : decode cX3_addDevice 0 = .ok (.iload_n 1, 1) := by decide +kernel
theorem dX3_addDevice_1 : decode cX3_addDevice 1 = .ok (.ifCond .lt 8, 3) := by decide +kernel
theorem dX3_addDevice_4 : decode cX3_addDevice 4 = .ok (.iload_n 1, 1) := by decide +kernel
theorem dX3_addDevice_5 : decode cX3_addDevice 5 = .ok (.iconst 4, 1) := by decide +kernel
theorem dX3_addDevice_6 : decode cX3_addDevice 6 = .ok (.if_icmp .lt 13, 3) := by decide +kernel
theorem dX3_addDevice_9 : decode cX3_addDevice 9 = .ok (.new 83, 3) := by decide +kernel
theorem dX3_addDevice_12 : decode cX3_addDevice 12 = .ok (.dup, 1) := by decide +kernel
theorem dX3_addDevice_13 : decode cX3_addDevice 13 = .ok (.ldc 85, 2) := by decide +kernel
theorem dX3_addDevice_15 : decode cX3_addDevice 15 = .ok (.invokespecial 87, 3) := by decide +kernel
theorem dX3_addDevice_18 : decode cX3_addDevice 18 = .ok (.athrow, 1) := by decide +kernel
theorem dX3_addDevice_19 : decode cX3_addDevice 19 = .ok (.iload_n 2, 1) := by decide +kernel
theorem dX3_addDevice_20 : decode cX3_addDevice 20 = .ok (.invokestatic 52, 3) := by decide +kernel
theorem dX3_addDevice_23 : decode cX3_addDevice 23 = .ok (.aload_n 0, 1) := by decide +kernel
theorem dX3_addDevice_24 : decode cX3_addDevice 24 = .ok (.getfield 32, 3) := by decide +kernel
theorem dX3_addDevice_27 : decode cX3_addDevice 27 = .ok (.bipush 10, 2) := by decide +kernel
theorem dX3_addDevice_29 : decode cX3_addDevice 29 = .ok (.if_icmp .lt 13, 3) := by decide +kernel
theorem dX3_addDevice_32 : decode cX3_addDevice 32 = .ok (.new 88, 3) := by decide +kernel
theorem dX3_addDevice_35 : decode cX3_addDevice 35 = .ok (.dup, 1) := by decide +kernel
theorem dX3_addDevice_36 : decode cX3_addDevice 36 = .ok (.ldc 90, 2) := by decide +kernel
theorem dX3_addDevice_38 : decode cX3_addDevice 38 = .ok (.invokespecial 92, 3) := by decide +kernel
theorem dX3_addDevice_41 : decode cX3_addDevice 41 = .ok (.athrow, 1) := by decide +kernel
theorem dX3_addDevice_42 : decode cX3_addDevice 42 = .ok (.aload_n 0, 1) := by decide +kernel
theorem dX3_addDevice_43 : decode cX3_addDevice 43 = .ok (.getfield 9, 3) := by decide +kernel
theorem dX3_addDevice_46 : decode cX3_addDevice 46 = .ok (.iload_n 2, 1) := by decide +kernel
theorem dX3_addDevice_47 : decode cX3_addDevice 47 = .ok (.iaload, 1) := by decide +kernel
theorem dX3_addDevice_48 : decode cX3_addDevice 48 = .ok (.iload_n 1, 1) := by decide +kernel
theorem dX3_addDevice_49 : decode cX3_addDevice 49 = .ok (.invokestatic 93, 3) := by decide +kernel
theorem dX3_addDevice_52 : decode cX3_addDevice 52 = .ok (.ifCond .ne 13, 3) := by decide +kernel
theorem dX3_addDevice_55 : decode cX3_addDevice 55 = .ok (.new 88, 3) := by decide +kernel
theorem dX3_addDevice_58 : decode cX3_addDevice 58 = .ok (.dup, 1) := by decide +kernel
theorem dX3_addDevice_59 : decode cX3_addDevice 59 = .ok (.ldc 97, 2) := by decide +kernel
theorem dX3_addDevice_61 : decode cX3_addDevice 61 = .ok (.invokespecial 92, 3) := by decide +kernel
theorem dX3_addDevice_64 : decode cX3_addDevice 64 = .ok (.athrow, 1) := by decide +kernel
theorem dX3_addDevice_65 : decode cX3_addDevice 65 = .ok (.aload_n 0, 1) := by decide +kernel
theorem dX3_addDevice_66 : decode cX3_addDevice 66 = .ok (.getfield 22, 3) := by decide +kernel
theorem dX3_addDevice_69 : decode cX3_addDevice 69 = .ok (.aload_n 0, 1) := by decide +kernel
theorem dX3_addDevice_70 : decode cX3_addDevice 70 = .ok (.getfield 32, 3) := by decide +kernel
theorem dX3_addDevice_73 : decode cX3_addDevice 73 = .ok (.aaload, 1) := by decide +kernel
theorem dX3_addDevice_74 : decode cX3_addDevice 74 = .ok (.astore_n 3, 1) := by decide +kernel
theorem dX3_addDevice_75 : decode cX3_addDevice 75 = .ok (.aload_n 3, 1) := by decide +kernel
theorem dX3_addDevice_76 : decode cX3_addDevice 76 = .ok (.iload_n 1, 1) := by decide +kernel
theorem dX3_addDevice_77 : decode cX3_addDevice 77 = .ok (.putfield 99, 3) := by decide +kernel
theorem dX3_addDevice_80 : decode cX3_addDevice 80 = .ok (.aload_n 3, 1) := by decide +kernel
theorem dX3_addDevice_81 : decode cX3_addDevice 81 = .ok (.iload_n 2, 1) := by decide +kernel
theorem dX3_addDevice_82 : decode cX3_addDevice 82 = .ok (.putfield 102, 3) := by decide +kernel
theorem dX3_addDevice_85 : decode cX3_addDevice 85 = .ok (.aload_n 0, 1) := by decide +kernel
theorem dX3_addDevice_86 : decode cX3_addDevice 86 = .ok (.dup, 1) := by decide +kernel
theorem dX3_addDevice_87 : decode cX3_addDevice 87 = .ok (.getfield 32, 3) := by decide +kernel
theorem dX3_addDevice_90 : decode cX3_addDevice 90 = .ok (.iconst 1, 1) := by decide +kernel
theorem dX3_addDevice_91 : decode cX3_addDevice 91 = .ok (.iadd, 1) := by decide +kernel
theorem dX3_addDevice_92 : decode cX3_addDevice 92 = .ok (.putfield 32, 3) := by decide +kernel
theorem dX3_addDevice_95 : decode cX3_addDevice 95 = .ok (.aload_n 3, 1) := by decide +kernel
theorem dX3_addDevice_96 : decode cX3_addDevice 96 = .ok (.getfield 105, 3) := by decide +kernel
theorem dX3_addDevice_99 : decode cX3_addDevice 99 = .ok (.ireturn, 1) := by decide +kernel
theorem dX3_charge_0 : decode cX3_charge 0 = .ok (.aload_n 0, 1) := by decide +kernel
theorem dX3_charge_1 : decode cX3_charge 1 = .ok (.iload_n 1, 1) := by decide +kernel
theorem dX3_charge_2 : decode cX3_charge 2 = .ok (.invokevirtual 108, 3) := by decide +kernel
theorem dX3_charge_5 : decode cX3_charge 5 = .ok (.astore_n 3, 1) := by decide +kernel
theorem dX3_charge_6 : decode cX3_charge 6 = .ok (.iload_n 2, 1) := by decide +kernel
theorem dX3_charge_7 : decode cX3_charge 7 = .ok (.iconst 0, 1) := by decide +kernel
theorem dX3_charge_8 : decode cX3_charge 8 = .ok (.bipush 100, 2) := by decide +kernel
theorem dX3_charge_10 : decode cX3_charge 10 = .ok (.invokestatic 55, 3) := by decide +kernel
theorem dX3_charge_13 : decode cX3_charge 13 = .ok (.aload_n 3, 1) := by decide +kernel
theorem dX3_charge_14 : decode cX3_charge 14 = .ok (.getfield 112, 3) := by decide +kernel
theorem dX3_charge_17 : decode cX3_charge 17 = .ok (.istore 4, 2) := by decide +kernel
theorem dX3_charge_19 : decode cX3_charge 19 = .ok (.aload_n 3, 1) := by decide +kernel
theorem dX3_charge_20 : decode cX3_charge 20 = .ok (.iload_n 2, 1) := by decide +kernel
theorem dX3_charge_21 : decode cX3_charge 21 = .ok (.putfield 112, 3) := by decide +kernel
theorem dX3_charge_24 : decode cX3_charge 24 = .ok (.iload 4, 2) := by decide +kernel
theorem dX3_charge_26 : decode cX3_charge 26 = .ok (.ireturn, 1) := by decide +kernel
theorem dX3_setWindow_0 : decode cX3_setWindow 0 = .ok (.aload_n 0, 1) := by decide +kernel
theorem dX3_setWindow_1 : decode cX3_setWindow 1 = .ok (.iload_n 1, 1) := by decide +kernel
theorem dX3_setWindow_2 : decode cX3_setWindow 2 = .ok (.invokevirtual 108, 3) := by decide +kernel
theorem dX3_setWindow_5 : decode cX3_setWindow 5 = .ok (.astore 4, 2) := by decide +kernel
theorem dX3_setWindow_7 : decode cX3_setWindow 7 = .ok (.iload_n 2, 1) := by decide +kernel
theorem dX3_setWindow_8 : decode cX3_setWindow 8 = .ok (.iconst 0, 1) := by decide +kernel
theorem dX3_setWindow_9 : decode cX3_setWindow 9 = .ok (.bipush 23, 2) := by decide +kernel
theorem dX3_setWindow_11 : decode cX3_setWindow 11 = .ok (.invokestatic 55, 3) := by decide +kernel
theorem dX3_setWindow_14 : decode cX3_setWindow 14 = .ok (.iload_n 3, 1) := by decide +kernel
theorem dX3_setWindow_15 : decode cX3_setWindow 15 = .ok (.iconst 0, 1) := by decide +kernel
theorem dX3_setWindow_16 : decode cX3_setWindow 16 = .ok (.bipush 23, 2) := by decide +kernel
theorem dX3_setWindow_18 : decode cX3_setWindow 18 = .ok (.invokestatic 55, 3) := by decide +kernel
theorem dX3_setWindow_21 : decode cX3_setWindow 21 = .ok (.aload 4, 2) := by decide +kernel
theorem dX3_setWindow_23 : decode cX3_setWindow 23 = .ok (.iload_n 2, 1) := by decide +kernel
theorem dX3_setWindow_24 : decode cX3_setWindow 24 = .ok (.putfield 115, 3) := by decide +kernel
theorem dX3_setWindow_27 : decode cX3_setWindow 27 = .ok (.aload 4, 2) := by decide +kernel
theorem dX3_setWindow_29 : decode cX3_setWindow 29 = .ok (.iload_n 3, 1) := by decide +kernel
theorem dX3_setWindow_30 : decode cX3_setWindow 30 = .ok (.putfield 118, 3) := by decide +kernel
theorem dX3_setWindow_33 : decode cX3_setWindow 33 = .ok (.return_, 1) := by decide +kernel
theorem dX3_report_0 : decode cX3_report 0 = .ok (.aload_n 0, 1) := by decide +kernel
theorem dX3_report_1 : decode cX3_report 1 = .ok (.iload_n 1, 1) := by decide +kernel
theorem dX3_report_2 : decode cX3_report 2 = .ok (.invokevirtual 108, 3) := by decide +kernel
theorem dX3_report_5 : decode cX3_report 5 = .ok (.astore_n 3, 1) := by decide +kernel
theorem dX3_report_6 : decode cX3_report 6 = .ok (.aload_n 3, 1) := by decide +kernel
theorem dX3_report_7 : decode cX3_report 7 = .ok (.getfield 121, 3) := by decide +kernel
theorem dX3_report_10 : decode cX3_report 10 = .ok (.iconst 2, 1) := by decide +kernel
theorem dX3_report_11 : decode cX3_report 11 = .ok (.if_icmp .eq 13, 3) := by decide +kernel
theorem dX3_report_14 : decode cX3_report 14 = .ok (.new 88, 3) := by decide +kernel
theorem dX3_report_17 : decode cX3_report 17 = .ok (.dup, 1) := by decide +kernel
theorem dX3_report_18 : decode cX3_report 18 = .ok (.ldc 124, 2) := by decide +kernel
theorem dX3_report_20 : decode cX3_report 20 = .ok (.invokespecial 92, 3) := by decide +kernel
theorem dX3_report_23 : decode cX3_report 23 = .ok (.athrow, 1) := by decide +kernel
theorem dX3_report_24 : decode cX3_report 24 = .ok (.aload_n 0, 1) := by decide +kernel
theorem dX3_report_25 : decode cX3_report 25 = .ok (.aload_n 3, 1) := by decide +kernel
theorem dX3_report_26 : decode cX3_report 26 = .ok (.getfield 126, 3) := by decide +kernel
theorem dX3_report_29 : decode cX3_report 29 = .ok (.invokevirtual 129, 3) := by decide +kernel
theorem dX3_report_32 : decode cX3_report 32 = .ok (.astore 4, 2) := by decide +kernel
theorem dX3_report_34 : decode cX3_report 34 = .ok (.iload_n 2, 1) := by decide +kernel
theorem dX3_report_35 : decode cX3_report 35 = .ok (.ifCond .eq 12, 3) := by decide +kernel
theorem dX3_report_38 : decode cX3_report 38 = .ok (.aload_n 3, 1) := by decide +kernel
theorem dX3_report_39 : decode cX3_report 39 = .ok (.aload 4, 2) := by decide +kernel
theorem dX3_report_41 : decode cX3_report 41 = .ok (.getfield 133, 3) := by decide +kernel
theorem dX3_report_44 : decode cX3_report 44 = .ok (.putfield 102, 3) := by decide +kernel
theorem dX3_report_47 : decode cX3_report 47 = .ok (.aload_n 3, 1) := by decide +kernel
theorem dX3_report_48 : decode cX3_report 48 = .ok (.iconst 0, 1) := by decide +kernel
theorem dX3_report_49 : decode cX3_report 49 = .ok (.putfield 121, 3) := by decide +kernel
theorem dX3_report_52 : decode cX3_report 52 = .ok (.aload_n 3, 1) := by decide +kernel
theorem dX3_report_53 : decode cX3_report 53 = .ok (.iconst (-1), 1) := by decide +kernel
theorem dX3_report_54 : decode cX3_report 54 = .ok (.putfield 126, 3) := by decide +kernel
theorem dX3_report_57 : decode cX3_report 57 = .ok (.aload 4, 2) := by decide +kernel
theorem dX3_report_59 : decode cX3_report 59 = .ok (.aload_n 3, 1) := by decide +kernel
theorem dX3_report_60 : decode cX3_report 60 = .ok (.iload_n 2, 1) := by decide +kernel
theorem dX3_report_61 : decode cX3_report 61 = .ok (.invokevirtual 136, 3) := by decide +kernel
theorem dX3_report_64 : decode cX3_report 64 = .ok (.aload 4, 2) := by decide +kernel
theorem dX3_report_66 : decode cX3_report 66 = .ok (.invokevirtual 140, 3) := by decide +kernel
theorem dX3_report_69 : decode cX3_report 69 = .ok (.aload_n 3, 1) := by decide +kernel
theorem dX3_report_70 : decode cX3_report 70 = .ok (.getfield 102, 3) := by decide +kernel
theorem dX3_report_73 : decode cX3_report 73 = .ok (.ireturn, 1) := by decide +kernel
theorem dX3_devices_0 : decode cX3_devices 0 = .ok (.aload_n 0, 1) := by decide +kernel
theorem dX3_devices_1 : decode cX3_devices 1 = .ok (.getfield 32, 3) := by decide +kernel
theorem dX3_devices_4 : decode cX3_devices 4 = .ok (.ireturn, 1) := by decide +kernel
theorem dX3_state_0 : decode cX3_state 0 = .ok (.aload_n 0, 1) := by decide +kernel
theorem dX3_state_1 : decode cX3_state 1 = .ok (.iload_n 1, 1) := by decide +kernel
theorem dX3_state_2 : decode cX3_state 2 = .ok (.invokevirtual 108, 3) := by decide +kernel
theorem dX3_state_5 : decode cX3_state 5 = .ok (.getfield 121, 3) := by decide +kernel
theorem dX3_state_8 : decode cX3_state 8 = .ok (.ireturn, 1) := by decide +kernel
theorem dX3_version_0 : decode cX3_version 0 = .ok (.aload_n 0, 1) := by decide +kernel
theorem dX3_version_1 : decode cX3_version 1 = .ok (.iload_n 1, 1) := by decide +kernel
theorem dX3_version_2 : decode cX3_version 2 = .ok (.invokevirtual 108, 3) := by decide +kernel
theorem dX3_version_5 : decode cX3_version 5 = .ok (.getfield 102, 3) := by decide +kernel
theorem dX3_version_8 : decode cX3_version 8 = .ok (.ireturn, 1) := by decide +kernel
theorem dX3_campaignOf_0 : decode cX3_campaignOf 0 = .ok (.aload_n 0, 1) := by decide +kernel
theorem dX3_campaignOf_1 : decode cX3_campaignOf 1 = .ok (.iload_n 1, 1) := by decide +kernel
theorem dX3_campaignOf_2 : decode cX3_campaignOf 2 = .ok (.invokevirtual 108, 3) := by decide +kernel
theorem dX3_campaignOf_5 : decode cX3_campaignOf 5 = .ok (.getfield 126, 3) := by decide +kernel
theorem dX3_campaignOf_8 : decode cX3_campaignOf 8 = .ok (.ireturn, 1) := by decide +kernel
theorem dX3_toGo_0 : decode cX3_toGo 0 = .ok (.aload_n 0, 1) := by decide +kernel
theorem dX3_toGo_1 : decode cX3_toGo 1 = .ok (.iload_n 1, 1) := by decide +kernel
theorem dX3_toGo_2 : decode cX3_toGo 2 = .ok (.invokevirtual 108, 3) := by decide +kernel
theorem dX3_toGo_5 : decode cX3_toGo 5 = .ok (.getfield 143, 3) := by decide +kernel
theorem dX3_toGo_8 : decode cX3_toGo 8 = .ok (.ireturn, 1) := by decide +kernel
theorem dX3_battery_0 : decode cX3_battery 0 = .ok (.aload_n 0, 1) := by decide +kernel
theorem dX3_battery_1 : decode cX3_battery 1 = .ok (.iload_n 1, 1) := by decide +kernel
theorem dX3_battery_2 : decode cX3_battery 2 = .ok (.invokevirtual 108, 3) := by decide +kernel
theorem dX3_battery_5 : decode cX3_battery 5 = .ok (.getfield 112, 3) := by decide +kernel
theorem dX3_battery_8 : decode cX3_battery 8 = .ok (.ireturn, 1) := by decide +kernel
theorem dX3_begin_0 : decode cX3_begin 0 = .ok (.iload_n 1, 1) := by decide +kernel
theorem dX3_begin_1 : decode cX3_begin 1 = .ok (.invokestatic 52, 3) := by decide +kernel
theorem dX3_begin_4 : decode cX3_begin 4 = .ok (.iload 4, 2) := by decide +kernel
theorem dX3_begin_6 : decode cX3_begin 6 = .ok (.iconst (-1), 1) := by decide +kernel
theorem dX3_begin_7 : decode cX3_begin 7 = .ok (.if_icmp .eq 9, 3) := by decide +kernel
theorem dX3_begin_10 : decode cX3_begin 10 = .ok (.aload_n 0, 1) := by decide +kernel
theorem dX3_begin_11 : decode cX3_begin 11 = .ok (.iload 4, 2) := by decide +kernel
theorem dX3_begin_13 : decode cX3_begin 13 = .ok (.invokevirtual 146, 3) := by decide +kernel
theorem dX3_begin_16 : decode cX3_begin 16 = .ok (.iload_n 2, 1) := by decide +kernel
theorem dX3_begin_17 : decode cX3_begin 17 = .ok (.iconst 0, 1) := by decide +kernel
theorem dX3_begin_18 : decode cX3_begin 18 = .ok (.bipush 15, 2) := by decide +kernel
theorem dX3_begin_20 : decode cX3_begin 20 = .ok (.invokestatic 55, 3) := by decide +kernel
theorem dX3_begin_23 : decode cX3_begin 23 = .ok (.iload_n 3, 1) := by decide +kernel
theorem dX3_begin_24 : decode cX3_begin 24 = .ok (.iconst 0, 1) := by decide +kernel
theorem dX3_begin_25 : decode cX3_begin 25 = .ok (.sipush 255, 3) := by decide +kernel
theorem dX3_begin_28 : decode cX3_begin 28 = .ok (.invokestatic 55, 3) := by decide +kernel
theorem dX3_begin_31 : decode cX3_begin 31 = .ok (.aload_n 0, 1) := by decide +kernel
theorem dX3_begin_32 : decode cX3_begin 32 = .ok (.getfield 36, 3) := by decide +kernel
theorem dX3_begin_35 : decode cX3_begin 35 = .ok (.bipush 6, 2) := by decide +kernel
theorem dX3_begin_37 : decode cX3_begin 37 = .ok (.if_icmp .lt 13, 3) := by decide +kernel
theorem dX3_begin_40 : decode cX3_begin 40 = .ok (.new 88, 3) := by decide +kernel
theorem dX3_begin_43 : decode cX3_begin 43 = .ok (.dup, 1) := by decide +kernel
theorem dX3_begin_44 : decode cX3_begin 44 = .ok (.ldc 149, 2) := by decide +kernel
theorem dX3_begin_46 : decode cX3_begin 46 = .ok (.invokespecial 92, 3) := by decide +kernel
theorem dX3_begin_49 : decode cX3_begin 49 = .ok (.athrow, 1) := by decide +kernel
theorem dX3_begin_50 : decode cX3_begin 50 = .ok (.iload 4, 2) := by decide +kernel
theorem dX3_begin_52 : decode cX3_begin 52 = .ok (.iconst (-1), 1) := by decide +kernel
theorem dX3_begin_53 : decode cX3_begin 53 = .ok (.if_icmp .eq 13, 3) := by decide +kernel
theorem dX3_begin_56 : decode cX3_begin 56 = .ok (.aload_n 0, 1) := by decide +kernel
theorem dX3_begin_57 : decode cX3_begin 57 = .ok (.iload 4, 2) := by decide +kernel
theorem dX3_begin_59 : decode cX3_begin 59 = .ok (.invokevirtual 129, 3) := by decide +kernel
theorem dX3_begin_62 : decode cX3_begin 62 = .ok (.iconst 0, 1) := by decide +kernel
theorem dX3_begin_63 : decode cX3_begin 63 = .ok (.putfield 151, 3) := by decide +kernel
theorem dX3_begin_66 : decode cX3_begin 66 = .ok (.aload_n 0, 1) := by decide +kernel
theorem dX3_begin_67 : decode cX3_begin 67 = .ok (.getfield 28, 3) := by decide +kernel
theorem dX3_begin_70 : decode cX3_begin 70 = .ok (.aload_n 0, 1) := by decide +kernel
theorem dX3_begin_71 : decode cX3_begin 71 = .ok (.getfield 36, 3) := by decide +kernel
theorem dX3_begin_74 : decode cX3_begin 74 = .ok (.aaload, 1) := by decide +kernel
theorem dX3_begin_75 : decode cX3_begin 75 = .ok (.astore 5, 2) := by decide +kernel
theorem dX3_begin_77 : decode cX3_begin 77 = .ok (.aload 5, 2) := by decide +kernel
theorem dX3_begin_79 : decode cX3_begin 79 = .ok (.iload_n 1, 1) := by decide +kernel
theorem dX3_begin_80 : decode cX3_begin 80 = .ok (.putfield 133, 3) := by decide +kernel
theorem dX3_begin_83 : decode cX3_begin 83 = .ok (.aload 5, 2) := by decide +kernel
theorem dX3_begin_85 : decode cX3_begin 85 = .ok (.iload_n 2, 1) := by decide +kernel
theorem dX3_begin_86 : decode cX3_begin 86 = .ok (.putfield 155, 3) := by decide +kernel
theorem dX3_begin_89 : decode cX3_begin 89 = .ok (.aload 5, 2) := by decide +kernel
theorem dX3_begin_91 : decode cX3_begin 91 = .ok (.iload_n 3, 1) := by decide +kernel
theorem dX3_begin_92 : decode cX3_begin 92 = .ok (.putfield 158, 3) := by decide +kernel
theorem dX3_begin_95 : decode cX3_begin 95 = .ok (.aload_n 0, 1) := by decide +kernel
theorem dX3_begin_96 : decode cX3_begin 96 = .ok (.dup, 1) := by decide +kernel
theorem dX3_begin_97 : decode cX3_begin 97 = .ok (.getfield 36, 3) := by decide +kernel
theorem dX3_begin_100 : decode cX3_begin 100 = .ok (.iconst 1, 1) := by decide +kernel
theorem dX3_begin_101 : decode cX3_begin 101 = .ok (.iadd, 1) := by decide +kernel
theorem dX3_begin_102 : decode cX3_begin 102 = .ok (.putfield 36, 3) := by decide +kernel
theorem dX3_begin_105 : decode cX3_begin 105 = .ok (.aload 5, 2) := by decide +kernel
theorem dX3_begin_107 : decode cX3_begin 107 = .ok (.getfield 161, 3) := by decide +kernel
theorem dX3_begin_110 : decode cX3_begin 110 = .ok (.ireturn, 1) := by decide +kernel
theorem dX3_setRules_0 : decode cX3_setRules 0 = .ok (.aload_n 0, 1) := by decide +kernel
theorem dX3_setRules_1 : decode cX3_setRules 1 = .ok (.iload_n 1, 1) := by decide +kernel
theorem dX3_setRules_2 : decode cX3_setRules 2 = .ok (.invokevirtual 129, 3) := by decide +kernel
theorem dX3_setRules_5 : decode cX3_setRules 5 = .ok (.astore 6, 2) := by decide +kernel
theorem dX3_setRules_7 : decode cX3_setRules 7 = .ok (.iload_n 2, 1) := by decide +kernel
theorem dX3_setRules_8 : decode cX3_setRules 8 = .ok (.iconst 0, 1) := by decide +kernel
theorem dX3_setRules_9 : decode cX3_setRules 9 = .ok (.bipush 100, 2) := by decide +kernel
theorem dX3_setRules_11 : decode cX3_setRules 11 = .ok (.invokestatic 55, 3) := by decide +kernel
theorem dX3_setRules_14 : decode cX3_setRules 14 = .ok (.iload_n 3, 1) := by decide +kernel
theorem dX3_setRules_15 : decode cX3_setRules 15 = .ok (.iload_n 2, 1) := by decide +kernel
theorem dX3_setRules_16 : decode cX3_setRules 16 = .ok (.bipush 100, 2) := by decide +kernel
theorem dX3_setRules_18 : decode cX3_setRules 18 = .ok (.invokestatic 55, 3) := by decide +kernel
theorem dX3_setRules_21 : decode cX3_setRules 21 = .ok (.iload 4, 2) := by decide +kernel
theorem dX3_setRules_23 : decode cX3_setRules 23 = .ok (.iconst 1, 1) := by decide +kernel
theorem dX3_setRules_24 : decode cX3_setRules 24 = .ok (.bipush 10, 2) := by decide +kernel
theorem dX3_setRules_26 : decode cX3_setRules 26 = .ok (.invokestatic 55, 3) := by decide +kernel
theorem dX3_setRules_29 : decode cX3_setRules 29 = .ok (.iload 5, 2) := by decide +kernel
theorem dX3_setRules_31 : decode cX3_setRules 31 = .ok (.iconst 0, 1) := by decide +kernel
theorem dX3_setRules_32 : decode cX3_setRules 32 = .ok (.sipush 1000, 3) := by decide +kernel
theorem dX3_setRules_35 : decode cX3_setRules 35 = .ok (.invokestatic 55, 3) := by decide +kernel
theorem dX3_setRules_38 : decode cX3_setRules 38 = .ok (.aload 6, 2) := by decide +kernel
theorem dX3_setRules_40 : decode cX3_setRules 40 = .ok (.iload_n 2, 1) := by decide +kernel
theorem dX3_setRules_41 : decode cX3_setRules 41 = .ok (.putfield 162, 3) := by decide +kernel
theorem dX3_setRules_44 : decode cX3_setRules 44 = .ok (.aload 6, 2) := by decide +kernel
theorem dX3_setRules_46 : decode cX3_setRules 46 = .ok (.iload_n 3, 1) := by decide +kernel
theorem dX3_setRules_47 : decode cX3_setRules 47 = .ok (.putfield 165, 3) := by decide +kernel
theorem dX3_setRules_50 : decode cX3_setRules 50 = .ok (.aload 6, 2) := by decide +kernel
theorem dX3_setRules_52 : decode cX3_setRules 52 = .ok (.iload 4, 2) := by decide +kernel
theorem dX3_setRules_54 : decode cX3_setRules 54 = .ok (.putfield 168, 3) := by decide +kernel
theorem dX3_setRules_57 : decode cX3_setRules 57 = .ok (.aload 6, 2) := by decide +kernel
theorem dX3_setRules_59 : decode cX3_setRules 59 = .ok (.iload 5, 2) := by decide +kernel
theorem dX3_setRules_61 : decode cX3_setRules 61 = .ok (.putfield 171, 3) := by decide +kernel
theorem dX3_setRules_64 : decode cX3_setRules 64 = .ok (.return_, 1) := by decide +kernel
theorem dX3_toggle_0 : decode cX3_toggle 0 = .ok (.aload_n 0, 1) := by decide +kernel
theorem dX3_toggle_1 : decode cX3_toggle 1 = .ok (.iload_n 1, 1) := by decide +kernel
theorem dX3_toggle_2 : decode cX3_toggle 2 = .ok (.invokevirtual 129, 3) := by decide +kernel
theorem dX3_toggle_5 : decode cX3_toggle 5 = .ok (.astore_n 2, 1) := by decide +kernel
theorem dX3_toggle_6 : decode cX3_toggle 6 = .ok (.aload_n 2, 1) := by decide +kernel
theorem dX3_toggle_7 : decode cX3_toggle 7 = .ok (.aload_n 2, 1) := by decide +kernel
theorem dX3_toggle_8 : decode cX3_toggle 8 = .ok (.getfield 151, 3) := by decide +kernel
theorem dX3_toggle_11 : decode cX3_toggle 11 = .ok (.ifCond .ne 7, 3) := by decide +kernel
theorem dX3_toggle_14 : decode cX3_toggle 14 = .ok (.iconst 1, 1) := by decide +kernel
theorem dX3_toggle_15 : decode cX3_toggle 15 = .ok (.goto 4, 3) := by decide +kernel
theorem dX3_toggle_18 : decode cX3_toggle 18 = .ok (.iconst 0, 1) := by decide +kernel
theorem dX3_toggle_19 : decode cX3_toggle 19 = .ok (.putfield 151, 3) := by decide +kernel
theorem dX3_toggle_22 : decode cX3_toggle 22 = .ok (.aload_n 2, 1) := by decide +kernel
theorem dX3_toggle_23 : decode cX3_toggle 23 = .ok (.getfield 151, 3) := by decide +kernel
theorem dX3_toggle_26 : decode cX3_toggle 26 = .ok (.ifCond .eq 11, 3) := by decide +kernel
theorem dX3_toggle_29 : decode cX3_toggle 29 = .ok (.aload_n 2, 1) := by decide +kernel
theorem dX3_toggle_30 : decode cX3_toggle 30 = .ok (.aload_n 2, 1) := by decide +kernel
theorem dX3_toggle_31 : decode cX3_toggle 31 = .ok (.getfield 174, 3) := by decide +kernel
theorem dX3_toggle_34 : decode cX3_toggle 34 = .ok (.invokevirtual 177, 3) := by decide +kernel
theorem dX3_toggle_37 : decode cX3_toggle 37 = .ok (.aload_n 2, 1) := by decide +kernel
theorem dX3_toggle_38 : decode cX3_toggle 38 = .ok (.getfield 151, 3) := by decide +kernel
theorem dX3_toggle_41 : decode cX3_toggle 41 = .ok (.ireturn, 1) := by decide +kernel
theorem dX3_isActive_0 : decode cX3_isActive 0 = .ok (.aload_n 0, 1) := by decide +kernel
theorem dX3_isActive_1 : decode cX3_isActive 1 = .ok (.iload_n 1, 1) := by decide +kernel
theorem dX3_isActive_2 : decode cX3_isActive 2 = .ok (.invokevirtual 129, 3) := by decide +kernel
theorem dX3_isActive_5 : decode cX3_isActive 5 = .ok (.getfield 151, 3) := by decide +kernel
theorem dX3_isActive_8 : decode cX3_isActive 8 = .ok (.ireturn, 1) := by decide +kernel
theorem dX3_ring_0 : decode cX3_ring 0 = .ok (.aload_n 0, 1) := by decide +kernel
theorem dX3_ring_1 : decode cX3_ring 1 = .ok (.iload_n 1, 1) := by decide +kernel
theorem dX3_ring_2 : decode cX3_ring 2 = .ok (.invokevirtual 129, 3) := by decide +kernel
theorem dX3_ring_5 : decode cX3_ring 5 = .ok (.getfield 174, 3) := by decide +kernel
theorem dX3_ring_8 : decode cX3_ring 8 = .ok (.ireturn, 1) := by decide +kernel
theorem dX3_reports_0 : decode cX3_reports 0 = .ok (.aload_n 0, 1) := by decide +kernel
theorem dX3_reports_1 : decode cX3_reports 1 = .ok (.iload_n 1, 1) := by decide +kernel
theorem dX3_reports_2 : decode cX3_reports 2 = .ok (.invokevirtual 129, 3) := by decide +kernel
theorem dX3_reports_5 : decode cX3_reports 5 = .ok (.getfield 180, 3) := by decide +kernel
theorem dX3_reports_8 : decode cX3_reports 8 = .ok (.ireturn, 1) := by decide +kernel
theorem dX3_eligible_0 : decode cX3_eligible 0 = .ok (.aload_n 0, 1) := by decide +kernel
theorem dX3_eligible_1 : decode cX3_eligible 1 = .ok (.iload_n 1, 1) := by decide +kernel
theorem dX3_eligible_2 : decode cX3_eligible 2 = .ok (.invokevirtual 129, 3) := by decide +kernel
theorem dX3_eligible_5 : decode cX3_eligible 5 = .ok (.astore_n 2, 1) := by decide +kernel
theorem dX3_eligible_6 : decode cX3_eligible 6 = .ok (.iconst 0, 1) := by decide +kernel
theorem dX3_eligible_7 : decode cX3_eligible 7 = .ok (.istore_n 3, 1) := by decide +kernel
theorem dX3_eligible_8 : decode cX3_eligible 8 = .ok (.iconst 0, 1) := by decide +kernel
theorem dX3_eligible_9 : decode cX3_eligible 9 = .ok (.istore 4, 2) := by decide +kernel
theorem dX3_eligible_11 : decode cX3_eligible 11 = .ok (.iload 4, 2) := by decide +kernel
theorem dX3_eligible_13 : decode cX3_eligible 13 = .ok (.aload_n 0, 1) := by decide +kernel
theorem dX3_eligible_14 : decode cX3_eligible 14 = .ok (.getfield 32, 3) := by decide +kernel
theorem dX3_eligible_17 : decode cX3_eligible 17 = .ok (.if_icmp .ge 31, 3) := by decide +kernel
theorem dX3_eligible_20 : decode cX3_eligible 20 = .ok (.aload_n 0, 1) := by decide +kernel
theorem dX3_eligible_21 : decode cX3_eligible 21 = .ok (.aload_n 0, 1) := by decide +kernel
theorem dX3_eligible_22 : decode cX3_eligible 22 = .ok (.getfield 22, 3) := by decide +kernel
theorem dX3_eligible_25 : decode cX3_eligible 25 = .ok (.iload 4, 2) := by decide +kernel
theorem dX3_eligible_27 : decode cX3_eligible 27 = .ok (.aaload, 1) := by decide +kernel
theorem dX3_eligible_28 : decode cX3_eligible 28 = .ok (.aload_n 2, 1) := by decide +kernel
theorem dX3_eligible_29 : decode cX3_eligible 29 = .ok (.invokevirtual 183, 3) := by decide +kernel
theorem dX3_eligible_32 : decode cX3_eligible 32 = .ok (.ifCond .eq 10, 3) := by decide +kernel
theorem dX3_eligible_35 : decode cX3_eligible 35 = .ok (.iload_n 3, 1) := by decide +kernel
theorem dX3_eligible_36 : decode cX3_eligible 36 = .ok (.iconst 1, 1) := by decide +kernel
theorem dX3_eligible_37 : decode cX3_eligible 37 = .ok (.iload 4, 2) := by decide +kernel
theorem dX3_eligible_39 : decode cX3_eligible 39 = .ok (.ishl, 1) := by decide +kernel
theorem dX3_eligible_40 : decode cX3_eligible 40 = .ok (.ior, 1) := by decide +kernel
theorem dX3_eligible_41 : decode cX3_eligible 41 = .ok (.istore_n 3, 1) := by decide +kernel
theorem dX3_eligible_42 : decode cX3_eligible 42 = .ok (.iinc 4 1, 3) := by decide +kernel
theorem dX3_eligible_45 : decode cX3_eligible 45 = .ok (.goto (-34), 3) := by decide +kernel
theorem dX3_eligible_48 : decode cX3_eligible 48 = .ok (.iload_n 3, 1) := by decide +kernel
theorem dX3_eligible_49 : decode cX3_eligible 49 = .ok (.ireturn, 1) := by decide +kernel
theorem dX3_pass_0 : decode cX3_pass 0 = .ok (.iload_n 1, 1) := by decide +kernel
theorem dX3_pass_1 : decode cX3_pass 1 = .ok (.iconst 1, 1) := by decide +kernel
theorem dX3_pass_2 : decode cX3_pass 2 = .ok (.bipush 100, 2) := by decide +kernel
theorem dX3_pass_4 : decode cX3_pass 4 = .ok (.invokestatic 55, 3) := by decide +kernel
theorem dX3_pass_7 : decode cX3_pass 7 = .ok (.iconst 0, 1) := by decide +kernel
theorem dX3_pass_8 : decode cX3_pass 8 = .ok (.istore_n 2, 1) := by decide +kernel
theorem dX3_pass_9 : decode cX3_pass 9 = .ok (.iconst 0, 1) := by decide +kernel
theorem dX3_pass_10 : decode cX3_pass 10 = .ok (.istore_n 3, 1) := by decide +kernel
theorem dX3_pass_11 : decode cX3_pass 11 = .ok (.iload_n 3, 1) := by decide +kernel
theorem dX3_pass_12 : decode cX3_pass 12 = .ok (.iload_n 1, 1) := by decide +kernel
theorem dX3_pass_13 : decode cX3_pass 13 = .ok (.if_icmp .ge 16, 3) := by decide +kernel
theorem dX3_pass_16 : decode cX3_pass 16 = .ok (.iload_n 2, 1) := by decide +kernel
theorem dX3_pass_17 : decode cX3_pass 17 = .ok (.aload_n 0, 1) := by decide +kernel
theorem dX3_pass_18 : decode cX3_pass 18 = .ok (.invokevirtual 187, 3) := by decide +kernel
theorem dX3_pass_21 : decode cX3_pass 21 = .ok (.iadd, 1) := by decide +kernel
theorem dX3_pass_22 : decode cX3_pass 22 = .ok (.istore_n 2, 1) := by decide +kernel
theorem dX3_pass_23 : decode cX3_pass 23 = .ok (.iinc 3 1, 3) := by decide +kernel
theorem dX3_pass_26 : decode cX3_pass 26 = .ok (.goto (-15), 3) := by decide +kernel
theorem dX3_pass_29 : decode cX3_pass 29 = .ok (.iload_n 2, 1) := by decide +kernel
theorem dX3_pass_30 : decode cX3_pass 30 = .ok (.ireturn, 1) := by decide +kernel
theorem dX3_passOneHour_0 : decode cX3_passOneHour 0 = .ok (.iconst 0, 1) := by decide +kernel
theorem dX3_passOneHour_1 : decode cX3_passOneHour 1 = .ok (.istore_n 1, 1) := by decide +kernel
theorem dX3_passOneHour_2 : decode cX3_passOneHour 2 = .ok (.iconst 0, 1) := by decide +kernel
theorem dX3_passOneHour_3 : decode cX3_passOneHour 3 = .ok (.istore_n 2, 1) := by decide +kernel
theorem dX3_passOneHour_4 : decode cX3_passOneHour 4 = .ok (.iload_n 2, 1) := by decide +kernel
theorem dX3_passOneHour_5 : decode cX3_passOneHour 5 = .ok (.aload_n 0, 1) := by decide +kernel
theorem dX3_passOneHour_6 : decode cX3_passOneHour 6 = .ok (.getfield 32, 3) := by decide +kernel
theorem dX3_passOneHour_9 : decode cX3_passOneHour 9 = .ok (.if_icmp .ge 47, 3) := by decide +kernel
theorem dX3_passOneHour_12 : decode cX3_passOneHour 12 = .ok (.aload_n 0, 1) := by decide +kernel
theorem dX3_passOneHour_13 : decode cX3_passOneHour 13 = .ok (.getfield 22, 3) := by decide +kernel
theorem dX3_passOneHour_16 : decode cX3_passOneHour 16 = .ok (.iload_n 2, 1) := by decide +kernel
theorem dX3_passOneHour_17 : decode cX3_passOneHour 17 = .ok (.aaload, 1) := by decide +kernel
theorem dX3_passOneHour_18 : decode cX3_passOneHour 18 = .ok (.astore_n 3, 1) := by decide +kernel
theorem dX3_passOneHour_19 : decode cX3_passOneHour 19 = .ok (.aload_n 0, 1) := by decide +kernel
theorem dX3_passOneHour_20 : decode cX3_passOneHour 20 = .ok (.aload_n 3, 1) := by decide +kernel
theorem dX3_passOneHour_21 : decode cX3_passOneHour 21 = .ok (.invokevirtual 191, 3) := by decide +kernel
theorem dX3_passOneHour_24 : decode cX3_passOneHour 24 = .ok (.aload_n 3, 1) := by decide +kernel
theorem dX3_passOneHour_25 : decode cX3_passOneHour 25 = .ok (.aload_n 0, 1) := by decide +kernel
theorem dX3_passOneHour_26 : decode cX3_passOneHour 26 = .ok (.getfield 39, 3) := by decide +kernel
theorem dX3_passOneHour_29 : decode cX3_passOneHour 29 = .ok (.invokevirtual 195, 3) := by decide +kernel
theorem dX3_passOneHour_32 : decode cX3_passOneHour 32 = .ok (.ifCond .eq 18, 3) := by decide +kernel
theorem dX3_passOneHour_35 : decode cX3_passOneHour 35 = .ok (.aload_n 3, 1) := by decide +kernel
theorem dX3_passOneHour_36 : decode cX3_passOneHour 36 = .ok (.invokevirtual 199, 3) := by decide +kernel
theorem dX3_passOneHour_39 : decode cX3_passOneHour 39 = .ok (.aload_n 3, 1) := by decide +kernel
theorem dX3_passOneHour_40 : decode cX3_passOneHour 40 = .ok (.getfield 121, 3) := by decide +kernel
theorem dX3_passOneHour_43 : decode cX3_passOneHour 43 = .ok (.iconst 2, 1) := by decide +kernel
theorem dX3_passOneHour_44 : decode cX3_passOneHour 44 = .ok (.if_icmp .ne 6, 3) := by decide +kernel
theorem dX3_passOneHour_47 : decode cX3_passOneHour 47 = .ok (.iinc 1 1, 3) := by decide +kernel
theorem dX3_passOneHour_50 : decode cX3_passOneHour 50 = .ok (.iinc 2 1, 3) := by decide +kernel
theorem dX3_passOneHour_53 : decode cX3_passOneHour 53 = .ok (.goto (-49), 3) := by decide +kernel
theorem dX3_passOneHour_56 : decode cX3_passOneHour 56 = .ok (.aload_n 0, 1) := by decide +kernel
theorem dX3_passOneHour_57 : decode cX3_passOneHour 57 = .ok (.aload_n 0, 1) := by decide +kernel
theorem dX3_passOneHour_58 : decode cX3_passOneHour 58 = .ok (.getfield 39, 3) := by decide +kernel
theorem dX3_passOneHour_61 : decode cX3_passOneHour 61 = .ok (.iconst 1, 1) := by decide +kernel
theorem dX3_passOneHour_62 : decode cX3_passOneHour 62 = .ok (.iadd, 1) := by decide +kernel
theorem dX3_passOneHour_63 : decode cX3_passOneHour 63 = .ok (.bipush 24, 2) := by decide +kernel
theorem dX3_passOneHour_65 : decode cX3_passOneHour 65 = .ok (.irem, 1) := by decide +kernel
theorem dX3_passOneHour_66 : decode cX3_passOneHour 66 = .ok (.putfield 39, 3) := by decide +kernel
theorem dX3_passOneHour_69 : decode cX3_passOneHour 69 = .ok (.iload_n 1, 1) := by decide +kernel
theorem dX3_passOneHour_70 : decode cX3_passOneHour 70 = .ok (.ireturn, 1) := by decide +kernel
theorem dX3_takeLowestCampaign_0 : decode cX3_takeLowestCampaign 0 = .ok (.iconst 0, 1) := by decide +kernel
theorem dX3_takeLowestCampaign_1 : decode cX3_takeLowestCampaign 1 = .ok (.istore_n 2, 1) := by decide +kernel
theorem dX3_takeLowestCampaign_2 : decode cX3_takeLowestCampaign 2 = .ok (.iload_n 2, 1) := by decide +kernel
theorem dX3_takeLowestCampaign_3 : decode cX3_takeLowestCampaign 3 = .ok (.aload_n 0, 1) := by decide +kernel
theorem dX3_takeLowestCampaign_4 : decode cX3_takeLowestCampaign 4 = .ok (.getfield 36, 3) := by decide +kernel
theorem dX3_takeLowestCampaign_7 : decode cX3_takeLowestCampaign 7 = .ok (.if_icmp .ge 46, 3) := by decide +kernel
theorem dX3_takeLowestCampaign_10 : decode cX3_takeLowestCampaign 10 = .ok (.aload_n 0, 1) := by decide +kernel
theorem dX3_takeLowestCampaign_11 : decode cX3_takeLowestCampaign 11 = .ok (.getfield 28, 3) := by decide +kernel
theorem dX3_takeLowestCampaign_14 : decode cX3_takeLowestCampaign 14 = .ok (.iload_n 2, 1) := by decide +kernel
theorem dX3_takeLowestCampaign_15 : decode cX3_takeLowestCampaign 15 = .ok (.aaload, 1) := by decide +kernel
theorem dX3_takeLowestCampaign_16 : decode cX3_takeLowestCampaign 16 = .ok (.astore_n 3, 1) := by decide +kernel
theorem dX3_takeLowestCampaign_17 : decode cX3_takeLowestCampaign 17 = .ok (.aload_n 0, 1) := by decide +kernel
theorem dX3_takeLowestCampaign_18 : decode cX3_takeLowestCampaign 18 = .ok (.aload_n 1, 1) := by decide +kernel
theorem dX3_takeLowestCampaign_19 : decode cX3_takeLowestCampaign 19 = .ok (.aload_n 3, 1) := by decide +kernel
theorem dX3_takeLowestCampaign_20 : decode cX3_takeLowestCampaign 20 = .ok (.invokevirtual 183, 3) := by decide +kernel
theorem dX3_takeLowestCampaign_23 : decode cX3_takeLowestCampaign 23 = .ok (.ifCond .eq 24, 3) := by decide +kernel
theorem dX3_takeLowestCampaign_26 : decode cX3_takeLowestCampaign 26 = .ok (.aload_n 1, 1) := by decide +kernel
theorem dX3_takeLowestCampaign_27 : decode cX3_takeLowestCampaign 27 = .ok (.aload_n 3, 1) := by decide +kernel
theorem dX3_takeLowestCampaign_28 : decode cX3_takeLowestCampaign 28 = .ok (.aload_n 0, 1) := by decide +kernel
theorem dX3_takeLowestCampaign_29 : decode cX3_takeLowestCampaign 29 = .ok (.getfield 16, 3) := by decide +kernel
theorem dX3_takeLowestCampaign_32 : decode cX3_takeLowestCampaign 32 = .ok (.aload_n 1, 1) := by decide +kernel
theorem dX3_takeLowestCampaign_33 : decode cX3_takeLowestCampaign 33 = .ok (.getfield 102, 3) := by decide +kernel
theorem dX3_takeLowestCampaign_36 : decode cX3_takeLowestCampaign 36 = .ok (.aload_n 3, 1) := by decide +kernel
theorem dX3_takeLowestCampaign_37 : decode cX3_takeLowestCampaign 37 = .ok (.getfield 133, 3) := by decide +kernel
theorem dX3_takeLowestCampaign_40 : decode cX3_takeLowestCampaign 40 = .ok (.invokevirtual 77, 3) := by decide +kernel
theorem dX3_takeLowestCampaign_43 : decode cX3_takeLowestCampaign 43 = .ok (.invokevirtual 202, 3) := by decide +kernel
theorem dX3_takeLowestCampaign_46 : decode cX3_takeLowestCampaign 46 = .ok (.return_, 1) := by decide +kernel
theorem dX3_takeLowestCampaign_47 : decode cX3_takeLowestCampaign 47 = .ok (.iinc 2 1, 3) := by decide +kernel
theorem dX3_takeLowestCampaign_50 : decode cX3_takeLowestCampaign 50 = .ok (.goto (-48), 3) := by decide +kernel
theorem dX3_takeLowestCampaign_53 : decode cX3_takeLowestCampaign 53 = .ok (.return_, 1) := by decide +kernel
theorem dX3_mayTake_0 : decode cX3_mayTake 0 = .ok (.aload_n 1, 1) := by decide +kernel
theorem dX3_mayTake_1 : decode cX3_mayTake 1 = .ok (.getfield 121, 3) := by decide +kernel
theorem dX3_mayTake_4 : decode cX3_mayTake 4 = .ok (.ifCond .ne 53, 3) := by decide +kernel
theorem dX3_mayTake_7 : decode cX3_mayTake 7 = .ok (.aload_n 2, 1) := by decide +kernel
theorem dX3_mayTake_8 : decode cX3_mayTake 8 = .ok (.aload_n 1, 1) := by decide +kernel
theorem dX3_mayTake_9 : decode cX3_mayTake 9 = .ok (.invokevirtual 206, 3) := by decide +kernel
theorem dX3_mayTake_12 : decode cX3_mayTake 12 = .ok (.ifCond .eq 45, 3) := by decide +kernel
theorem dX3_mayTake_15 : decode cX3_mayTake 15 = .ok (.aload_n 0, 1) := by decide +kernel
theorem dX3_mayTake_16 : decode cX3_mayTake 16 = .ok (.getfield 9, 3) := by decide +kernel
theorem dX3_mayTake_19 : decode cX3_mayTake 19 = .ok (.aload_n 2, 1) := by decide +kernel
theorem dX3_mayTake_20 : decode cX3_mayTake 20 = .ok (.getfield 133, 3) := by decide +kernel
theorem dX3_mayTake_23 : decode cX3_mayTake 23 = .ok (.iaload, 1) := by decide +kernel
theorem dX3_mayTake_24 : decode cX3_mayTake 24 = .ok (.aload_n 1, 1) := by decide +kernel
theorem dX3_mayTake_25 : decode cX3_mayTake 25 = .ok (.getfield 99, 3) := by decide +kernel
theorem dX3_mayTake_28 : decode cX3_mayTake 28 = .ok (.invokestatic 93, 3) := by decide +kernel
theorem dX3_mayTake_31 : decode cX3_mayTake 31 = .ok (.ifCond .eq 26, 3) := by decide +kernel
theorem dX3_mayTake_34 : decode cX3_mayTake 34 = .ok (.aload_n 0, 1) := by decide +kernel
theorem dX3_mayTake_35 : decode cX3_mayTake 35 = .ok (.getfield 16, 3) := by decide +kernel
theorem dX3_mayTake_38 : decode cX3_mayTake 38 = .ok (.aload_n 1, 1) := by decide +kernel
theorem dX3_mayTake_39 : decode cX3_mayTake 39 = .ok (.getfield 102, 3) := by decide +kernel
theorem dX3_mayTake_42 : decode cX3_mayTake 42 = .ok (.aload_n 2, 1) := by decide +kernel
theorem dX3_mayTake_43 : decode cX3_mayTake 43 = .ok (.getfield 133, 3) := by decide +kernel
theorem dX3_mayTake_46 : decode cX3_mayTake 46 = .ok (.invokevirtual 77, 3) := by decide +kernel
theorem dX3_mayTake_49 : decode cX3_mayTake 49 = .ok (.iconst (-1), 1) := by decide +kernel
theorem dX3_mayTake_50 : decode cX3_mayTake 50 = .ok (.if_icmp .eq 7, 3) := by decide +kernel
theorem dX3_mayTake_53 : decode cX3_mayTake 53 = .ok (.iconst 1, 1) := by decide +kernel
theorem dX3_mayTake_54 : decode cX3_mayTake 54 = .ok (.goto 4, 3) := by decide +kernel
theorem dX3_mayTake_57 : decode cX3_mayTake 57 = .ok (.iconst 0, 1) := by decide +kernel
theorem dX3_mayTake_58 : decode cX3_mayTake 58 = .ok (.ireturn, 1) := by decide +kernel
theorem dX3_deviceAt_0 : decode cX3_deviceAt 0 = .ok (.iload_n 1, 1) := by decide +kernel
theorem dX3_deviceAt_1 : decode cX3_deviceAt 1 = .ok (.ifCond .lt 11, 3) := by decide +kernel
theorem dX3_deviceAt_4 : decode cX3_deviceAt 4 = .ok (.iload_n 1, 1) := by decide +kernel
theorem dX3_deviceAt_5 : decode cX3_deviceAt 5 = .ok (.aload_n 0, 1) := by decide +kernel
theorem dX3_deviceAt_6 : decode cX3_deviceAt 6 = .ok (.getfield 32, 3) := by decide +kernel
theorem dX3_deviceAt_9 : decode cX3_deviceAt 9 = .ok (.if_icmp .lt 13, 3) := by decide +kernel
theorem dX3_deviceAt_12 : decode cX3_deviceAt 12 = .ok (.new 83, 3) := by decide +kernel
theorem dX3_deviceAt_15 : decode cX3_deviceAt 15 = .ok (.dup, 1) := by decide +kernel
theorem dX3_deviceAt_16 : decode cX3_deviceAt 16 = .ok (.ldc 210, 2) := by decide +kernel
theorem dX3_deviceAt_18 : decode cX3_deviceAt 18 = .ok (.invokespecial 87, 3) := by decide +kernel
theorem dX3_deviceAt_21 : decode cX3_deviceAt 21 = .ok (.athrow, 1) := by decide +kernel
theorem dX3_deviceAt_22 : decode cX3_deviceAt 22 = .ok (.aload_n 0, 1) := by decide +kernel
theorem dX3_deviceAt_23 : decode cX3_deviceAt 23 = .ok (.getfield 22, 3) := by decide +kernel
theorem dX3_deviceAt_26 : decode cX3_deviceAt 26 = .ok (.iload_n 1, 1) := by decide +kernel
theorem dX3_deviceAt_27 : decode cX3_deviceAt 27 = .ok (.aaload, 1) := by decide +kernel
theorem dX3_deviceAt_28 : decode cX3_deviceAt 28 = .ok (.areturn, 1) := by decide +kernel
theorem dX3_campaignAt_0 : decode cX3_campaignAt 0 = .ok (.aload_n 0, 1) := by decide +kernel
theorem dX3_campaignAt_1 : decode cX3_campaignAt 1 = .ok (.iload_n 1, 1) := by decide +kernel
theorem dX3_campaignAt_2 : decode cX3_campaignAt 2 = .ok (.invokevirtual 146, 3) := by decide +kernel
theorem dX3_campaignAt_5 : decode cX3_campaignAt 5 = .ok (.aload_n 0, 1) := by decide +kernel
theorem dX3_campaignAt_6 : decode cX3_campaignAt 6 = .ok (.getfield 28, 3) := by decide +kernel
theorem dX3_campaignAt_9 : decode cX3_campaignAt 9 = .ok (.iload_n 1, 1) := by decide +kernel
theorem dX3_campaignAt_10 : decode cX3_campaignAt 10 = .ok (.aaload, 1) := by decide +kernel
theorem dX3_campaignAt_11 : decode cX3_campaignAt 11 = .ok (.areturn, 1) := by decide +kernel
theorem dX3_needCampaign_0 : decode cX3_needCampaign 0 = .ok (.iload_n 1, 1) := by decide +kernel
theorem dX3_needCampaign_1 : decode cX3_needCampaign 1 = .ok (.ifCond .lt 11, 3) := by decide +kernel
theorem dX3_needCampaign_4 : decode cX3_needCampaign 4 = .ok (.iload_n 1, 1) := by decide +kernel
theorem dX3_needCampaign_5 : decode cX3_needCampaign 5 = .ok (.aload_n 0, 1) := by decide +kernel
theorem dX3_needCampaign_6 : decode cX3_needCampaign 6 = .ok (.getfield 36, 3) := by decide +kernel
theorem dX3_needCampaign_9 : decode cX3_needCampaign 9 = .ok (.if_icmp .lt 13, 3) := by decide +kernel
theorem dX3_needCampaign_12 : decode cX3_needCampaign 12 = .ok (.new 83, 3) := by decide +kernel
theorem dX3_needCampaign_15 : decode cX3_needCampaign 15 = .ok (.dup, 1) := by decide +kernel
theorem dX3_needCampaign_16 : decode cX3_needCampaign 16 = .ok (.ldc 212, 2) := by decide +kernel
theorem dX3_needCampaign_18 : decode cX3_needCampaign 18 = .ok (.invokespecial 87, 3) := by decide +kernel
theorem dX3_needCampaign_21 : decode cX3_needCampaign 21 = .ok (.athrow, 1) := by decide +kernel
theorem dX3_needCampaign_22 : decode cX3_needCampaign 22 = .ok (.return_, 1) := by decide +kernel
theorem dX3_needVersion_0 : decode cX3_needVersion 0 = .ok (.iload_n 0, 1) := by decide +kernel
theorem dX3_needVersion_1 : decode cX3_needVersion 1 = .ok (.ifCond .lt 9, 3) := by decide +kernel
theorem dX3_needVersion_4 : decode cX3_needVersion 4 = .ok (.iload_n 0, 1) := by decide +kernel
theorem dX3_needVersion_5 : decode cX3_needVersion 5 = .ok (.bipush 8, 2) := by decide +kernel
theorem dX3_needVersion_7 : decode cX3_needVersion 7 = .ok (.if_icmp .lt 13, 3) := by decide +kernel
theorem dX3_needVersion_10 : decode cX3_needVersion 10 = .ok (.new 83, 3) := by decide +kernel
theorem dX3_needVersion_13 : decode cX3_needVersion 13 = .ok (.dup, 1) := by decide +kernel
theorem dX3_needVersion_14 : decode cX3_needVersion 14 = .ok (.ldc 214, 2) := by decide +kernel
theorem dX3_needVersion_16 : decode cX3_needVersion 16 = .ok (.invokespecial 87, 3) := by decide +kernel
theorem dX3_needVersion_19 : decode cX3_needVersion 19 = .ok (.athrow, 1) := by decide +kernel
theorem dX3_needVersion_20 : decode cX3_needVersion 20 = .ok (.return_, 1) := by decide +kernel
theorem dX3_needBytesOrNone_0 : decode cX3_needBytesOrNone 0 = .ok (.iload_n 0, 1) := by decide +kernel
theorem dX3_needBytesOrNone_1 : decode cX3_needBytesOrNone 1 = .ok (.iconst (-1), 1) := by decide +kernel
theorem dX3_needBytesOrNone_2 : decode cX3_needBytesOrNone 2 = .ok (.if_icmp .eq 10, 3) := by decide +kernel
theorem dX3_needBytesOrNone_5 : decode cX3_needBytesOrNone 5 = .ok (.iload_n 0, 1) := by decide +kernel
theorem dX3_needBytesOrNone_6 : decode cX3_needBytesOrNone 6 = .ok (.iconst 1, 1) := by decide +kernel
theorem dX3_needBytesOrNone_7 : decode cX3_needBytesOrNone 7 = .ok (.ldc 216, 2) := by decide +kernel
theorem dX3_needBytesOrNone_9 : decode cX3_needBytesOrNone 9 = .ok (.invokestatic 55, 3) := by decide +kernel
theorem dX3_needBytesOrNone_12 : decode cX3_needBytesOrNone 12 = .ok (.return_, 1) := by decide +kernel
theorem dX3_needRange_0 : decode cX3_needRange 0 = .ok (.iload_n 0, 1) := by decide +kernel
theorem dX3_needRange_1 : decode cX3_needRange 1 = .ok (.iload_n 1, 1) := by decide +kernel
theorem dX3_needRange_2 : decode cX3_needRange 2 = .ok (.if_icmp .lt 8, 3) := by decide +kernel
theorem dX3_needRange_5 : decode cX3_needRange 5 = .ok (.iload_n 0, 1) := by decide +kernel
theorem dX3_needRange_6 : decode cX3_needRange 6 = .ok (.iload_n 2, 1) := by decide +kernel
theorem dX3_needRange_7 : decode cX3_needRange 7 = .ok (.if_icmp .le 13, 3) := by decide +kernel
theorem dX3_needRange_10 : decode cX3_needRange 10 = .ok (.new 66, 3) := by decide +kernel
theorem dX3_needRange_13 : decode cX3_needRange 13 = .ok (.dup, 1) := by decide +kernel
theorem dX3_needRange_14 : decode cX3_needRange 14 = .ok (.ldc 217, 2) := by decide +kernel
theorem dX3_needRange_16 : decode cX3_needRange 16 = .ok (.invokespecial 70, 3) := by decide +kernel
theorem dX3_needRange_19 : decode cX3_needRange 19 = .ok (.athrow, 1) := by decide +kernel
theorem dX3_needRange_20 : decode cX3_needRange 20 = .ok (.return_, 1) := by decide +kernel
theorem dX3_has_0 : decode cX3_has 0 = .ok (.iload_n 0, 1) := by decide +kernel
theorem dX3_has_1 : decode cX3_has 1 = .ok (.iload_n 1, 1) := by decide +kernel
theorem dX3_has_2 : decode cX3_has 2 = .ok (.ishr, 1) := by decide +kernel
theorem dX3_has_3 : decode cX3_has 3 = .ok (.iconst 1, 1) := by decide +kernel
theorem dX3_has_4 : decode cX3_has 4 = .ok (.iand, 1) := by decide +kernel
theorem dX3_has_5 : decode cX3_has 5 = .ok (.iconst 1, 1) := by decide +kernel
theorem dX3_has_6 : decode cX3_has 6 = .ok (.if_icmp .ne 7, 3) := by decide +kernel
theorem dX3_has_9 : decode cX3_has 9 = .ok (.iconst 1, 1) := by decide +kernel
theorem dX3_has_10 : decode cX3_has 10 = .ok (.goto 4, 3) := by decide +kernel
theorem dX3_has_13 : decode cX3_has 13 = .ok (.iconst 0, 1) := by decide +kernel
theorem dX3_has_14 : decode cX3_has 14 = .ok (.ireturn, 1) := by decide +kernel
theorem dJ7_fill_53178_0 : decode cJ7_fill_53178 0 = .ok (.iconst 0, 1) := by decide +kernel
theorem dJ7_fill_53178_1 : decode cJ7_fill_53178 1 = .ok (.istore_n 2, 1) := by decide +kernel
theorem dJ7_fill_53178_2 : decode cJ7_fill_53178 2 = .ok (.aload_n 0, 1) := by decide +kernel
theorem dJ7_fill_53178_3 : decode cJ7_fill_53178 3 = .ok (.arraylength, 1) := by decide +kernel
theorem dJ7_fill_53178_4 : decode cJ7_fill_53178 4 = .ok (.istore_n 3, 1) := by decide +kernel
theorem dJ7_fill_53178_5 : decode cJ7_fill_53178 5 = .ok (.iload_n 2, 1) := by decide +kernel
theorem dJ7_fill_53178_6 : decode cJ7_fill_53178 6 = .ok (.iload_n 3, 1) := by decide +kernel
theorem dJ7_fill_53178_7 : decode cJ7_fill_53178 7 = .ok (.if_icmp .ge 13, 3) := by decide +kernel
theorem dJ7_fill_53178_10 : decode cJ7_fill_53178 10 = .ok (.aload_n 0, 1) := by decide +kernel
theorem dJ7_fill_53178_11 : decode cJ7_fill_53178 11 = .ok (.iload_n 2, 1) := by decide +kernel
theorem dJ7_fill_53178_12 : decode cJ7_fill_53178 12 = .ok (.iload_n 1, 1) := by decide +kernel
theorem dJ7_fill_53178_13 : decode cJ7_fill_53178 13 = .ok (.iastore, 1) := by decide +kernel
theorem dJ7_fill_53178_14 : decode cJ7_fill_53178 14 = .ok (.iinc 2 1, 3) := by decide +kernel
theorem dJ7_fill_53178_17 : decode cJ7_fill_53178 17 = .ok (.goto (-12), 3) := by decide +kernel
theorem dJ7_fill_53178_20 : decode cJ7_fill_53178 20 = .ok (.return_, 1) := by decide +kernel
theorem dJ9_max_7cf53_0 : decode cJ9_max_7cf53 0 = .ok (.iload_n 0, 1) := by decide +kernel
theorem dJ9_max_7cf53_1 : decode cJ9_max_7cf53 1 = .ok (.iload_n 1, 1) := by decide +kernel
theorem dJ9_max_7cf53_2 : decode cJ9_max_7cf53 2 = .ok (.if_icmp .lt 7, 3) := by decide +kernel
theorem dJ9_max_7cf53_5 : decode cJ9_max_7cf53 5 = .ok (.iload_n 0, 1) := by decide +kernel
theorem dJ9_max_7cf53_6 : decode cJ9_max_7cf53 6 = .ok (.goto 4, 3) := by decide +kernel
theorem dJ9_max_7cf53_9 : decode cJ9_max_7cf53 9 = .ok (.iload_n 1, 1) := by decide +kernel
theorem dJ9_max_7cf53_10 : decode cJ9_max_7cf53 10 = .ok (.ireturn, 1) := by decide +kernel
theorem dJ9_min_7cf53_0 : decode cJ9_min_7cf53 0 = .ok (.iload_n 0, 1) := by decide +kernel
theorem dJ9_min_7cf53_1 : decode cJ9_min_7cf53 1 = .ok (.iload_n 1, 1) := by decide +kernel
theorem dJ9_min_7cf53_2 : decode cJ9_min_7cf53 2 = .ok (.if_icmp .gt 7, 3) := by decide +kernel
theorem dJ9_min_7cf53_5 : decode cJ9_min_7cf53 5 = .ok (.iload_n 0, 1) := by decide +kernel
theorem dJ9_min_7cf53_6 : decode cJ9_min_7cf53 6 = .ok (.goto 4, 3) := by decide +kernel
theorem dJ9_min_7cf53_9 : decode cJ9_min_7cf53 9 = .ok (.iload_n 1, 1) := by decide +kernel
theorem dJ9_min_7cf53_10 : decode cJ9_min_7cf53 10 = .ok (.ireturn, 1) := by decide +kernel
end
section
theorem dX4_init_0 : decode cX4_init 0 = .ok (.aload_n 0, 1) := by decide +kernel
theorem dX4_init_1 : decode cX4_init 1 = .ok (.invokespecial 1, 3) := by decide +kernel
theorem dX4_init_4 : decode cX4_init 4 = .ok (.aload_n 0, 1) := by decide +kernel
theorem dX4_init_5 : decode cX4_init 5 = .ok (.bipush 8, 2) := by decide +kernel
theorem dX4_init_7 : decode cX4_init 7 = .ok (.newarray .int, 2) := by decide +kernel
theorem dX4_init_9 : decode cX4_init 9 = .ok (.putfield 7, 3) := by decide +kernel
theorem dX4_init_12 : decode cX4_init 12 = .ok (.aload_n 0, 1) := by decide +kernel
theorem dX4_init_13 : decode cX4_init 13 = .ok (.bipush 8, 2) := by decide +kernel
theorem dX4_init_15 : decode cX4_init 15 = .ok (.newarray .int, 2) := by decide +kernel
theorem dX4_init_17 : decode cX4_init 17 = .ok (.putfield 13, 3) := by decide +kernel
theorem dX4_init_20 : decode cX4_init 20 = .ok (.aload_n 0, 1) := by decide +kernel
theorem dX4_init_21 : decode cX4_init 21 = .ok (.bipush 64, 2) := by decide +kernel
theorem dX4_init_23 : decode cX4_init 23 = .ok (.newarray .int, 2) := by decide +kernel
theorem dX4_init_25 : decode cX4_init 25 = .ok (.putfield 16, 3) := by decide +kernel
theorem dX4_init_28 : decode cX4_init 28 = .ok (.aload_n 0, 1) := by decide +kernel
theorem dX4_init_29 : decode cX4_init 29 = .ok (.bipush 8, 2) := by decide +kernel
theorem dX4_init_31 : decode cX4_init 31 = .ok (.newarray .int, 2) := by decide +kernel
theorem dX4_init_33 : decode cX4_init 33 = .ok (.putfield 19, 3) := by decide +kernel
theorem dX4_init_36 : decode cX4_init 36 = .ok (.aload_n 0, 1) := by decide +kernel
theorem dX4_init_37 : decode cX4_init 37 = .ok (.bipush 10, 2) := by decide +kernel
theorem dX4_init_39 : decode cX4_init 39 = .ok (.newarray .int, 2) := by decide +kernel
theorem dX4_init_41 : decode cX4_init 41 = .ok (.putfield 22, 3) := by decide +kernel
theorem dX4_init_44 : decode cX4_init 44 = .ok (.aload_n 0, 1) := by decide +kernel
theorem dX4_init_45 : decode cX4_init 45 = .ok (.bipush 10, 2) := by decide +kernel
theorem dX4_init_47 : decode cX4_init 47 = .ok (.newarray .int, 2) := by decide +kernel
theorem dX4_init_49 : decode cX4_init 49 = .ok (.putfield 25, 3) := by decide +kernel
theorem dX4_init_52 : decode cX4_init 52 = .ok (.aload_n 0, 1) := by decide +kernel
theorem dX4_init_53 : decode cX4_init 53 = .ok (.bipush 10, 2) := by decide +kernel
theorem dX4_init_55 : decode cX4_init 55 = .ok (.newarray .int, 2) := by decide +kernel
theorem dX4_init_57 : decode cX4_init 57 = .ok (.putfield 28, 3) := by decide +kernel
theorem dX4_init_60 : decode cX4_init 60 = .ok (.aload_n 0, 1) := by decide +kernel
theorem dX4_init_61 : decode cX4_init 61 = .ok (.bipush 10, 2) := by decide +kernel
theorem dX4_init_63 : decode cX4_init 63 = .ok (.newarray .int, 2) := by decide +kernel
theorem dX4_init_65 : decode cX4_init 65 = .ok (.putfield 31, 3) := by decide +kernel
theorem dX4_init_68 : decode cX4_init 68 = .ok (.aload_n 0, 1) := by decide +kernel
theorem dX4_init_69 : decode cX4_init 69 = .ok (.bipush 10, 2) := by decide +kernel
theorem dX4_init_71 : decode cX4_init 71 = .ok (.newarray .int, 2) := by decide +kernel
theorem dX4_init_73 : decode cX4_init 73 = .ok (.putfield 34, 3) := by decide +kernel
theorem dX4_init_76 : decode cX4_init 76 = .ok (.aload_n 0, 1) := by decide +kernel
theorem dX4_init_77 : decode cX4_init 77 = .ok (.bipush 10, 2) := by decide +kernel
theorem dX4_init_79 : decode cX4_init 79 = .ok (.newarray .int, 2) := by decide +kernel
theorem dX4_init_81 : decode cX4_init 81 = .ok (.putfield 37, 3) := by decide +kernel
theorem dX4_init_84 : decode cX4_init 84 = .ok (.aload_n 0, 1) := by decide +kernel
theorem dX4_init_85 : decode cX4_init 85 = .ok (.bipush 10, 2) := by decide +kernel
theorem dX4_init_87 : decode cX4_init 87 = .ok (.newarray .int, 2) := by decide +kernel
theorem dX4_init_89 : decode cX4_init 89 = .ok (.putfield 40, 3) := by decide +kernel
theorem dX4_init_92 : decode cX4_init 92 = .ok (.aload_n 0, 1) := by decide +kernel
theorem dX4_init_93 : decode cX4_init 93 = .ok (.bipush 10, 2) := by decide +kernel
theorem dX4_init_95 : decode cX4_init 95 = .ok (.newarray .int, 2) := by decide +kernel
theorem dX4_init_97 : decode cX4_init 97 = .ok (.putfield 43, 3) := by decide +kernel
theorem dX4_init_100 : decode cX4_init 100 = .ok (.aload_n 0, 1) := by decide +kernel
theorem dX4_init_101 : decode cX4_init 101 = .ok (.bipush 6, 2) := by decide +kernel
theorem dX4_init_103 : decode cX4_init 103 = .ok (.newarray .int, 2) := by decide +kernel
theorem dX4_init_105 : decode cX4_init 105 = .ok (.putfield 46, 3) := by decide +kernel
theorem dX4_init_108 : decode cX4_init 108 = .ok (.aload_n 0, 1) := by decide +kernel
theorem dX4_init_109 : decode cX4_init 109 = .ok (.bipush 6, 2) := by decide +kernel
theorem dX4_init_111 : decode cX4_init 111 = .ok (.newarray .int, 2) := by decide +kernel
theorem dX4_init_113 : decode cX4_init 113 = .ok (.putfield 49, 3) := by decide +kernel
theorem dX4_init_116 : decode cX4_init 116 = .ok (.aload_n 0, 1) := by decide +kernel
theorem dX4_init_117 : decode cX4_init 117 = .ok (.bipush 6, 2) := by decide +kernel
theorem dX4_init_119 : decode cX4_init 119 = .ok (.newarray .int, 2) := by decide +kernel
theorem dX4_init_121 : decode cX4_init 121 = .ok (.putfield 52, 3) := by decide +kernel
theorem dX4_init_124 : decode cX4_init 124 = .ok (.aload_n 0, 1) := by decide +kernel
theorem dX4_init_125 : decode cX4_init 125 = .ok (.bipush 6, 2) := by decide +kernel
theorem dX4_init_127 : decode cX4_init 127 = .ok (.newarray .boolean, 2) := by decide +kernel
theorem dX4_init_129 : decode cX4_init 129 = .ok (.putfield 55, 3) := by decide +kernel
theorem dX4_init_132 : decode cX4_init 132 = .ok (.aload_n 0, 1) := by decide +kernel
theorem dX4_init_133 : decode cX4_init 133 = .ok (.bipush 6, 2) := by decide +kernel
theorem dX4_init_135 : decode cX4_init 135 = .ok (.newarray .int, 2) := by decide +kernel
theorem dX4_init_137 : decode cX4_init 137 = .ok (.putfield 59, 3) := by decide +kernel
theorem dX4_init_140 : decode cX4_init 140 = .ok (.aload_n 0, 1) := by decide +kernel
theorem dX4_init_141 : decode cX4_init 141 = .ok (.bipush 18, 2) := by decide +kernel
theorem dX4_init_143 : decode cX4_init 143 = .ok (.newarray .int, 2) := by decide +kernel
theorem dX4_init_145 : decode cX4_init 145 = .ok (.putfield 62, 3) := by decide +kernel
theorem dX4_init_148 : decode cX4_init 148 = .ok (.aload_n 0, 1) := by decide +kernel
theorem dX4_init_149 : decode cX4_init 149 = .ok (.bipush 6, 2) := by decide +kernel
theorem dX4_init_151 : decode cX4_init 151 = .ok (.newarray .int, 2) := by decide +kernel
theorem dX4_init_153 : decode cX4_init 153 = .ok (.putfield 65, 3) := by decide +kernel
theorem dX4_init_156 : decode cX4_init 156 = .ok (.aload_n 0, 1) := by decide +kernel
theorem dX4_init_157 : decode cX4_init 157 = .ok (.bipush 6, 2) := by decide +kernel
theorem dX4_init_159 : decode cX4_init 159 = .ok (.newarray .int, 2) := by decide +kernel
theorem dX4_init_161 : decode cX4_init 161 = .ok (.putfield 68, 3) := by decide +kernel
theorem dX4_init_164 : decode cX4_init 164 = .ok (.aload_n 0, 1) := by decide +kernel
theorem dX4_init_165 : decode cX4_init 165 = .ok (.bipush 6, 2) := by decide +kernel
theorem dX4_init_167 : decode cX4_init 167 = .ok (.newarray .int, 2) := by decide +kernel
theorem dX4_init_169 : decode cX4_init 169 = .ok (.putfield 71, 3) := by decide +kernel
theorem dX4_init_172 : decode cX4_init 172 = .ok (.aload_n 0, 1) := by decide +kernel
theorem dX4_init_173 : decode cX4_init 173 = .ok (.bipush 6, 2) := by decide +kernel
theorem dX4_init_175 : decode cX4_init 175 = .ok (.newarray .int, 2) := by decide +kernel
theorem dX4_init_177 : decode cX4_init 177 = .ok (.putfield 74, 3) := by decide +kernel
theorem dX4_init_180 : decode cX4_init 180 = .ok (.aload_n 0, 1) := by decide +kernel
theorem dX4_init_181 : decode cX4_init 181 = .ok (.bipush 6, 2) := by decide +kernel
theorem dX4_init_183 : decode cX4_init 183 = .ok (.newarray .int, 2) := by decide +kernel
theorem dX4_init_185 : decode cX4_init 185 = .ok (.putfield 77, 3) := by decide +kernel
theorem dX4_init_188 : decode cX4_init 188 = .ok (.iconst 0, 1) := by decide +kernel
theorem dX4_init_189 : decode cX4_init 189 = .ok (.istore_n 1, 1) := by decide +kernel
theorem dX4_init_190 : decode cX4_init 190 = .ok (.iload_n 1, 1) := by decide +kernel
theorem dX4_init_191 : decode cX4_init 191 = .ok (.bipush 8, 2) := by decide +kernel
theorem dX4_init_193 : decode cX4_init 193 = .ok (.if_icmp .ge 24, 3) := by decide +kernel
theorem dX4_init_196 : decode cX4_init 196 = .ok (.aload_n 0, 1) := by decide +kernel
theorem dX4_init_197 : decode cX4_init 197 = .ok (.getfield 7, 3) := by decide +kernel
theorem dX4_init_200 : decode cX4_init 200 = .ok (.iload_n 1, 1) := by decide +kernel
theorem dX4_init_201 : decode cX4_init 201 = .ok (.bipush 15, 2) := by decide +kernel
theorem dX4_init_203 : decode cX4_init 203 = .ok (.iastore, 1) := by decide +kernel
theorem dX4_init_204 : decode cX4_init 204 = .ok (.aload_n 0, 1) := by decide +kernel
theorem dX4_init_205 : decode cX4_init 205 = .ok (.getfield 13, 3) := by decide +kernel
theorem dX4_init_208 : decode cX4_init 208 = .ok (.iload_n 1, 1) := by decide +kernel
theorem dX4_init_209 : decode cX4_init 209 = .ok (.iconst (-1), 1) := by decide +kernel
theorem dX4_init_210 : decode cX4_init 210 = .ok (.iastore, 1) := by decide +kernel
theorem dX4_init_211 : decode cX4_init 211 = .ok (.iinc 1 1, 3) := by decide +kernel
theorem dX4_init_214 : decode cX4_init 214 = .ok (.goto (-24), 3) := by decide +kernel
theorem dX4_init_217 : decode cX4_init 217 = .ok (.iconst 0, 1) := by decide +kernel
theorem dX4_init_218 : decode cX4_init 218 = .ok (.istore_n 1, 1) := by decide +kernel
theorem dX4_init_219 : decode cX4_init 219 = .ok (.iload_n 1, 1) := by decide +kernel
theorem dX4_init_220 : decode cX4_init 220 = .ok (.bipush 64, 2) := by decide +kernel
theorem dX4_init_222 : decode cX4_init 222 = .ok (.if_icmp .ge 16, 3) := by decide +kernel
theorem dX4_init_225 : decode cX4_init 225 = .ok (.aload_n 0, 1) := by decide +kernel
theorem dX4_init_226 : decode cX4_init 226 = .ok (.getfield 16, 3) := by decide +kernel
theorem dX4_init_229 : decode cX4_init 229 = .ok (.iload_n 1, 1) := by decide +kernel
theorem dX4_init_230 : decode cX4_init 230 = .ok (.iconst (-1), 1) := by decide +kernel
theorem dX4_init_231 : decode cX4_init 231 = .ok (.iastore, 1) := by decide +kernel
theorem dX4_init_232 : decode cX4_init 232 = .ok (.iinc 1 1, 3) := by decide +kernel
theorem dX4_init_235 : decode cX4_init 235 = .ok (.goto (-16), 3) := by decide +kernel
theorem dX4_init_238 : decode cX4_init 238 = .ok (.return_, 1) := by decide +kernel
theorem dX4_thrown_0 : decode cX4_thrown 0 = .ok (.aload_n 0, 1) := by decide +kernel
theorem dX4_thrown_1 : decode cX4_thrown 1 = .ok (.getfield 80, 3) := by decide +kernel
theorem dX4_thrown_4 : decode cX4_thrown 4 = .ok (.ireturn, 1) := by decide +kernel
theorem dX4_refused_0 : decode cX4_refused 0 = .ok (.aload_n 0, 1) := by decide +kernel
theorem dX4_refused_1 : decode cX4_refused 1 = .ok (.iload_n 1, 1) := by decide +kernel
theorem dX4_refused_2 : decode cX4_refused 2 = .ok (.putfield 80, 3) := by decide +kernel
theorem dX4_refused_5 : decode cX4_refused 5 = .ok (.iload_n 1, 1) := by decide +kernel
theorem dX4_refused_6 : decode cX4_refused 6 = .ok (.ifCond .eq 7, 3) := by decide +kernel
theorem dX4_refused_9 : decode cX4_refused 9 = .ok (.iconst 1, 1) := by decide +kernel
theorem dX4_refused_10 : decode cX4_refused 10 = .ok (.goto 4, 3) := by decide +kernel
theorem dX4_refused_13 : decode cX4_refused 13 = .ok (.iconst 0, 1) := by decide +kernel
theorem dX4_refused_14 : decode cX4_refused 14 = .ok (.ireturn, 1) := by decide +kernel
theorem dX4_fine_0 : decode cX4_fine 0 = .ok (.aload_n 0, 1) := by decide +kernel
theorem dX4_fine_1 : decode cX4_fine 1 = .ok (.iconst 0, 1) := by decide +kernel
theorem dX4_fine_2 : decode cX4_fine 2 = .ok (.putfield 80, 3) := by decide +kernel
theorem dX4_fine_5 : decode cX4_fine 5 = .ok (.iload_n 1, 1) := by decide +kernel
theorem dX4_fine_6 : decode cX4_fine 6 = .ok (.ireturn, 1) := by decide +kernel
theorem dX4_in_0 : decode cX4_in 0 = .ok (.iload_n 0, 1) := by decide +kernel
theorem dX4_in_1 : decode cX4_in 1 = .ok (.iload_n 1, 1) := by decide +kernel
theorem dX4_in_2 : decode cX4_in 2 = .ok (.if_icmp .lt 12, 3) := by decide +kernel
theorem dX4_in_5 : decode cX4_in 5 = .ok (.iload_n 0, 1) := by decide +kernel
theorem dX4_in_6 : decode cX4_in 6 = .ok (.iload_n 2, 1) := by decide +kernel
theorem dX4_in_7 : decode cX4_in 7 = .ok (.if_icmp .gt 7, 3) := by decide +kernel
theorem dX4_in_10 : decode cX4_in 10 = .ok (.iconst 1, 1) := by decide +kernel
theorem dX4_in_11 : decode cX4_in 11 = .ok (.goto 4, 3) := by decide +kernel
theorem dX4_in_14 : decode cX4_in 14 = .ok (.iconst 0, 1) := by decide +kernel
theorem dX4_in_15 : decode cX4_in 15 = .ok (.ireturn, 1) := by decide +kernel
theorem dX4_isVersion_0 : decode cX4_isVersion 0 = .ok (.iload_n 0, 1) := by decide +kernel
theorem dX4_isVersion_1 : decode cX4_isVersion 1 = .ok (.iconst 0, 1) := by decide +kernel
theorem dX4_isVersion_2 : decode cX4_isVersion 2 = .ok (.bipush 7, 2) := by decide +kernel
theorem dX4_isVersion_4 : decode cX4_isVersion 4 = .ok (.invokestatic 84, 3) := by decide +kernel
theorem dX4_isVersion_7 : decode cX4_isVersion 7 = .ok (.ireturn, 1) := by decide +kernel
theorem dX4_isSize_0 : decode cX4_isSize 0 = .ok (.iload_n 0, 1) := by decide +kernel
theorem dX4_isSize_1 : decode cX4_isSize 1 = .ok (.iconst (-1), 1) := by decide +kernel
theorem dX4_isSize_2 : decode cX4_isSize 2 = .ok (.if_icmp .eq 13, 3) := by decide +kernel
theorem dX4_isSize_5 : decode cX4_isSize 5 = .ok (.iload_n 0, 1) := by decide +kernel
theorem dX4_isSize_6 : decode cX4_isSize 6 = .ok (.iconst 1, 1) := by decide +kernel
theorem dX4_isSize_7 : decode cX4_isSize 7 = .ok (.ldc 88, 2) := by decide +kernel
theorem dX4_isSize_9 : decode cX4_isSize 9 = .ok (.invokestatic 84, 3) := by decide +kernel
theorem dX4_isSize_12 : decode cX4_isSize 12 = .ok (.ifCond .eq 7, 3) := by decide +kernel
theorem dX4_isSize_15 : decode cX4_isSize 15 = .ok (.iconst 1, 1) := by decide +kernel
theorem dX4_isSize_16 : decode cX4_isSize 16 = .ok (.goto 4, 3) := by decide +kernel
theorem dX4_isSize_19 : decode cX4_isSize 19 = .ok (.iconst 0, 1) := by decide +kernel
theorem dX4_isSize_20 : decode cX4_isSize 20 = .ok (.ireturn, 1) := by decide +kernel
theorem dX4_isDevice_0 : decode cX4_isDevice 0 = .ok (.iload_n 1, 1) := by decide +kernel
theorem dX4_isDevice_1 : decode cX4_isDevice 1 = .ok (.iconst 0, 1) := by decide +kernel
theorem dX4_isDevice_2 : decode cX4_isDevice 2 = .ok (.aload_n 0, 1) := by decide +kernel
theorem dX4_isDevice_3 : decode cX4_isDevice 3 = .ok (.getfield 89, 3) := by decide +kernel
theorem dX4_isDevice_6 : decode cX4_isDevice 6 = .ok (.iconst 1, 1) := by decide +kernel
theorem dX4_isDevice_7 : decode cX4_isDevice 7 = .ok (.isub, 1) := by decide +kernel
theorem dX4_isDevice_8 : decode cX4_isDevice 8 = .ok (.invokestatic 84, 3) := by decide +kernel
theorem dX4_isDevice_11 : decode cX4_isDevice 11 = .ok (.ireturn, 1) := by decide +kernel
theorem dX4_isCampaign_0 : decode cX4_isCampaign 0 = .ok (.iload_n 1, 1) := by decide +kernel
theorem dX4_isCampaign_1 : decode cX4_isCampaign 1 = .ok (.iconst 0, 1) := by decide +kernel
theorem dX4_isCampaign_2 : decode cX4_isCampaign 2 = .ok (.aload_n 0, 1) := by decide +kernel
theorem dX4_isCampaign_3 : decode cX4_isCampaign 3 = .ok (.getfield 92, 3) := by decide +kernel
theorem dX4_isCampaign_6 : decode cX4_isCampaign 6 = .ok (.iconst 1, 1) := by decide +kernel
theorem dX4_isCampaign_7 : decode cX4_isCampaign 7 = .ok (.isub, 1) := by decide +kernel
theorem dX4_isCampaign_8 : decode cX4_isCampaign 8 = .ok (.invokestatic 84, 3) := by decide +kernel
theorem dX4_isCampaign_11 : decode cX4_isCampaign 11 = .ok (.ireturn, 1) := by decide +kernel
theorem dX4_allow_0 : decode cX4_allow 0 = .ok (.aload_n 0, 1) := by decide +kernel
theorem dX4_allow_1 : decode cX4_allow 1 = .ok (.iload_n 1, 1) := by decide +kernel
theorem dX4_allow_2 : decode cX4_allow 2 = .ok (.invokestatic 95, 3) := by decide +kernel
theorem dX4_allow_5 : decode cX4_allow 5 = .ok (.ifCond .ne 7, 3) := by decide +kernel
theorem dX4_allow_8 : decode cX4_allow 8 = .ok (.iconst 1, 1) := by decide +kernel
theorem dX4_allow_9 : decode cX4_allow 9 = .ok (.goto 18, 3) := by decide +kernel
theorem dX4_allow_12 : decode cX4_allow 12 = .ok (.iload_n 2, 1) := by decide +kernel
theorem dX4_allow_13 : decode cX4_allow 13 = .ok (.iconst 0, 1) := by decide +kernel
theorem dX4_allow_14 : decode cX4_allow 14 = .ok (.bipush 15, 2) := by decide +kernel
theorem dX4_allow_16 : decode cX4_allow 16 = .ok (.invokestatic 84, 3) := by decide +kernel
theorem dX4_allow_19 : decode cX4_allow 19 = .ok (.ifCond .eq 7, 3) := by decide +kernel
theorem dX4_allow_22 : decode cX4_allow 22 = .ok (.iconst 0, 1) := by decide +kernel
theorem dX4_allow_23 : decode cX4_allow 23 = .ok (.goto 4, 3) := by decide +kernel
theorem dX4_allow_26 : decode cX4_allow 26 = .ok (.iconst 2, 1) := by decide +kernel
theorem dX4_allow_27 : decode cX4_allow 27 = .ok (.invokevirtual 99, 3) := by decide +kernel
theorem dX4_allow_30 : decode cX4_allow 30 = .ok (.ifCond .eq 5, 3) := by decide +kernel
theorem dX4_allow_33 : decode cX4_allow 33 = .ok (.iconst 0, 1) := by decide +kernel
theorem dX4_allow_34 : decode cX4_allow 34 = .ok (.ireturn, 1) := by decide +kernel
theorem dX4_allow_35 : decode cX4_allow 35 = .ok (.aload_n 0, 1) := by decide +kernel
theorem dX4_allow_36 : decode cX4_allow 36 = .ok (.getfield 7, 3) := by decide +kernel
theorem dX4_allow_39 : decode cX4_allow 39 = .ok (.iload_n 1, 1) := by decide +kernel
theorem dX4_allow_40 : decode cX4_allow 40 = .ok (.iaload, 1) := by decide +kernel
theorem dX4_allow_41 : decode cX4_allow 41 = .ok (.istore_n 3, 1) := by decide +kernel
theorem dX4_allow_42 : decode cX4_allow 42 = .ok (.aload_n 0, 1) := by decide +kernel
theorem dX4_allow_43 : decode cX4_allow 43 = .ok (.getfield 7, 3) := by decide +kernel
theorem dX4_allow_46 : decode cX4_allow 46 = .ok (.iload_n 1, 1) := by decide +kernel
theorem dX4_allow_47 : decode cX4_allow 47 = .ok (.iload_n 2, 1) := by decide +kernel
theorem dX4_allow_48 : decode cX4_allow 48 = .ok (.iastore, 1) := by decide +kernel
theorem dX4_allow_49 : decode cX4_allow 49 = .ok (.iload_n 3, 1) := by decide +kernel
theorem dX4_allow_50 : decode cX4_allow 50 = .ok (.ireturn, 1) := by decide +kernel
theorem dX4_setImage_0 : decode cX4_setImage 0 = .ok (.aload_n 0, 1) := by decide +kernel
theorem dX4_setImage_1 : decode cX4_setImage 1 = .ok (.iload_n 1, 1) := by decide +kernel
theorem dX4_setImage_2 : decode cX4_setImage 2 = .ok (.invokestatic 95, 3) := by decide +kernel
theorem dX4_setImage_5 : decode cX4_setImage 5 = .ok (.ifCond .ne 7, 3) := by decide +kernel
theorem dX4_setImage_8 : decode cX4_setImage 8 = .ok (.iconst 1, 1) := by decide +kernel
theorem dX4_setImage_9 : decode cX4_setImage 9 = .ok (.goto 15, 3) := by decide +kernel
theorem dX4_setImage_12 : decode cX4_setImage 12 = .ok (.iload_n 2, 1) := by decide +kernel
theorem dX4_setImage_13 : decode cX4_setImage 13 = .ok (.invokestatic 102, 3) := by decide +kernel
theorem dX4_setImage_16 : decode cX4_setImage 16 = .ok (.ifCond .eq 7, 3) := by decide +kernel
theorem dX4_setImage_19 : decode cX4_setImage 19 = .ok (.iconst 0, 1) := by decide +kernel
theorem dX4_setImage_20 : decode cX4_setImage 20 = .ok (.goto 4, 3) := by decide +kernel
theorem dX4_setImage_23 : decode cX4_setImage 23 = .ok (.iconst 2, 1) := by decide +kernel
theorem dX4_setImage_24 : decode cX4_setImage 24 = .ok (.invokevirtual 99, 3) := by decide +kernel
theorem dX4_setImage_27 : decode cX4_setImage 27 = .ok (.ifCond .eq 5, 3) := by decide +kernel
theorem dX4_setImage_30 : decode cX4_setImage 30 = .ok (.iconst 0, 1) := by decide +kernel
theorem dX4_setImage_31 : decode cX4_setImage 31 = .ok (.ireturn, 1) := by decide +kernel
theorem dX4_setImage_32 : decode cX4_setImage 32 = .ok (.aload_n 0, 1) := by decide +kernel
theorem dX4_setImage_33 : decode cX4_setImage 33 = .ok (.getfield 13, 3) := by decide +kernel
theorem dX4_setImage_36 : decode cX4_setImage 36 = .ok (.iload_n 1, 1) := by decide +kernel
theorem dX4_setImage_37 : decode cX4_setImage 37 = .ok (.iaload, 1) := by decide +kernel
theorem dX4_setImage_38 : decode cX4_setImage 38 = .ok (.istore_n 3, 1) := by decide +kernel
theorem dX4_setImage_39 : decode cX4_setImage 39 = .ok (.aload_n 0, 1) := by decide +kernel
theorem dX4_setImage_40 : decode cX4_setImage 40 = .ok (.getfield 13, 3) := by decide +kernel
theorem dX4_setImage_43 : decode cX4_setImage 43 = .ok (.iload_n 1, 1) := by decide +kernel
theorem dX4_setImage_44 : decode cX4_setImage 44 = .ok (.iload_n 2, 1) := by decide +kernel
theorem dX4_setImage_45 : decode cX4_setImage 45 = .ok (.iastore, 1) := by decide +kernel
theorem dX4_setImage_46 : decode cX4_setImage 46 = .ok (.iload_n 3, 1) := by decide +kernel
theorem dX4_setImage_47 : decode cX4_setImage 47 = .ok (.ireturn, 1) := by decide +kernel
theorem dX4_setDelta_0 : decode cX4_setDelta 0 = .ok (.iload_n 1, 1) := by decide +kernel
theorem dX4_setDelta_1 : decode cX4_setDelta 1 = .ok (.invokestatic 95, 3) := by decide +kernel
theorem dX4_setDelta_4 : decode cX4_setDelta 4 = .ok (.ifCond .eq 14, 3) := by decide +kernel
theorem dX4_setDelta_7 : decode cX4_setDelta 7 = .ok (.iload_n 2, 1) := by decide +kernel
theorem dX4_setDelta_8 : decode cX4_setDelta 8 = .ok (.invokestatic 95, 3) := by decide +kernel
theorem dX4_setDelta_11 : decode cX4_setDelta 11 = .ok (.ifCond .eq 7, 3) := by decide +kernel
theorem dX4_setDelta_14 : decode cX4_setDelta 14 = .ok (.iconst 1, 1) := by decide +kernel
theorem dX4_setDelta_15 : decode cX4_setDelta 15 = .ok (.goto 4, 3) := by decide +kernel
theorem dX4_setDelta_18 : decode cX4_setDelta 18 = .ok (.iconst 0, 1) := by decide +kernel
theorem dX4_setDelta_19 : decode cX4_setDelta 19 = .ok (.istore 4, 2) := by decide +kernel
theorem dX4_setDelta_21 : decode cX4_setDelta 21 = .ok (.aload_n 0, 1) := by decide +kernel
theorem dX4_setDelta_22 : decode cX4_setDelta 22 = .ok (.iload 4, 2) := by decide +kernel
theorem dX4_setDelta_24 : decode cX4_setDelta 24 = .ok (.ifCond .ne 7, 3) := by decide +kernel
theorem dX4_setDelta_27 : decode cX4_setDelta 27 = .ok (.iconst 1, 1) := by decide +kernel
theorem dX4_setDelta_28 : decode cX4_setDelta 28 = .ok (.goto 20, 3) := by decide +kernel
theorem dX4_setDelta_31 : decode cX4_setDelta 31 = .ok (.iload_n 1, 1) := by decide +kernel
theorem dX4_setDelta_32 : decode cX4_setDelta 32 = .ok (.iload_n 2, 1) := by decide +kernel
theorem dX4_setDelta_33 : decode cX4_setDelta 33 = .ok (.if_icmp .eq 14, 3) := by decide +kernel
theorem dX4_setDelta_36 : decode cX4_setDelta 36 = .ok (.iload_n 3, 1) := by decide +kernel
theorem dX4_setDelta_37 : decode cX4_setDelta 37 = .ok (.invokestatic 102, 3) := by decide +kernel
theorem dX4_setDelta_40 : decode cX4_setDelta 40 = .ok (.ifCond .eq 7, 3) := by decide +kernel
theorem dX4_setDelta_43 : decode cX4_setDelta 43 = .ok (.iconst 0, 1) := by decide +kernel
theorem dX4_setDelta_44 : decode cX4_setDelta 44 = .ok (.goto 4, 3) := by decide +kernel
theorem dX4_setDelta_47 : decode cX4_setDelta 47 = .ok (.iconst 2, 1) := by decide +kernel
theorem dX4_setDelta_48 : decode cX4_setDelta 48 = .ok (.invokevirtual 99, 3) := by decide +kernel
theorem dX4_setDelta_51 : decode cX4_setDelta 51 = .ok (.ifCond .eq 5, 3) := by decide +kernel
theorem dX4_setDelta_54 : decode cX4_setDelta 54 = .ok (.iconst 0, 1) := by decide +kernel
theorem dX4_setDelta_55 : decode cX4_setDelta 55 = .ok (.ireturn, 1) := by decide +kernel
theorem dX4_setDelta_56 : decode cX4_setDelta 56 = .ok (.aload_n 0, 1) := by decide +kernel
theorem dX4_setDelta_57 : decode cX4_setDelta 57 = .ok (.getfield 16, 3) := by decide +kernel
theorem dX4_setDelta_60 : decode cX4_setDelta 60 = .ok (.bipush 8, 2) := by decide +kernel
theorem dX4_setDelta_62 : decode cX4_setDelta 62 = .ok (.iload_n 1, 1) := by decide +kernel
theorem dX4_setDelta_63 : decode cX4_setDelta 63 = .ok (.imul, 1) := by decide +kernel
theorem dX4_setDelta_64 : decode cX4_setDelta 64 = .ok (.iload_n 2, 1) := by decide +kernel
theorem dX4_setDelta_65 : decode cX4_setDelta 65 = .ok (.iadd, 1) := by decide +kernel
theorem dX4_setDelta_66 : decode cX4_setDelta 66 = .ok (.iaload, 1) := by decide +kernel
theorem dX4_setDelta_67 : decode cX4_setDelta 67 = .ok (.istore 5, 2) := by decide +kernel
theorem dX4_setDelta_69 : decode cX4_setDelta 69 = .ok (.aload_n 0, 1) := by decide +kernel
theorem dX4_setDelta_70 : decode cX4_setDelta 70 = .ok (.getfield 16, 3) := by decide +kernel
theorem dX4_setDelta_73 : decode cX4_setDelta 73 = .ok (.bipush 8, 2) := by decide +kernel
theorem dX4_setDelta_75 : decode cX4_setDelta 75 = .ok (.iload_n 1, 1) := by decide +kernel
theorem dX4_setDelta_76 : decode cX4_setDelta 76 = .ok (.imul, 1) := by decide +kernel
theorem dX4_setDelta_77 : decode cX4_setDelta 77 = .ok (.iload_n 2, 1) := by decide +kernel
theorem dX4_setDelta_78 : decode cX4_setDelta 78 = .ok (.iadd, 1) := by decide +kernel
theorem dX4_setDelta_79 : decode cX4_setDelta 79 = .ok (.iload_n 3, 1) := by decide +kernel
theorem dX4_setDelta_80 : decode cX4_setDelta 80 = .ok (.iastore, 1) := by decide +kernel
theorem dX4_setDelta_81 : decode cX4_setDelta 81 = .ok (.iload 5, 2) := by decide +kernel
theorem dX4_setDelta_83 : decode cX4_setDelta 83 = .ok (.ireturn, 1) := by decide +kernel
theorem dX4_sizeOf_0 : decode cX4_sizeOf 0 = .ok (.iconst 0, 1) := by decide +kernel
theorem dX4_sizeOf_1 : decode cX4_sizeOf 1 = .ok (.istore_n 3, 1) := by decide +kernel
theorem dX4_sizeOf_2 : decode cX4_sizeOf 2 = .ok (.iload_n 3, 1) := by decide +kernel
theorem dX4_sizeOf_3 : decode cX4_sizeOf 3 = .ok (.bipush 8, 2) := by decide +kernel
theorem dX4_sizeOf_5 : decode cX4_sizeOf 5 = .ok (.if_icmp .ge 45, 3) := by decide +kernel
theorem dX4_sizeOf_8 : decode cX4_sizeOf 8 = .ok (.aload_n 0, 1) := by decide +kernel
theorem dX4_sizeOf_9 : decode cX4_sizeOf 9 = .ok (.getfield 19, 3) := by decide +kernel
theorem dX4_sizeOf_12 : decode cX4_sizeOf 12 = .ok (.iload_n 3, 1) := by decide +kernel
theorem dX4_sizeOf_13 : decode cX4_sizeOf 13 = .ok (.iload_n 3, 1) := by decide +kernel
theorem dX4_sizeOf_14 : decode cX4_sizeOf 14 = .ok (.iload_n 1, 1) := by decide +kernel
theorem dX4_sizeOf_15 : decode cX4_sizeOf 15 = .ok (.if_icmp .ne 7, 3) := by decide +kernel
theorem dX4_sizeOf_18 : decode cX4_sizeOf 18 = .ok (.iconst 0, 1) := by decide +kernel
theorem dX4_sizeOf_19 : decode cX4_sizeOf 19 = .ok (.goto 24, 3) := by decide +kernel
theorem dX4_sizeOf_22 : decode cX4_sizeOf 22 = .ok (.aload_n 0, 1) := by decide +kernel
theorem dX4_sizeOf_23 : decode cX4_sizeOf 23 = .ok (.getfield 13, 3) := by decide +kernel
theorem dX4_sizeOf_26 : decode cX4_sizeOf 26 = .ok (.iload_n 3, 1) := by decide +kernel
theorem dX4_sizeOf_27 : decode cX4_sizeOf 27 = .ok (.iaload, 1) := by decide +kernel
theorem dX4_sizeOf_28 : decode cX4_sizeOf 28 = .ok (.iconst (-1), 1) := by decide +kernel
theorem dX4_sizeOf_29 : decode cX4_sizeOf 29 = .ok (.if_icmp .ne 8, 3) := by decide +kernel
theorem dX4_sizeOf_32 : decode cX4_sizeOf 32 = .ok (.ldc 105, 2) := by decide +kernel
theorem dX4_sizeOf_34 : decode cX4_sizeOf 34 = .ok (.goto 9, 3) := by decide +kernel
theorem dX4_sizeOf_37 : decode cX4_sizeOf 37 = .ok (.aload_n 0, 1) := by decide +kernel
theorem dX4_sizeOf_38 : decode cX4_sizeOf 38 = .ok (.getfield 13, 3) := by decide +kernel
theorem dX4_sizeOf_41 : decode cX4_sizeOf 41 = .ok (.iload_n 3, 1) := by decide +kernel
theorem dX4_sizeOf_42 : decode cX4_sizeOf 42 = .ok (.iaload, 1) := by decide +kernel
theorem dX4_sizeOf_43 : decode cX4_sizeOf 43 = .ok (.iastore, 1) := by decide +kernel
theorem dX4_sizeOf_44 : decode cX4_sizeOf 44 = .ok (.iinc 3 1, 3) := by decide +kernel
theorem dX4_sizeOf_47 : decode cX4_sizeOf 47 = .ok (.goto (-45), 3) := by decide +kernel
theorem dX4_sizeOf_50 : decode cX4_sizeOf 50 = .ok (.iconst 0, 1) := by decide +kernel
theorem dX4_sizeOf_51 : decode cX4_sizeOf 51 = .ok (.istore_n 3, 1) := by decide +kernel
theorem dX4_sizeOf_52 : decode cX4_sizeOf 52 = .ok (.iload_n 3, 1) := by decide +kernel
theorem dX4_sizeOf_53 : decode cX4_sizeOf 53 = .ok (.bipush 8, 2) := by decide +kernel
theorem dX4_sizeOf_55 : decode cX4_sizeOf 55 = .ok (.if_icmp .ge 95, 3) := by decide +kernel
theorem dX4_sizeOf_58 : decode cX4_sizeOf 58 = .ok (.iconst 0, 1) := by decide +kernel
theorem dX4_sizeOf_59 : decode cX4_sizeOf 59 = .ok (.istore 4, 2) := by decide +kernel
theorem dX4_sizeOf_61 : decode cX4_sizeOf 61 = .ok (.iload 4, 2) := by decide +kernel
theorem dX4_sizeOf_63 : decode cX4_sizeOf 63 = .ok (.bipush 64, 2) := by decide +kernel
theorem dX4_sizeOf_65 : decode cX4_sizeOf 65 = .ok (.if_icmp .ge 79, 3) := by decide +kernel
theorem dX4_sizeOf_68 : decode cX4_sizeOf 68 = .ok (.aload_n 0, 1) := by decide +kernel
theorem dX4_sizeOf_69 : decode cX4_sizeOf 69 = .ok (.getfield 16, 3) := by decide +kernel
theorem dX4_sizeOf_72 : decode cX4_sizeOf 72 = .ok (.iload 4, 2) := by decide +kernel
theorem dX4_sizeOf_74 : decode cX4_sizeOf 74 = .ok (.iaload, 1) := by decide +kernel
theorem dX4_sizeOf_75 : decode cX4_sizeOf 75 = .ok (.iconst (-1), 1) := by decide +kernel
theorem dX4_sizeOf_76 : decode cX4_sizeOf 76 = .ok (.if_icmp .eq 62, 3) := by decide +kernel
theorem dX4_sizeOf_79 : decode cX4_sizeOf 79 = .ok (.aload_n 0, 1) := by decide +kernel
theorem dX4_sizeOf_80 : decode cX4_sizeOf 80 = .ok (.getfield 19, 3) := by decide +kernel
theorem dX4_sizeOf_83 : decode cX4_sizeOf 83 = .ok (.iload 4, 2) := by decide +kernel
theorem dX4_sizeOf_85 : decode cX4_sizeOf 85 = .ok (.bipush 8, 2) := by decide +kernel
theorem dX4_sizeOf_87 : decode cX4_sizeOf 87 = .ok (.idiv, 1) := by decide +kernel
theorem dX4_sizeOf_88 : decode cX4_sizeOf 88 = .ok (.iaload, 1) := by decide +kernel
theorem dX4_sizeOf_89 : decode cX4_sizeOf 89 = .ok (.aload_n 0, 1) := by decide +kernel
theorem dX4_sizeOf_90 : decode cX4_sizeOf 90 = .ok (.getfield 16, 3) := by decide +kernel
theorem dX4_sizeOf_93 : decode cX4_sizeOf 93 = .ok (.iload 4, 2) := by decide +kernel
theorem dX4_sizeOf_95 : decode cX4_sizeOf 95 = .ok (.iaload, 1) := by decide +kernel
theorem dX4_sizeOf_96 : decode cX4_sizeOf 96 = .ok (.iadd, 1) := by decide +kernel
theorem dX4_sizeOf_97 : decode cX4_sizeOf 97 = .ok (.aload_n 0, 1) := by decide +kernel
theorem dX4_sizeOf_98 : decode cX4_sizeOf 98 = .ok (.getfield 19, 3) := by decide +kernel
theorem dX4_sizeOf_101 : decode cX4_sizeOf 101 = .ok (.iload 4, 2) := by decide +kernel
theorem dX4_sizeOf_103 : decode cX4_sizeOf 103 = .ok (.bipush 8, 2) := by decide +kernel
theorem dX4_sizeOf_105 : decode cX4_sizeOf 105 = .ok (.irem, 1) := by decide +kernel
theorem dX4_sizeOf_106 : decode cX4_sizeOf 106 = .ok (.iaload, 1) := by decide +kernel
theorem dX4_sizeOf_107 : decode cX4_sizeOf 107 = .ok (.if_icmp .ge 31, 3) := by decide +kernel
theorem dX4_sizeOf_110 : decode cX4_sizeOf 110 = .ok (.aload_n 0, 1) := by decide +kernel
theorem dX4_sizeOf_111 : decode cX4_sizeOf 111 = .ok (.getfield 19, 3) := by decide +kernel
theorem dX4_sizeOf_114 : decode cX4_sizeOf 114 = .ok (.iload 4, 2) := by decide +kernel
theorem dX4_sizeOf_116 : decode cX4_sizeOf 116 = .ok (.bipush 8, 2) := by decide +kernel
theorem dX4_sizeOf_118 : decode cX4_sizeOf 118 = .ok (.irem, 1) := by decide +kernel
theorem dX4_sizeOf_119 : decode cX4_sizeOf 119 = .ok (.aload_n 0, 1) := by decide +kernel
theorem dX4_sizeOf_120 : decode cX4_sizeOf 120 = .ok (.getfield 19, 3) := by decide +kernel
theorem dX4_sizeOf_123 : decode cX4_sizeOf 123 = .ok (.iload 4, 2) := by decide +kernel
theorem dX4_sizeOf_125 : decode cX4_sizeOf 125 = .ok (.bipush 8, 2) := by decide +kernel
theorem dX4_sizeOf_127 : decode cX4_sizeOf 127 = .ok (.idiv, 1) := by decide +kernel
theorem dX4_sizeOf_128 : decode cX4_sizeOf 128 = .ok (.iaload, 1) := by decide +kernel
theorem dX4_sizeOf_129 : decode cX4_sizeOf 129 = .ok (.aload_n 0, 1) := by decide +kernel
theorem dX4_sizeOf_130 : decode cX4_sizeOf 130 = .ok (.getfield 16, 3) := by decide +kernel
theorem dX4_sizeOf_133 : decode cX4_sizeOf 133 = .ok (.iload 4, 2) := by decide +kernel
theorem dX4_sizeOf_135 : decode cX4_sizeOf 135 = .ok (.iaload, 1) := by decide +kernel
theorem dX4_sizeOf_136 : decode cX4_sizeOf 136 = .ok (.iadd, 1) := by decide +kernel
theorem dX4_sizeOf_137 : decode cX4_sizeOf 137 = .ok (.iastore, 1) := by decide +kernel
theorem dX4_sizeOf_138 : decode cX4_sizeOf 138 = .ok (.iinc 4 1, 3) := by decide +kernel
theorem dX4_sizeOf_141 : decode cX4_sizeOf 141 = .ok (.goto (-80), 3) := by decide +kernel
theorem dX4_sizeOf_144 : decode cX4_sizeOf 144 = .ok (.iinc 3 1, 3) := by decide +kernel
theorem dX4_sizeOf_147 : decode cX4_sizeOf 147 = .ok (.goto (-95), 3) := by decide +kernel
theorem dX4_sizeOf_150 : decode cX4_sizeOf 150 = .ok (.aload_n 0, 1) := by decide +kernel
theorem dX4_sizeOf_151 : decode cX4_sizeOf 151 = .ok (.getfield 19, 3) := by decide +kernel
theorem dX4_sizeOf_154 : decode cX4_sizeOf 154 = .ok (.iload_n 2, 1) := by decide +kernel
theorem dX4_sizeOf_155 : decode cX4_sizeOf 155 = .ok (.iaload, 1) := by decide +kernel
theorem dX4_sizeOf_156 : decode cX4_sizeOf 156 = .ok (.ldc 105, 2) := by decide +kernel
theorem dX4_sizeOf_158 : decode cX4_sizeOf 158 = .ok (.if_icmp .lt 7, 3) := by decide +kernel
theorem dX4_sizeOf_161 : decode cX4_sizeOf 161 = .ok (.iconst (-1), 1) := by decide +kernel
theorem dX4_sizeOf_162 : decode cX4_sizeOf 162 = .ok (.goto 9, 3) := by decide +kernel
theorem dX4_sizeOf_165 : decode cX4_sizeOf 165 = .ok (.aload_n 0, 1) := by decide +kernel
theorem dX4_sizeOf_166 : decode cX4_sizeOf 166 = .ok (.getfield 19, 3) := by decide +kernel
theorem dX4_sizeOf_169 : decode cX4_sizeOf 169 = .ok (.iload_n 2, 1) := by decide +kernel
theorem dX4_sizeOf_170 : decode cX4_sizeOf 170 = .ok (.iaload, 1) := by decide +kernel
theorem dX4_sizeOf_171 : decode cX4_sizeOf 171 = .ok (.ireturn, 1) := by decide +kernel
theorem dX4_size_0 : decode cX4_size 0 = .ok (.aload_n 0, 1) := by decide +kernel
theorem dX4_size_1 : decode cX4_size 1 = .ok (.iload_n 1, 1) := by decide +kernel
theorem dX4_size_2 : decode cX4_size 2 = .ok (.invokestatic 95, 3) := by decide +kernel
theorem dX4_size_5 : decode cX4_size 5 = .ok (.ifCond .eq 14, 3) := by decide +kernel
theorem dX4_size_8 : decode cX4_size 8 = .ok (.iload_n 2, 1) := by decide +kernel
theorem dX4_size_9 : decode cX4_size 9 = .ok (.invokestatic 95, 3) := by decide +kernel
theorem dX4_size_12 : decode cX4_size 12 = .ok (.ifCond .eq 7, 3) := by decide +kernel
theorem dX4_size_15 : decode cX4_size 15 = .ok (.iconst 0, 1) := by decide +kernel
theorem dX4_size_16 : decode cX4_size 16 = .ok (.goto 4, 3) := by decide +kernel
theorem dX4_size_19 : decode cX4_size 19 = .ok (.iconst 1, 1) := by decide +kernel
theorem dX4_size_20 : decode cX4_size 20 = .ok (.invokevirtual 99, 3) := by decide +kernel
theorem dX4_size_23 : decode cX4_size 23 = .ok (.ifCond .eq 7, 3) := by decide +kernel
theorem dX4_size_26 : decode cX4_size 26 = .ok (.iconst 0, 1) := by decide +kernel
theorem dX4_size_27 : decode cX4_size 27 = .ok (.goto 9, 3) := by decide +kernel
theorem dX4_size_30 : decode cX4_size 30 = .ok (.aload_n 0, 1) := by decide +kernel
theorem dX4_size_31 : decode cX4_size 31 = .ok (.iload_n 1, 1) := by decide +kernel
theorem dX4_size_32 : decode cX4_size 32 = .ok (.iload_n 2, 1) := by decide +kernel
theorem dX4_size_33 : decode cX4_size 33 = .ok (.invokevirtual 106, 3) := by decide +kernel
theorem dX4_size_36 : decode cX4_size 36 = .ok (.ireturn, 1) := by decide +kernel
theorem dX4_sizeByWays_0 : decode cX4_sizeByWays 0 = .ok (.aload_n 0, 1) := by decide +kernel
theorem dX4_sizeByWays_1 : decode cX4_sizeByWays 1 = .ok (.iload_n 1, 1) := by decide +kernel
theorem dX4_sizeByWays_2 : decode cX4_sizeByWays 2 = .ok (.iload_n 2, 1) := by decide +kernel
theorem dX4_sizeByWays_3 : decode cX4_sizeByWays 3 = .ok (.invokevirtual 110, 3) := by decide +kernel
theorem dX4_sizeByWays_6 : decode cX4_sizeByWays 6 = .ok (.ireturn, 1) := by decide +kernel
theorem dX4_addDevice_0 : decode cX4_addDevice 0 = .ok (.iload_n 1, 1) := by decide +kernel
theorem dX4_addDevice_1 : decode cX4_addDevice 1 = .ok (.iconst 0, 1) := by decide +kernel
theorem dX4_addDevice_2 : decode cX4_addDevice 2 = .ok (.iconst 3, 1) := by decide +kernel
theorem dX4_addDevice_3 : decode cX4_addDevice 3 = .ok (.invokestatic 84, 3) := by decide +kernel
theorem dX4_addDevice_6 : decode cX4_addDevice 6 = .ok (.ifCond .eq 14, 3) := by decide +kernel
theorem dX4_addDevice_9 : decode cX4_addDevice 9 = .ok (.iload_n 2, 1) := by decide +kernel
theorem dX4_addDevice_10 : decode cX4_addDevice 10 = .ok (.invokestatic 95, 3) := by decide +kernel
theorem dX4_addDevice_13 : decode cX4_addDevice 13 = .ok (.ifCond .eq 7, 3) := by decide +kernel
theorem dX4_addDevice_16 : decode cX4_addDevice 16 = .ok (.iconst 1, 1) := by decide +kernel
theorem dX4_addDevice_17 : decode cX4_addDevice 17 = .ok (.goto 4, 3) := by decide +kernel
theorem dX4_addDevice_20 : decode cX4_addDevice 20 = .ok (.iconst 0, 1) := by decide +kernel
theorem dX4_addDevice_21 : decode cX4_addDevice 21 = .ok (.istore_n 3, 1) := by decide +kernel
theorem dX4_addDevice_22 : decode cX4_addDevice 22 = .ok (.iload_n 3, 1) := by decide +kernel
theorem dX4_addDevice_23 : decode cX4_addDevice 23 = .ok (.ifCond .eq 30, 3) := by decide +kernel
theorem dX4_addDevice_26 : decode cX4_addDevice 26 = .ok (.aload_n 0, 1) := by decide +kernel
theorem dX4_addDevice_27 : decode cX4_addDevice 27 = .ok (.getfield 89, 3) := by decide +kernel
theorem dX4_addDevice_30 : decode cX4_addDevice 30 = .ok (.bipush 10, 2) := by decide +kernel
theorem dX4_addDevice_32 : decode cX4_addDevice 32 = .ok (.if_icmp .ge 21, 3) := by decide +kernel
theorem dX4_addDevice_35 : decode cX4_addDevice 35 = .ok (.aload_n 0, 1) := by decide +kernel
theorem dX4_addDevice_36 : decode cX4_addDevice 36 = .ok (.getfield 7, 3) := by decide +kernel
theorem dX4_addDevice_39 : decode cX4_addDevice 39 = .ok (.iload_n 2, 1) := by decide +kernel
theorem dX4_addDevice_40 : decode cX4_addDevice 40 = .ok (.iaload, 1) := by decide +kernel
theorem dX4_addDevice_41 : decode cX4_addDevice 41 = .ok (.iload_n 1, 1) := by decide +kernel
theorem dX4_addDevice_42 : decode cX4_addDevice 42 = .ok (.ishr, 1) := by decide +kernel
theorem dX4_addDevice_43 : decode cX4_addDevice 43 = .ok (.iconst 1, 1) := by decide +kernel
theorem dX4_addDevice_44 : decode cX4_addDevice 44 = .ok (.iand, 1) := by decide +kernel
theorem dX4_addDevice_45 : decode cX4_addDevice 45 = .ok (.iconst 1, 1) := by decide +kernel
theorem dX4_addDevice_46 : decode cX4_addDevice 46 = .ok (.if_icmp .ne 7, 3) := by decide +kernel
theorem dX4_addDevice_49 : decode cX4_addDevice 49 = .ok (.iconst 1, 1) := by decide +kernel
theorem dX4_addDevice_50 : decode cX4_addDevice 50 = .ok (.goto 4, 3) := by decide +kernel
theorem dX4_addDevice_53 : decode cX4_addDevice 53 = .ok (.iconst 0, 1) := by decide +kernel
theorem dX4_addDevice_54 : decode cX4_addDevice 54 = .ok (.istore 4, 2) := by decide +kernel
theorem dX4_addDevice_56 : decode cX4_addDevice 56 = .ok (.aload_n 0, 1) := by decide +kernel
theorem dX4_addDevice_57 : decode cX4_addDevice 57 = .ok (.iload_n 3, 1) := by decide +kernel
theorem dX4_addDevice_58 : decode cX4_addDevice 58 = .ok (.ifCond .ne 7, 3) := by decide +kernel
theorem dX4_addDevice_61 : decode cX4_addDevice 61 = .ok (.iconst 1, 1) := by decide +kernel
theorem dX4_addDevice_62 : decode cX4_addDevice 62 = .ok (.goto 13, 3) := by decide +kernel
theorem dX4_addDevice_65 : decode cX4_addDevice 65 = .ok (.iload 4, 2) := by decide +kernel
theorem dX4_addDevice_67 : decode cX4_addDevice 67 = .ok (.ifCond .eq 7, 3) := by decide +kernel
theorem dX4_addDevice_70 : decode cX4_addDevice 70 = .ok (.iconst 0, 1) := by decide +kernel
theorem dX4_addDevice_71 : decode cX4_addDevice 71 = .ok (.goto 4, 3) := by decide +kernel
theorem dX4_addDevice_74 : decode cX4_addDevice 74 = .ok (.iconst 2, 1) := by decide +kernel
theorem dX4_addDevice_75 : decode cX4_addDevice 75 = .ok (.invokevirtual 99, 3) := by decide +kernel
theorem dX4_addDevice_78 : decode cX4_addDevice 78 = .ok (.ifCond .eq 5, 3) := by decide +kernel
theorem dX4_addDevice_81 : decode cX4_addDevice 81 = .ok (.iconst 0, 1) := by decide +kernel
theorem dX4_addDevice_82 : decode cX4_addDevice 82 = .ok (.ireturn, 1) := by decide +kernel
theorem dX4_addDevice_83 : decode cX4_addDevice 83 = .ok (.aload_n 0, 1) := by decide +kernel
theorem dX4_addDevice_84 : decode cX4_addDevice 84 = .ok (.getfield 22, 3) := by decide +kernel
theorem dX4_addDevice_87 : decode cX4_addDevice 87 = .ok (.aload_n 0, 1) := by decide +kernel
theorem dX4_addDevice_88 : decode cX4_addDevice 88 = .ok (.getfield 89, 3) := by decide +kernel
theorem dX4_addDevice_91 : decode cX4_addDevice 91 = .ok (.iload_n 1, 1) := by decide +kernel
theorem dX4_addDevice_92 : decode cX4_addDevice 92 = .ok (.iastore, 1) := by decide +kernel
theorem dX4_addDevice_93 : decode cX4_addDevice 93 = .ok (.aload_n 0, 1) := by decide +kernel
theorem dX4_addDevice_94 : decode cX4_addDevice 94 = .ok (.getfield 25, 3) := by decide +kernel
theorem dX4_addDevice_97 : decode cX4_addDevice 97 = .ok (.aload_n 0, 1) := by decide +kernel
theorem dX4_addDevice_98 : decode cX4_addDevice 98 = .ok (.getfield 89, 3) := by decide +kernel
theorem dX4_addDevice_101 : decode cX4_addDevice 101 = .ok (.iload_n 2, 1) := by decide +kernel
theorem dX4_addDevice_102 : decode cX4_addDevice 102 = .ok (.iastore, 1) := by decide +kernel
theorem dX4_addDevice_103 : decode cX4_addDevice 103 = .ok (.aload_n 0, 1) := by decide +kernel
theorem dX4_addDevice_104 : decode cX4_addDevice 104 = .ok (.getfield 28, 3) := by decide +kernel
theorem dX4_addDevice_107 : decode cX4_addDevice 107 = .ok (.aload_n 0, 1) := by decide +kernel
theorem dX4_addDevice_108 : decode cX4_addDevice 108 = .ok (.getfield 89, 3) := by decide +kernel
theorem dX4_addDevice_111 : decode cX4_addDevice 111 = .ok (.bipush 100, 2) := by decide +kernel
theorem dX4_addDevice_113 : decode cX4_addDevice 113 = .ok (.iastore, 1) := by decide +kernel
theorem dX4_addDevice_114 : decode cX4_addDevice 114 = .ok (.aload_n 0, 1) := by decide +kernel
theorem dX4_addDevice_115 : decode cX4_addDevice 115 = .ok (.getfield 31, 3) := by decide +kernel
theorem dX4_addDevice_118 : decode cX4_addDevice 118 = .ok (.aload_n 0, 1) := by decide +kernel
theorem dX4_addDevice_119 : decode cX4_addDevice 119 = .ok (.getfield 89, 3) := by decide +kernel
theorem dX4_addDevice_122 : decode cX4_addDevice 122 = .ok (.iconst 0, 1) := by decide +kernel
theorem dX4_addDevice_123 : decode cX4_addDevice 123 = .ok (.iastore, 1) := by decide +kernel
theorem dX4_addDevice_124 : decode cX4_addDevice 124 = .ok (.aload_n 0, 1) := by decide +kernel
theorem dX4_addDevice_125 : decode cX4_addDevice 125 = .ok (.getfield 34, 3) := by decide +kernel
theorem dX4_addDevice_128 : decode cX4_addDevice 128 = .ok (.aload_n 0, 1) := by decide +kernel
theorem dX4_addDevice_129 : decode cX4_addDevice 129 = .ok (.getfield 89, 3) := by decide +kernel
theorem dX4_addDevice_132 : decode cX4_addDevice 132 = .ok (.bipush 23, 2) := by decide +kernel
theorem dX4_addDevice_134 : decode cX4_addDevice 134 = .ok (.iastore, 1) := by decide +kernel
theorem dX4_addDevice_135 : decode cX4_addDevice 135 = .ok (.aload_n 0, 1) := by decide +kernel
theorem dX4_addDevice_136 : decode cX4_addDevice 136 = .ok (.getfield 40, 3) := by decide +kernel
theorem dX4_addDevice_139 : decode cX4_addDevice 139 = .ok (.aload_n 0, 1) := by decide +kernel
theorem dX4_addDevice_140 : decode cX4_addDevice 140 = .ok (.getfield 89, 3) := by decide +kernel
theorem dX4_addDevice_143 : decode cX4_addDevice 143 = .ok (.iconst (-1), 1) := by decide +kernel
theorem dX4_addDevice_144 : decode cX4_addDevice 144 = .ok (.iastore, 1) := by decide +kernel
theorem dX4_addDevice_145 : decode cX4_addDevice 145 = .ok (.aload_n 0, 1) := by decide +kernel
theorem dX4_addDevice_146 : decode cX4_addDevice 146 = .ok (.dup, 1) := by decide +kernel
theorem dX4_addDevice_147 : decode cX4_addDevice 147 = .ok (.getfield 89, 3) := by decide +kernel
theorem dX4_addDevice_150 : decode cX4_addDevice 150 = .ok (.iconst 1, 1) := by decide +kernel
theorem dX4_addDevice_151 : decode cX4_addDevice 151 = .ok (.iadd, 1) := by decide +kernel
theorem dX4_addDevice_152 : decode cX4_addDevice 152 = .ok (.putfield 89, 3) := by decide +kernel
theorem dX4_addDevice_155 : decode cX4_addDevice 155 = .ok (.aload_n 0, 1) := by decide +kernel
theorem dX4_addDevice_156 : decode cX4_addDevice 156 = .ok (.getfield 89, 3) := by decide +kernel
theorem dX4_addDevice_159 : decode cX4_addDevice 159 = .ok (.iconst 1, 1) := by decide +kernel
theorem dX4_addDevice_160 : decode cX4_addDevice 160 = .ok (.isub, 1) := by decide +kernel
theorem dX4_addDevice_161 : decode cX4_addDevice 161 = .ok (.ireturn, 1) := by decide +kernel
theorem dX4_charge_0 : decode cX4_charge 0 = .ok (.aload_n 0, 1) := by decide +kernel
theorem dX4_charge_1 : decode cX4_charge 1 = .ok (.aload_n 0, 1) := by decide +kernel
theorem dX4_charge_2 : decode cX4_charge 2 = .ok (.iload_n 1, 1) := by decide +kernel
theorem dX4_charge_3 : decode cX4_charge 3 = .ok (.invokevirtual 113, 3) := by decide +kernel
theorem dX4_charge_6 : decode cX4_charge 6 = .ok (.ifCond .ne 7, 3) := by decide +kernel
theorem dX4_charge_9 : decode cX4_charge 9 = .ok (.iconst 1, 1) := by decide +kernel
theorem dX4_charge_10 : decode cX4_charge 10 = .ok (.goto 18, 3) := by decide +kernel
theorem dX4_charge_13 : decode cX4_charge 13 = .ok (.iload_n 2, 1) := by decide +kernel
theorem dX4_charge_14 : decode cX4_charge 14 = .ok (.iconst 0, 1) := by decide +kernel
theorem dX4_charge_15 : decode cX4_charge 15 = .ok (.bipush 100, 2) := by decide +kernel
theorem dX4_charge_17 : decode cX4_charge 17 = .ok (.invokestatic 84, 3) := by decide +kernel
theorem dX4_charge_20 : decode cX4_charge 20 = .ok (.ifCond .eq 7, 3) := by decide +kernel
theorem dX4_charge_23 : decode cX4_charge 23 = .ok (.iconst 0, 1) := by decide +kernel
theorem dX4_charge_24 : decode cX4_charge 24 = .ok (.goto 4, 3) := by decide +kernel
theorem dX4_charge_27 : decode cX4_charge 27 = .ok (.iconst 2, 1) := by decide +kernel
theorem dX4_charge_28 : decode cX4_charge 28 = .ok (.invokevirtual 99, 3) := by decide +kernel
theorem dX4_charge_31 : decode cX4_charge 31 = .ok (.ifCond .eq 5, 3) := by decide +kernel
theorem dX4_charge_34 : decode cX4_charge 34 = .ok (.iconst 0, 1) := by decide +kernel
theorem dX4_charge_35 : decode cX4_charge 35 = .ok (.ireturn, 1) := by decide +kernel
theorem dX4_charge_36 : decode cX4_charge 36 = .ok (.aload_n 0, 1) := by decide +kernel
theorem dX4_charge_37 : decode cX4_charge 37 = .ok (.getfield 28, 3) := by decide +kernel
theorem dX4_charge_40 : decode cX4_charge 40 = .ok (.iload_n 1, 1) := by decide +kernel
theorem dX4_charge_41 : decode cX4_charge 41 = .ok (.iaload, 1) := by decide +kernel
theorem dX4_charge_42 : decode cX4_charge 42 = .ok (.istore_n 3, 1) := by decide +kernel
theorem dX4_charge_43 : decode cX4_charge 43 = .ok (.aload_n 0, 1) := by decide +kernel
theorem dX4_charge_44 : decode cX4_charge 44 = .ok (.getfield 28, 3) := by decide +kernel
theorem dX4_charge_47 : decode cX4_charge 47 = .ok (.iload_n 1, 1) := by decide +kernel
theorem dX4_charge_48 : decode cX4_charge 48 = .ok (.iload_n 2, 1) := by decide +kernel
theorem dX4_charge_49 : decode cX4_charge 49 = .ok (.iastore, 1) := by decide +kernel
theorem dX4_charge_50 : decode cX4_charge 50 = .ok (.iload_n 3, 1) := by decide +kernel
theorem dX4_charge_51 : decode cX4_charge 51 = .ok (.ireturn, 1) := by decide +kernel
theorem dX4_setWindow_0 : decode cX4_setWindow 0 = .ok (.aload_n 0, 1) := by decide +kernel
theorem dX4_setWindow_1 : decode cX4_setWindow 1 = .ok (.aload_n 0, 1) := by decide +kernel
theorem dX4_setWindow_2 : decode cX4_setWindow 2 = .ok (.iload_n 1, 1) := by decide +kernel
theorem dX4_setWindow_3 : decode cX4_setWindow 3 = .ok (.invokevirtual 113, 3) := by decide +kernel
theorem dX4_setWindow_6 : decode cX4_setWindow 6 = .ok (.ifCond .ne 7, 3) := by decide +kernel
theorem dX4_setWindow_9 : decode cX4_setWindow 9 = .ok (.iconst 1, 1) := by decide +kernel
theorem dX4_setWindow_10 : decode cX4_setWindow 10 = .ok (.goto 28, 3) := by decide +kernel
theorem dX4_setWindow_13 : decode cX4_setWindow 13 = .ok (.iload_n 2, 1) := by decide +kernel
theorem dX4_setWindow_14 : decode cX4_setWindow 14 = .ok (.iconst 0, 1) := by decide +kernel
theorem dX4_setWindow_15 : decode cX4_setWindow 15 = .ok (.bipush 23, 2) := by decide +kernel
theorem dX4_setWindow_17 : decode cX4_setWindow 17 = .ok (.invokestatic 84, 3) := by decide +kernel
theorem dX4_setWindow_20 : decode cX4_setWindow 20 = .ok (.ifCond .eq 17, 3) := by decide +kernel
theorem dX4_setWindow_23 : decode cX4_setWindow 23 = .ok (.iload_n 3, 1) := by decide +kernel
theorem dX4_setWindow_24 : decode cX4_setWindow 24 = .ok (.iconst 0, 1) := by decide +kernel
theorem dX4_setWindow_25 : decode cX4_setWindow 25 = .ok (.bipush 23, 2) := by decide +kernel
theorem dX4_setWindow_27 : decode cX4_setWindow 27 = .ok (.invokestatic 84, 3) := by decide +kernel
theorem dX4_setWindow_30 : decode cX4_setWindow 30 = .ok (.ifCond .eq 7, 3) := by decide +kernel
theorem dX4_setWindow_33 : decode cX4_setWindow 33 = .ok (.iconst 0, 1) := by decide +kernel
theorem dX4_setWindow_34 : decode cX4_setWindow 34 = .ok (.goto 4, 3) := by decide +kernel
theorem dX4_setWindow_37 : decode cX4_setWindow 37 = .ok (.iconst 2, 1) := by decide +kernel
theorem dX4_setWindow_38 : decode cX4_setWindow 38 = .ok (.invokevirtual 99, 3) := by decide +kernel
theorem dX4_setWindow_41 : decode cX4_setWindow 41 = .ok (.ifCond .ne 17, 3) := by decide +kernel
theorem dX4_setWindow_44 : decode cX4_setWindow 44 = .ok (.aload_n 0, 1) := by decide +kernel
theorem dX4_setWindow_45 : decode cX4_setWindow 45 = .ok (.getfield 31, 3) := by decide +kernel
theorem dX4_setWindow_48 : decode cX4_setWindow 48 = .ok (.iload_n 1, 1) := by decide +kernel
theorem dX4_setWindow_49 : decode cX4_setWindow 49 = .ok (.iload_n 2, 1) := by decide +kernel
theorem dX4_setWindow_50 : decode cX4_setWindow 50 = .ok (.iastore, 1) := by decide +kernel
theorem dX4_setWindow_51 : decode cX4_setWindow 51 = .ok (.aload_n 0, 1) := by decide +kernel
theorem dX4_setWindow_52 : decode cX4_setWindow 52 = .ok (.getfield 34, 3) := by decide +kernel
theorem dX4_setWindow_55 : decode cX4_setWindow 55 = .ok (.iload_n 1, 1) := by decide +kernel
theorem dX4_setWindow_56 : decode cX4_setWindow 56 = .ok (.iload_n 3, 1) := by decide +kernel
theorem dX4_setWindow_57 : decode cX4_setWindow 57 = .ok (.iastore, 1) := by decide +kernel
theorem dX4_setWindow_58 : decode cX4_setWindow 58 = .ok (.return_, 1) := by decide +kernel
theorem dX4_judge_0 : decode cX4_judge 0 = .ok (.aload_n 0, 1) := by decide +kernel
theorem dX4_judge_1 : decode cX4_judge 1 = .ok (.getfield 55, 3) := by decide +kernel
theorem dX4_judge_4 : decode cX4_judge 4 = .ok (.iload_n 1, 1) := by decide +kernel
theorem dX4_judge_5 : decode cX4_judge 5 = .ok (.baload, 1) := by decide +kernel
theorem dX4_judge_6 : decode cX4_judge 6 = .ok (.ifCond .eq 18, 3) := by decide +kernel
theorem dX4_judge_9 : decode cX4_judge 9 = .ok (.aload_n 0, 1) := by decide +kernel
theorem dX4_judge_10 : decode cX4_judge 10 = .ok (.getfield 71, 3) := by decide +kernel
theorem dX4_judge_13 : decode cX4_judge 13 = .ok (.iload_n 1, 1) := by decide +kernel
theorem dX4_judge_14 : decode cX4_judge 14 = .ok (.iaload, 1) := by decide +kernel
theorem dX4_judge_15 : decode cX4_judge 15 = .ok (.aload_n 0, 1) := by decide +kernel
theorem dX4_judge_16 : decode cX4_judge 16 = .ok (.getfield 65, 3) := by decide +kernel
theorem dX4_judge_19 : decode cX4_judge 19 = .ok (.iload_n 1, 1) := by decide +kernel
theorem dX4_judge_20 : decode cX4_judge 20 = .ok (.iaload, 1) := by decide +kernel
theorem dX4_judge_21 : decode cX4_judge 21 = .ok (.if_icmp .ge 4, 3) := by decide +kernel
theorem dX4_judge_24 : decode cX4_judge 24 = .ok (.return_, 1) := by decide +kernel
theorem dX4_judge_25 : decode cX4_judge 25 = .ok (.aload_n 0, 1) := by decide +kernel
theorem dX4_judge_26 : decode cX4_judge 26 = .ok (.getfield 74, 3) := by decide +kernel
theorem dX4_judge_29 : decode cX4_judge 29 = .ok (.iload_n 1, 1) := by decide +kernel
theorem dX4_judge_30 : decode cX4_judge 30 = .ok (.iaload, 1) := by decide +kernel
theorem dX4_judge_31 : decode cX4_judge 31 = .ok (.sipush 1000, 3) := by decide +kernel
theorem dX4_judge_34 : decode cX4_judge 34 = .ok (.imul, 1) := by decide +kernel
theorem dX4_judge_35 : decode cX4_judge 35 = .ok (.aload_n 0, 1) := by decide +kernel
theorem dX4_judge_36 : decode cX4_judge 36 = .ok (.getfield 71, 3) := by decide +kernel
theorem dX4_judge_39 : decode cX4_judge 39 = .ok (.iload_n 1, 1) := by decide +kernel
theorem dX4_judge_40 : decode cX4_judge 40 = .ok (.iaload, 1) := by decide +kernel
theorem dX4_judge_41 : decode cX4_judge 41 = .ok (.aload_n 0, 1) := by decide +kernel
theorem dX4_judge_42 : decode cX4_judge 42 = .ok (.getfield 68, 3) := by decide +kernel
theorem dX4_judge_45 : decode cX4_judge 45 = .ok (.iload_n 1, 1) := by decide +kernel
theorem dX4_judge_46 : decode cX4_judge 46 = .ok (.iaload, 1) := by decide +kernel
theorem dX4_judge_47 : decode cX4_judge 47 = .ok (.imul, 1) := by decide +kernel
theorem dX4_judge_48 : decode cX4_judge 48 = .ok (.if_icmp .le 13, 3) := by decide +kernel
theorem dX4_judge_51 : decode cX4_judge 51 = .ok (.aload_n 0, 1) := by decide +kernel
theorem dX4_judge_52 : decode cX4_judge 52 = .ok (.getfield 55, 3) := by decide +kernel
theorem dX4_judge_55 : decode cX4_judge 55 = .ok (.iload_n 1, 1) := by decide +kernel
theorem dX4_judge_56 : decode cX4_judge 56 = .ok (.iconst 0, 1) := by decide +kernel
theorem dX4_judge_57 : decode cX4_judge 57 = .ok (.bastore, 1) := by decide +kernel
theorem dX4_judge_58 : decode cX4_judge 58 = .ok (.goto 37, 3) := by decide +kernel
theorem dX4_judge_61 : decode cX4_judge 61 = .ok (.aload_n 0, 1) := by decide +kernel
theorem dX4_judge_62 : decode cX4_judge 62 = .ok (.getfield 59, 3) := by decide +kernel
theorem dX4_judge_65 : decode cX4_judge 65 = .ok (.iload_n 1, 1) := by decide +kernel
theorem dX4_judge_66 : decode cX4_judge 66 = .ok (.iaload, 1) := by decide +kernel
theorem dX4_judge_67 : decode cX4_judge 67 = .ok (.iconst 2, 1) := by decide +kernel
theorem dX4_judge_68 : decode cX4_judge 68 = .ok (.if_icmp .ge 27, 3) := by decide +kernel
theorem dX4_judge_71 : decode cX4_judge 71 = .ok (.aload_n 0, 1) := by decide +kernel
theorem dX4_judge_72 : decode cX4_judge 72 = .ok (.getfield 59, 3) := by decide +kernel
theorem dX4_judge_75 : decode cX4_judge 75 = .ok (.iload_n 1, 1) := by decide +kernel
theorem dX4_judge_76 : decode cX4_judge 76 = .ok (.dup2, 1) := by decide +kernel
theorem dX4_judge_77 : decode cX4_judge 77 = .ok (.iaload, 1) := by decide +kernel
theorem dX4_judge_78 : decode cX4_judge 78 = .ok (.iconst 1, 1) := by decide +kernel
theorem dX4_judge_79 : decode cX4_judge 79 = .ok (.iadd, 1) := by decide +kernel
theorem dX4_judge_80 : decode cX4_judge 80 = .ok (.iastore, 1) := by decide +kernel
theorem dX4_judge_81 : decode cX4_judge 81 = .ok (.aload_n 0, 1) := by decide +kernel
theorem dX4_judge_82 : decode cX4_judge 82 = .ok (.getfield 71, 3) := by decide +kernel
theorem dX4_judge_85 : decode cX4_judge 85 = .ok (.iload_n 1, 1) := by decide +kernel
theorem dX4_judge_86 : decode cX4_judge 86 = .ok (.iconst 0, 1) := by decide +kernel
theorem dX4_judge_87 : decode cX4_judge 87 = .ok (.iastore, 1) := by decide +kernel
theorem dX4_judge_88 : decode cX4_judge 88 = .ok (.aload_n 0, 1) := by decide +kernel
theorem dX4_judge_89 : decode cX4_judge 89 = .ok (.getfield 74, 3) := by decide +kernel
theorem dX4_judge_92 : decode cX4_judge 92 = .ok (.iload_n 1, 1) := by decide +kernel
theorem dX4_judge_93 : decode cX4_judge 93 = .ok (.iconst 0, 1) := by decide +kernel
theorem dX4_judge_94 : decode cX4_judge 94 = .ok (.iastore, 1) := by decide +kernel
theorem dX4_judge_95 : decode cX4_judge 95 = .ok (.return_, 1) := by decide +kernel
theorem dX4_report_0 : decode cX4_report 0 = .ok (.aload_n 0, 1) := by decide +kernel
theorem dX4_report_1 : decode cX4_report 1 = .ok (.aload_n 0, 1) := by decide +kernel
theorem dX4_report_2 : decode cX4_report 2 = .ok (.iload_n 1, 1) := by decide +kernel
theorem dX4_report_3 : decode cX4_report 3 = .ok (.invokevirtual 113, 3) := by decide +kernel
theorem dX4_report_6 : decode cX4_report 6 = .ok (.ifCond .ne 7, 3) := by decide +kernel
theorem dX4_report_9 : decode cX4_report 9 = .ok (.iconst 1, 1) := by decide +kernel
theorem dX4_report_10 : decode cX4_report 10 = .ok (.goto 18, 3) := by decide +kernel
theorem dX4_report_13 : decode cX4_report 13 = .ok (.aload_n 0, 1) := by decide +kernel
theorem dX4_report_14 : decode cX4_report 14 = .ok (.getfield 37, 3) := by decide +kernel
theorem dX4_report_17 : decode cX4_report 17 = .ok (.iload_n 1, 1) := by decide +kernel
theorem dX4_report_18 : decode cX4_report 18 = .ok (.iaload, 1) := by decide +kernel
theorem dX4_report_19 : decode cX4_report 19 = .ok (.iconst 2, 1) := by decide +kernel
theorem dX4_report_20 : decode cX4_report 20 = .ok (.if_icmp .ne 7, 3) := by decide +kernel
theorem dX4_report_23 : decode cX4_report 23 = .ok (.iconst 0, 1) := by decide +kernel
theorem dX4_report_24 : decode cX4_report 24 = .ok (.goto 4, 3) := by decide +kernel
theorem dX4_report_27 : decode cX4_report 27 = .ok (.iconst 2, 1) := by decide +kernel
theorem dX4_report_28 : decode cX4_report 28 = .ok (.invokevirtual 99, 3) := by decide +kernel
theorem dX4_report_31 : decode cX4_report 31 = .ok (.ifCond .eq 5, 3) := by decide +kernel
theorem dX4_report_34 : decode cX4_report 34 = .ok (.iconst 0, 1) := by decide +kernel
theorem dX4_report_35 : decode cX4_report 35 = .ok (.ireturn, 1) := by decide +kernel
theorem dX4_report_36 : decode cX4_report 36 = .ok (.aload_n 0, 1) := by decide +kernel
theorem dX4_report_37 : decode cX4_report 37 = .ok (.getfield 40, 3) := by decide +kernel
theorem dX4_report_40 : decode cX4_report 40 = .ok (.iload_n 1, 1) := by decide +kernel
theorem dX4_report_41 : decode cX4_report 41 = .ok (.iaload, 1) := by decide +kernel
theorem dX4_report_42 : decode cX4_report 42 = .ok (.istore_n 3, 1) := by decide +kernel
theorem dX4_report_43 : decode cX4_report 43 = .ok (.aload_n 0, 1) := by decide +kernel
theorem dX4_report_44 : decode cX4_report 44 = .ok (.getfield 25, 3) := by decide +kernel
theorem dX4_report_47 : decode cX4_report 47 = .ok (.iload_n 1, 1) := by decide +kernel
theorem dX4_report_48 : decode cX4_report 48 = .ok (.iload_n 2, 1) := by decide +kernel
theorem dX4_report_49 : decode cX4_report 49 = .ok (.ifCond .eq 12, 3) := by decide +kernel
theorem dX4_report_52 : decode cX4_report 52 = .ok (.aload_n 0, 1) := by decide +kernel
theorem dX4_report_53 : decode cX4_report 53 = .ok (.getfield 46, 3) := by decide +kernel
theorem dX4_report_56 : decode cX4_report 56 = .ok (.iload_n 3, 1) := by decide +kernel
theorem dX4_report_57 : decode cX4_report 57 = .ok (.iaload, 1) := by decide +kernel
theorem dX4_report_58 : decode cX4_report 58 = .ok (.goto 9, 3) := by decide +kernel
theorem dX4_report_61 : decode cX4_report 61 = .ok (.aload_n 0, 1) := by decide +kernel
theorem dX4_report_62 : decode cX4_report 62 = .ok (.getfield 25, 3) := by decide +kernel
theorem dX4_report_65 : decode cX4_report 65 = .ok (.iload_n 1, 1) := by decide +kernel
theorem dX4_report_66 : decode cX4_report 66 = .ok (.iaload, 1) := by decide +kernel
theorem dX4_report_67 : decode cX4_report 67 = .ok (.iastore, 1) := by decide +kernel
theorem dX4_report_68 : decode cX4_report 68 = .ok (.aload_n 0, 1) := by decide +kernel
theorem dX4_report_69 : decode cX4_report 69 = .ok (.getfield 37, 3) := by decide +kernel
theorem dX4_report_72 : decode cX4_report 72 = .ok (.iload_n 1, 1) := by decide +kernel
theorem dX4_report_73 : decode cX4_report 73 = .ok (.iconst 0, 1) := by decide +kernel
theorem dX4_report_74 : decode cX4_report 74 = .ok (.iastore, 1) := by decide +kernel
theorem dX4_report_75 : decode cX4_report 75 = .ok (.aload_n 0, 1) := by decide +kernel
theorem dX4_report_76 : decode cX4_report 76 = .ok (.getfield 40, 3) := by decide +kernel
theorem dX4_report_79 : decode cX4_report 79 = .ok (.iload_n 1, 1) := by decide +kernel
theorem dX4_report_80 : decode cX4_report 80 = .ok (.iconst (-1), 1) := by decide +kernel
theorem dX4_report_81 : decode cX4_report 81 = .ok (.iastore, 1) := by decide +kernel
theorem dX4_report_82 : decode cX4_report 82 = .ok (.aload_n 0, 1) := by decide +kernel
theorem dX4_report_83 : decode cX4_report 83 = .ok (.getfield 77, 3) := by decide +kernel
theorem dX4_report_86 : decode cX4_report 86 = .ok (.iload_n 3, 1) := by decide +kernel
theorem dX4_report_87 : decode cX4_report 87 = .ok (.dup2, 1) := by decide +kernel
theorem dX4_report_88 : decode cX4_report 88 = .ok (.iaload, 1) := by decide +kernel
theorem dX4_report_89 : decode cX4_report 89 = .ok (.iconst 1, 1) := by decide +kernel
theorem dX4_report_90 : decode cX4_report 90 = .ok (.iload_n 1, 1) := by decide +kernel
theorem dX4_report_91 : decode cX4_report 91 = .ok (.ishl, 1) := by decide +kernel
theorem dX4_report_92 : decode cX4_report 92 = .ok (.ior, 1) := by decide +kernel
theorem dX4_report_93 : decode cX4_report 93 = .ok (.iastore, 1) := by decide +kernel
theorem dX4_report_94 : decode cX4_report 94 = .ok (.aload_n 0, 1) := by decide +kernel
theorem dX4_report_95 : decode cX4_report 95 = .ok (.getfield 71, 3) := by decide +kernel
theorem dX4_report_98 : decode cX4_report 98 = .ok (.iload_n 3, 1) := by decide +kernel
theorem dX4_report_99 : decode cX4_report 99 = .ok (.dup2, 1) := by decide +kernel
theorem dX4_report_100 : decode cX4_report 100 = .ok (.iaload, 1) := by decide +kernel
theorem dX4_report_101 : decode cX4_report 101 = .ok (.iconst 1, 1) := by decide +kernel
theorem dX4_report_102 : decode cX4_report 102 = .ok (.iadd, 1) := by decide +kernel
theorem dX4_report_103 : decode cX4_report 103 = .ok (.iastore, 1) := by decide +kernel
theorem dX4_report_104 : decode cX4_report 104 = .ok (.aload_n 0, 1) := by decide +kernel
theorem dX4_report_105 : decode cX4_report 105 = .ok (.getfield 74, 3) := by decide +kernel
theorem dX4_report_108 : decode cX4_report 108 = .ok (.iload_n 3, 1) := by decide +kernel
theorem dX4_report_109 : decode cX4_report 109 = .ok (.dup2, 1) := by decide +kernel
theorem dX4_report_110 : decode cX4_report 110 = .ok (.iaload, 1) := by decide +kernel
theorem dX4_report_111 : decode cX4_report 111 = .ok (.iload_n 2, 1) := by decide +kernel
theorem dX4_report_112 : decode cX4_report 112 = .ok (.ifCond .eq 7, 3) := by decide +kernel
theorem dX4_report_115 : decode cX4_report 115 = .ok (.iconst 0, 1) := by decide +kernel
theorem dX4_report_116 : decode cX4_report 116 = .ok (.goto 4, 3) := by decide +kernel
theorem dX4_report_119 : decode cX4_report 119 = .ok (.iconst 1, 1) := by decide +kernel
theorem dX4_report_120 : decode cX4_report 120 = .ok (.iadd, 1) := by decide +kernel
theorem dX4_report_121 : decode cX4_report 121 = .ok (.iastore, 1) := by decide +kernel
theorem dX4_report_122 : decode cX4_report 122 = .ok (.aload_n 0, 1) := by decide +kernel
theorem dX4_report_123 : decode cX4_report 123 = .ok (.iload_n 3, 1) := by decide +kernel
theorem dX4_report_124 : decode cX4_report 124 = .ok (.invokevirtual 116, 3) := by decide +kernel
theorem dX4_report_127 : decode cX4_report 127 = .ok (.aload_n 0, 1) := by decide +kernel
theorem dX4_report_128 : decode cX4_report 128 = .ok (.getfield 25, 3) := by decide +kernel
theorem dX4_report_131 : decode cX4_report 131 = .ok (.iload_n 1, 1) := by decide +kernel
theorem dX4_report_132 : decode cX4_report 132 = .ok (.iaload, 1) := by decide +kernel
theorem dX4_report_133 : decode cX4_report 133 = .ok (.ireturn, 1) := by decide +kernel
theorem dX4_devices_0 : decode cX4_devices 0 = .ok (.aload_n 0, 1) := by decide +kernel
theorem dX4_devices_1 : decode cX4_devices 1 = .ok (.aload_n 0, 1) := by decide +kernel
theorem dX4_devices_2 : decode cX4_devices 2 = .ok (.getfield 89, 3) := by decide +kernel
theorem dX4_devices_5 : decode cX4_devices 5 = .ok (.invokevirtual 120, 3) := by decide +kernel
theorem dX4_devices_8 : decode cX4_devices 8 = .ok (.ireturn, 1) := by decide +kernel
theorem dX4_noDevice_0 : decode cX4_noDevice 0 = .ok (.aload_n 0, 1) := by decide +kernel
theorem dX4_noDevice_1 : decode cX4_noDevice 1 = .ok (.aload_n 0, 1) := by decide +kernel
theorem dX4_noDevice_2 : decode cX4_noDevice 2 = .ok (.iload_n 1, 1) := by decide +kernel
theorem dX4_noDevice_3 : decode cX4_noDevice 3 = .ok (.invokevirtual 113, 3) := by decide +kernel
theorem dX4_noDevice_6 : decode cX4_noDevice 6 = .ok (.ifCond .eq 7, 3) := by decide +kernel
theorem dX4_noDevice_9 : decode cX4_noDevice 9 = .ok (.iconst 0, 1) := by decide +kernel
theorem dX4_noDevice_10 : decode cX4_noDevice 10 = .ok (.goto 4, 3) := by decide +kernel
theorem dX4_noDevice_13 : decode cX4_noDevice 13 = .ok (.iconst 1, 1) := by decide +kernel
theorem dX4_noDevice_14 : decode cX4_noDevice 14 = .ok (.invokevirtual 99, 3) := by decide +kernel
theorem dX4_noDevice_17 : decode cX4_noDevice 17 = .ok (.ireturn, 1) := by decide +kernel
theorem dX4_state_0 : decode cX4_state 0 = .ok (.aload_n 0, 1) := by decide +kernel
theorem dX4_state_1 : decode cX4_state 1 = .ok (.iload_n 1, 1) := by decide +kernel
theorem dX4_state_2 : decode cX4_state 2 = .ok (.invokevirtual 124, 3) := by decide +kernel
theorem dX4_state_5 : decode cX4_state 5 = .ok (.ifCond .eq 7, 3) := by decide +kernel
theorem dX4_state_8 : decode cX4_state 8 = .ok (.iconst 0, 1) := by decide +kernel
theorem dX4_state_9 : decode cX4_state 9 = .ok (.goto 9, 3) := by decide +kernel
theorem dX4_state_12 : decode cX4_state 12 = .ok (.aload_n 0, 1) := by decide +kernel
theorem dX4_state_13 : decode cX4_state 13 = .ok (.getfield 37, 3) := by decide +kernel
theorem dX4_state_16 : decode cX4_state 16 = .ok (.iload_n 1, 1) := by decide +kernel
theorem dX4_state_17 : decode cX4_state 17 = .ok (.iaload, 1) := by decide +kernel
theorem dX4_state_18 : decode cX4_state 18 = .ok (.ireturn, 1) := by decide +kernel
theorem dX4_version_0 : decode cX4_version 0 = .ok (.aload_n 0, 1) := by decide +kernel
theorem dX4_version_1 : decode cX4_version 1 = .ok (.iload_n 1, 1) := by decide +kernel
theorem dX4_version_2 : decode cX4_version 2 = .ok (.invokevirtual 124, 3) := by decide +kernel
theorem dX4_version_5 : decode cX4_version 5 = .ok (.ifCond .eq 7, 3) := by decide +kernel
theorem dX4_version_8 : decode cX4_version 8 = .ok (.iconst 0, 1) := by decide +kernel
theorem dX4_version_9 : decode cX4_version 9 = .ok (.goto 9, 3) := by decide +kernel
theorem dX4_version_12 : decode cX4_version 12 = .ok (.aload_n 0, 1) := by decide +kernel
theorem dX4_version_13 : decode cX4_version 13 = .ok (.getfield 25, 3) := by decide +kernel
theorem dX4_version_16 : decode cX4_version 16 = .ok (.iload_n 1, 1) := by decide +kernel
theorem dX4_version_17 : decode cX4_version 17 = .ok (.iaload, 1) := by decide +kernel
theorem dX4_version_18 : decode cX4_version 18 = .ok (.ireturn, 1) := by decide +kernel
theorem dX4_campaignOf_0 : decode cX4_campaignOf 0 = .ok (.aload_n 0, 1) := by decide +kernel
theorem dX4_campaignOf_1 : decode cX4_campaignOf 1 = .ok (.iload_n 1, 1) := by decide +kernel
theorem dX4_campaignOf_2 : decode cX4_campaignOf 2 = .ok (.invokevirtual 124, 3) := by decide +kernel
theorem dX4_campaignOf_5 : decode cX4_campaignOf 5 = .ok (.ifCond .eq 7, 3) := by decide +kernel
theorem dX4_campaignOf_8 : decode cX4_campaignOf 8 = .ok (.iconst 0, 1) := by decide +kernel
theorem dX4_campaignOf_9 : decode cX4_campaignOf 9 = .ok (.goto 9, 3) := by decide +kernel
theorem dX4_campaignOf_12 : decode cX4_campaignOf 12 = .ok (.aload_n 0, 1) := by decide +kernel
theorem dX4_campaignOf_13 : decode cX4_campaignOf 13 = .ok (.getfield 40, 3) := by decide +kernel
theorem dX4_campaignOf_16 : decode cX4_campaignOf 16 = .ok (.iload_n 1, 1) := by decide +kernel
theorem dX4_campaignOf_17 : decode cX4_campaignOf 17 = .ok (.iaload, 1) := by decide +kernel
theorem dX4_campaignOf_18 : decode cX4_campaignOf 18 = .ok (.ireturn, 1) := by decide +kernel
theorem dX4_toGo_0 : decode cX4_toGo 0 = .ok (.aload_n 0, 1) := by decide +kernel
theorem dX4_toGo_1 : decode cX4_toGo 1 = .ok (.iload_n 1, 1) := by decide +kernel
theorem dX4_toGo_2 : decode cX4_toGo 2 = .ok (.invokevirtual 124, 3) := by decide +kernel
theorem dX4_toGo_5 : decode cX4_toGo 5 = .ok (.ifCond .eq 7, 3) := by decide +kernel
theorem dX4_toGo_8 : decode cX4_toGo 8 = .ok (.iconst 0, 1) := by decide +kernel
theorem dX4_toGo_9 : decode cX4_toGo 9 = .ok (.goto 9, 3) := by decide +kernel
theorem dX4_toGo_12 : decode cX4_toGo 12 = .ok (.aload_n 0, 1) := by decide +kernel
theorem dX4_toGo_13 : decode cX4_toGo 13 = .ok (.getfield 43, 3) := by decide +kernel
theorem dX4_toGo_16 : decode cX4_toGo 16 = .ok (.iload_n 1, 1) := by decide +kernel
theorem dX4_toGo_17 : decode cX4_toGo 17 = .ok (.iaload, 1) := by decide +kernel
theorem dX4_toGo_18 : decode cX4_toGo 18 = .ok (.ireturn, 1) := by decide +kernel
theorem dX4_battery_0 : decode cX4_battery 0 = .ok (.aload_n 0, 1) := by decide +kernel
theorem dX4_battery_1 : decode cX4_battery 1 = .ok (.iload_n 1, 1) := by decide +kernel
theorem dX4_battery_2 : decode cX4_battery 2 = .ok (.invokevirtual 124, 3) := by decide +kernel
theorem dX4_battery_5 : decode cX4_battery 5 = .ok (.ifCond .eq 7, 3) := by decide +kernel
theorem dX4_battery_8 : decode cX4_battery 8 = .ok (.iconst 0, 1) := by decide +kernel
theorem dX4_battery_9 : decode cX4_battery 9 = .ok (.goto 9, 3) := by decide +kernel
theorem dX4_battery_12 : decode cX4_battery 12 = .ok (.aload_n 0, 1) := by decide +kernel
theorem dX4_battery_13 : decode cX4_battery 13 = .ok (.getfield 28, 3) := by decide +kernel
theorem dX4_battery_16 : decode cX4_battery 16 = .ok (.iload_n 1, 1) := by decide +kernel
theorem dX4_battery_17 : decode cX4_battery 17 = .ok (.iaload, 1) := by decide +kernel
theorem dX4_battery_18 : decode cX4_battery 18 = .ok (.ireturn, 1) := by decide +kernel
theorem dX4_begin_0 : decode cX4_begin 0 = .ok (.iload_n 1, 1) := by decide +kernel
theorem dX4_begin_1 : decode cX4_begin 1 = .ok (.invokestatic 95, 3) := by decide +kernel
theorem dX4_begin_4 : decode cX4_begin 4 = .ok (.ifCond .eq 22, 3) := by decide +kernel
theorem dX4_begin_7 : decode cX4_begin 7 = .ok (.iload 4, 2) := by decide +kernel
theorem dX4_begin_9 : decode cX4_begin 9 = .ok (.iconst (-1), 1) := by decide +kernel
theorem dX4_begin_10 : decode cX4_begin 10 = .ok (.if_icmp .eq 12, 3) := by decide +kernel
theorem dX4_begin_13 : decode cX4_begin 13 = .ok (.aload_n 0, 1) := by decide +kernel
theorem dX4_begin_14 : decode cX4_begin 14 = .ok (.iload 4, 2) := by decide +kernel
theorem dX4_begin_16 : decode cX4_begin 16 = .ok (.invokevirtual 127, 3) := by decide +kernel
theorem dX4_begin_19 : decode cX4_begin 19 = .ok (.ifCond .eq 7, 3) := by decide +kernel
theorem dX4_begin_22 : decode cX4_begin 22 = .ok (.iconst 1, 1) := by decide +kernel
theorem dX4_begin_23 : decode cX4_begin 23 = .ok (.goto 4, 3) := by decide +kernel
theorem dX4_begin_26 : decode cX4_begin 26 = .ok (.iconst 0, 1) := by decide +kernel
theorem dX4_begin_27 : decode cX4_begin 27 = .ok (.istore 5, 2) := by decide +kernel
theorem dX4_begin_29 : decode cX4_begin 29 = .ok (.iload_n 2, 1) := by decide +kernel
theorem dX4_begin_30 : decode cX4_begin 30 = .ok (.iconst 0, 1) := by decide +kernel
theorem dX4_begin_31 : decode cX4_begin 31 = .ok (.bipush 15, 2) := by decide +kernel
theorem dX4_begin_33 : decode cX4_begin 33 = .ok (.invokestatic 84, 3) := by decide +kernel
theorem dX4_begin_36 : decode cX4_begin 36 = .ok (.ifCond .eq 18, 3) := by decide +kernel
theorem dX4_begin_39 : decode cX4_begin 39 = .ok (.iload_n 3, 1) := by decide +kernel
theorem dX4_begin_40 : decode cX4_begin 40 = .ok (.iconst 0, 1) := by decide +kernel
theorem dX4_begin_41 : decode cX4_begin 41 = .ok (.sipush 255, 3) := by decide +kernel
theorem dX4_begin_44 : decode cX4_begin 44 = .ok (.invokestatic 84, 3) := by decide +kernel
theorem dX4_begin_47 : decode cX4_begin 47 = .ok (.ifCond .eq 7, 3) := by decide +kernel
theorem dX4_begin_50 : decode cX4_begin 50 = .ok (.iconst 1, 1) := by decide +kernel
theorem dX4_begin_51 : decode cX4_begin 51 = .ok (.goto 4, 3) := by decide +kernel
theorem dX4_begin_54 : decode cX4_begin 54 = .ok (.iconst 0, 1) := by decide +kernel
theorem dX4_begin_55 : decode cX4_begin 55 = .ok (.istore 6, 2) := by decide +kernel
theorem dX4_begin_57 : decode cX4_begin 57 = .ok (.aload_n 0, 1) := by decide +kernel
theorem dX4_begin_58 : decode cX4_begin 58 = .ok (.iload 5, 2) := by decide +kernel
theorem dX4_begin_60 : decode cX4_begin 60 = .ok (.ifCond .ne 7, 3) := by decide +kernel
theorem dX4_begin_63 : decode cX4_begin 63 = .ok (.iconst 1, 1) := by decide +kernel
theorem dX4_begin_64 : decode cX4_begin 64 = .ok (.goto 26, 3) := by decide +kernel
theorem dX4_begin_67 : decode cX4_begin 67 = .ok (.iload 6, 2) := by decide +kernel
theorem dX4_begin_69 : decode cX4_begin 69 = .ok (.ifCond .ne 7, 3) := by decide +kernel
theorem dX4_begin_72 : decode cX4_begin 72 = .ok (.iconst 2, 1) := by decide +kernel
theorem dX4_begin_73 : decode cX4_begin 73 = .ok (.goto 17, 3) := by decide +kernel
theorem dX4_begin_76 : decode cX4_begin 76 = .ok (.aload_n 0, 1) := by decide +kernel
theorem dX4_begin_77 : decode cX4_begin 77 = .ok (.getfield 92, 3) := by decide +kernel
theorem dX4_begin_80 : decode cX4_begin 80 = .ok (.bipush 6, 2) := by decide +kernel
theorem dX4_begin_82 : decode cX4_begin 82 = .ok (.if_icmp .ne 7, 3) := by decide +kernel
theorem dX4_begin_85 : decode cX4_begin 85 = .ok (.iconst 3, 1) := by decide +kernel
theorem dX4_begin_86 : decode cX4_begin 86 = .ok (.goto 4, 3) := by decide +kernel
theorem dX4_begin_89 : decode cX4_begin 89 = .ok (.iconst 0, 1) := by decide +kernel
theorem dX4_begin_90 : decode cX4_begin 90 = .ok (.invokevirtual 99, 3) := by decide +kernel
theorem dX4_begin_93 : decode cX4_begin 93 = .ok (.ifCond .eq 5, 3) := by decide +kernel
theorem dX4_begin_96 : decode cX4_begin 96 = .ok (.iconst 0, 1) := by decide +kernel
theorem dX4_begin_97 : decode cX4_begin 97 = .ok (.ireturn, 1) := by decide +kernel
theorem dX4_begin_98 : decode cX4_begin 98 = .ok (.iload 4, 2) := by decide +kernel
theorem dX4_begin_100 : decode cX4_begin 100 = .ok (.iconst (-1), 1) := by decide +kernel
theorem dX4_begin_101 : decode cX4_begin 101 = .ok (.if_icmp .eq 11, 3) := by decide +kernel
theorem dX4_begin_104 : decode cX4_begin 104 = .ok (.aload_n 0, 1) := by decide +kernel
theorem dX4_begin_105 : decode cX4_begin 105 = .ok (.getfield 55, 3) := by decide +kernel
theorem dX4_begin_108 : decode cX4_begin 108 = .ok (.iload 4, 2) := by decide +kernel
theorem dX4_begin_110 : decode cX4_begin 110 = .ok (.iconst 0, 1) := by decide +kernel
theorem dX4_begin_111 : decode cX4_begin 111 = .ok (.bastore, 1) := by decide +kernel
theorem dX4_begin_112 : decode cX4_begin 112 = .ok (.aload_n 0, 1) := by decide +kernel
theorem dX4_begin_113 : decode cX4_begin 113 = .ok (.getfield 46, 3) := by decide +kernel
theorem dX4_begin_116 : decode cX4_begin 116 = .ok (.aload_n 0, 1) := by decide +kernel
theorem dX4_begin_117 : decode cX4_begin 117 = .ok (.getfield 92, 3) := by decide +kernel
theorem dX4_begin_120 : decode cX4_begin 120 = .ok (.iload_n 1, 1) := by decide +kernel
theorem dX4_begin_121 : decode cX4_begin 121 = .ok (.iastore, 1) := by decide +kernel
theorem dX4_begin_122 : decode cX4_begin 122 = .ok (.aload_n 0, 1) := by decide +kernel
theorem dX4_begin_123 : decode cX4_begin 123 = .ok (.getfield 49, 3) := by decide +kernel
theorem dX4_begin_126 : decode cX4_begin 126 = .ok (.aload_n 0, 1) := by decide +kernel
theorem dX4_begin_127 : decode cX4_begin 127 = .ok (.getfield 92, 3) := by decide +kernel
theorem dX4_begin_130 : decode cX4_begin 130 = .ok (.iload_n 2, 1) := by decide +kernel
theorem dX4_begin_131 : decode cX4_begin 131 = .ok (.iastore, 1) := by decide +kernel
theorem dX4_begin_132 : decode cX4_begin 132 = .ok (.aload_n 0, 1) := by decide +kernel
theorem dX4_begin_133 : decode cX4_begin 133 = .ok (.getfield 52, 3) := by decide +kernel
theorem dX4_begin_136 : decode cX4_begin 136 = .ok (.aload_n 0, 1) := by decide +kernel
theorem dX4_begin_137 : decode cX4_begin 137 = .ok (.getfield 92, 3) := by decide +kernel
theorem dX4_begin_140 : decode cX4_begin 140 = .ok (.iload_n 3, 1) := by decide +kernel
theorem dX4_begin_141 : decode cX4_begin 141 = .ok (.iastore, 1) := by decide +kernel
theorem dX4_begin_142 : decode cX4_begin 142 = .ok (.aload_n 0, 1) := by decide +kernel
theorem dX4_begin_143 : decode cX4_begin 143 = .ok (.getfield 55, 3) := by decide +kernel
theorem dX4_begin_146 : decode cX4_begin 146 = .ok (.aload_n 0, 1) := by decide +kernel
theorem dX4_begin_147 : decode cX4_begin 147 = .ok (.getfield 92, 3) := by decide +kernel
theorem dX4_begin_150 : decode cX4_begin 150 = .ok (.iconst 1, 1) := by decide +kernel
theorem dX4_begin_151 : decode cX4_begin 151 = .ok (.bastore, 1) := by decide +kernel
theorem dX4_begin_152 : decode cX4_begin 152 = .ok (.aload_n 0, 1) := by decide +kernel
theorem dX4_begin_153 : decode cX4_begin 153 = .ok (.getfield 62, 3) := by decide +kernel
theorem dX4_begin_156 : decode cX4_begin 156 = .ok (.iconst 3, 1) := by decide +kernel
theorem dX4_begin_157 : decode cX4_begin 157 = .ok (.aload_n 0, 1) := by decide +kernel
theorem dX4_begin_158 : decode cX4_begin 158 = .ok (.getfield 92, 3) := by decide +kernel
theorem dX4_begin_161 : decode cX4_begin 161 = .ok (.imul, 1) := by decide +kernel
theorem dX4_begin_162 : decode cX4_begin 162 = .ok (.bipush 10, 2) := by decide +kernel
theorem dX4_begin_164 : decode cX4_begin 164 = .ok (.iastore, 1) := by decide +kernel
theorem dX4_begin_165 : decode cX4_begin 165 = .ok (.aload_n 0, 1) := by decide +kernel
theorem dX4_begin_166 : decode cX4_begin 166 = .ok (.getfield 62, 3) := by decide +kernel
theorem dX4_begin_169 : decode cX4_begin 169 = .ok (.iconst 3, 1) := by decide +kernel
theorem dX4_begin_170 : decode cX4_begin 170 = .ok (.aload_n 0, 1) := by decide +kernel
theorem dX4_begin_171 : decode cX4_begin 171 = .ok (.getfield 92, 3) := by decide +kernel
theorem dX4_begin_174 : decode cX4_begin 174 = .ok (.imul, 1) := by decide +kernel
theorem dX4_begin_175 : decode cX4_begin 175 = .ok (.iconst 1, 1) := by decide +kernel
theorem dX4_begin_176 : decode cX4_begin 176 = .ok (.iadd, 1) := by decide +kernel
theorem dX4_begin_177 : decode cX4_begin 177 = .ok (.bipush 50, 2) := by decide +kernel
theorem dX4_begin_179 : decode cX4_begin 179 = .ok (.iastore, 1) := by decide +kernel
theorem dX4_begin_180 : decode cX4_begin 180 = .ok (.aload_n 0, 1) := by decide +kernel
theorem dX4_begin_181 : decode cX4_begin 181 = .ok (.getfield 62, 3) := by decide +kernel
theorem dX4_begin_184 : decode cX4_begin 184 = .ok (.iconst 3, 1) := by decide +kernel
theorem dX4_begin_185 : decode cX4_begin 185 = .ok (.aload_n 0, 1) := by decide +kernel
theorem dX4_begin_186 : decode cX4_begin 186 = .ok (.getfield 92, 3) := by decide +kernel
theorem dX4_begin_189 : decode cX4_begin 189 = .ok (.imul, 1) := by decide +kernel
theorem dX4_begin_190 : decode cX4_begin 190 = .ok (.iconst 2, 1) := by decide +kernel
theorem dX4_begin_191 : decode cX4_begin 191 = .ok (.iadd, 1) := by decide +kernel
theorem dX4_begin_192 : decode cX4_begin 192 = .ok (.bipush 100, 2) := by decide +kernel
theorem dX4_begin_194 : decode cX4_begin 194 = .ok (.iastore, 1) := by decide +kernel
theorem dX4_begin_195 : decode cX4_begin 195 = .ok (.aload_n 0, 1) := by decide +kernel
theorem dX4_begin_196 : decode cX4_begin 196 = .ok (.getfield 65, 3) := by decide +kernel
theorem dX4_begin_199 : decode cX4_begin 199 = .ok (.aload_n 0, 1) := by decide +kernel
theorem dX4_begin_200 : decode cX4_begin 200 = .ok (.getfield 92, 3) := by decide +kernel
theorem dX4_begin_203 : decode cX4_begin 203 = .ok (.iconst 3, 1) := by decide +kernel
theorem dX4_begin_204 : decode cX4_begin 204 = .ok (.iastore, 1) := by decide +kernel
theorem dX4_begin_205 : decode cX4_begin 205 = .ok (.aload_n 0, 1) := by decide +kernel
theorem dX4_begin_206 : decode cX4_begin 206 = .ok (.getfield 68, 3) := by decide +kernel
theorem dX4_begin_209 : decode cX4_begin 209 = .ok (.aload_n 0, 1) := by decide +kernel
theorem dX4_begin_210 : decode cX4_begin 210 = .ok (.getfield 92, 3) := by decide +kernel
theorem dX4_begin_213 : decode cX4_begin 213 = .ok (.sipush 200, 3) := by decide +kernel
theorem dX4_begin_216 : decode cX4_begin 216 = .ok (.iastore, 1) := by decide +kernel
theorem dX4_begin_217 : decode cX4_begin 217 = .ok (.aload_n 0, 1) := by decide +kernel
theorem dX4_begin_218 : decode cX4_begin 218 = .ok (.dup, 1) := by decide +kernel
theorem dX4_begin_219 : decode cX4_begin 219 = .ok (.getfield 92, 3) := by decide +kernel
theorem dX4_begin_222 : decode cX4_begin 222 = .ok (.iconst 1, 1) := by decide +kernel
theorem dX4_begin_223 : decode cX4_begin 223 = .ok (.iadd, 1) := by decide +kernel
theorem dX4_begin_224 : decode cX4_begin 224 = .ok (.putfield 92, 3) := by decide +kernel
theorem dX4_begin_227 : decode cX4_begin 227 = .ok (.aload_n 0, 1) := by decide +kernel
theorem dX4_begin_228 : decode cX4_begin 228 = .ok (.getfield 92, 3) := by decide +kernel
theorem dX4_begin_231 : decode cX4_begin 231 = .ok (.iconst 1, 1) := by decide +kernel
theorem dX4_begin_232 : decode cX4_begin 232 = .ok (.isub, 1) := by decide +kernel
theorem dX4_begin_233 : decode cX4_begin 233 = .ok (.ireturn, 1) := by decide +kernel
theorem dX4_setRules_0 : decode cX4_setRules 0 = .ok (.iload_n 2, 1) := by decide +kernel
theorem dX4_setRules_1 : decode cX4_setRules 1 = .ok (.iconst 0, 1) := by decide +kernel
theorem dX4_setRules_2 : decode cX4_setRules 2 = .ok (.bipush 100, 2) := by decide +kernel
theorem dX4_setRules_4 : decode cX4_setRules 4 = .ok (.invokestatic 84, 3) := by decide +kernel
theorem dX4_setRules_7 : decode cX4_setRules 7 = .ok (.ifCond .eq 40, 3) := by decide +kernel
theorem dX4_setRules_10 : decode cX4_setRules 10 = .ok (.iload_n 3, 1) := by decide +kernel
theorem dX4_setRules_11 : decode cX4_setRules 11 = .ok (.iload_n 2, 1) := by decide +kernel
theorem dX4_setRules_12 : decode cX4_setRules 12 = .ok (.bipush 100, 2) := by decide +kernel
theorem dX4_setRules_14 : decode cX4_setRules 14 = .ok (.invokestatic 84, 3) := by decide +kernel
theorem dX4_setRules_17 : decode cX4_setRules 17 = .ok (.ifCond .eq 30, 3) := by decide +kernel
theorem dX4_setRules_20 : decode cX4_setRules 20 = .ok (.iload 4, 2) := by decide +kernel
theorem dX4_setRules_22 : decode cX4_setRules 22 = .ok (.iconst 1, 1) := by decide +kernel
theorem dX4_setRules_23 : decode cX4_setRules 23 = .ok (.bipush 10, 2) := by decide +kernel
theorem dX4_setRules_25 : decode cX4_setRules 25 = .ok (.invokestatic 84, 3) := by decide +kernel
theorem dX4_setRules_28 : decode cX4_setRules 28 = .ok (.ifCond .eq 19, 3) := by decide +kernel
theorem dX4_setRules_31 : decode cX4_setRules 31 = .ok (.iload 5, 2) := by decide +kernel
theorem dX4_setRules_33 : decode cX4_setRules 33 = .ok (.iconst 0, 1) := by decide +kernel
theorem dX4_setRules_34 : decode cX4_setRules 34 = .ok (.sipush 1000, 3) := by decide +kernel
theorem dX4_setRules_37 : decode cX4_setRules 37 = .ok (.invokestatic 84, 3) := by decide +kernel
theorem dX4_setRules_40 : decode cX4_setRules 40 = .ok (.ifCond .eq 7, 3) := by decide +kernel
theorem dX4_setRules_43 : decode cX4_setRules 43 = .ok (.iconst 1, 1) := by decide +kernel
theorem dX4_setRules_44 : decode cX4_setRules 44 = .ok (.goto 4, 3) := by decide +kernel
theorem dX4_setRules_47 : decode cX4_setRules 47 = .ok (.iconst 0, 1) := by decide +kernel
theorem dX4_setRules_48 : decode cX4_setRules 48 = .ok (.istore 6, 2) := by decide +kernel
theorem dX4_setRules_50 : decode cX4_setRules 50 = .ok (.aload_n 0, 1) := by decide +kernel
theorem dX4_setRules_51 : decode cX4_setRules 51 = .ok (.aload_n 0, 1) := by decide +kernel
theorem dX4_setRules_52 : decode cX4_setRules 52 = .ok (.iload_n 1, 1) := by decide +kernel
theorem dX4_setRules_53 : decode cX4_setRules 53 = .ok (.invokevirtual 127, 3) := by decide +kernel
theorem dX4_setRules_56 : decode cX4_setRules 56 = .ok (.ifCond .ne 7, 3) := by decide +kernel
theorem dX4_setRules_59 : decode cX4_setRules 59 = .ok (.iconst 1, 1) := by decide +kernel
theorem dX4_setRules_60 : decode cX4_setRules 60 = .ok (.goto 13, 3) := by decide +kernel
theorem dX4_setRules_63 : decode cX4_setRules 63 = .ok (.iload 6, 2) := by decide +kernel
theorem dX4_setRules_65 : decode cX4_setRules 65 = .ok (.ifCond .eq 7, 3) := by decide +kernel
theorem dX4_setRules_68 : decode cX4_setRules 68 = .ok (.iconst 0, 1) := by decide +kernel
theorem dX4_setRules_69 : decode cX4_setRules 69 = .ok (.goto 4, 3) := by decide +kernel
theorem dX4_setRules_72 : decode cX4_setRules 72 = .ok (.iconst 2, 1) := by decide +kernel
theorem dX4_setRules_73 : decode cX4_setRules 73 = .ok (.invokevirtual 99, 3) := by decide +kernel
theorem dX4_setRules_76 : decode cX4_setRules 76 = .ok (.ifCond .ne 39, 3) := by decide +kernel
theorem dX4_setRules_79 : decode cX4_setRules 79 = .ok (.aload_n 0, 1) := by decide +kernel
theorem dX4_setRules_80 : decode cX4_setRules 80 = .ok (.getfield 62, 3) := by decide +kernel
theorem dX4_setRules_83 : decode cX4_setRules 83 = .ok (.iconst 3, 1) := by decide +kernel
theorem dX4_setRules_84 : decode cX4_setRules 84 = .ok (.iload_n 1, 1) := by decide +kernel
theorem dX4_setRules_85 : decode cX4_setRules 85 = .ok (.imul, 1) := by decide +kernel
theorem dX4_setRules_86 : decode cX4_setRules 86 = .ok (.iload_n 2, 1) := by decide +kernel
theorem dX4_setRules_87 : decode cX4_setRules 87 = .ok (.iastore, 1) := by decide +kernel
theorem dX4_setRules_88 : decode cX4_setRules 88 = .ok (.aload_n 0, 1) := by decide +kernel
theorem dX4_setRules_89 : decode cX4_setRules 89 = .ok (.getfield 62, 3) := by decide +kernel
theorem dX4_setRules_92 : decode cX4_setRules 92 = .ok (.iconst 3, 1) := by decide +kernel
theorem dX4_setRules_93 : decode cX4_setRules 93 = .ok (.iload_n 1, 1) := by decide +kernel
theorem dX4_setRules_94 : decode cX4_setRules 94 = .ok (.imul, 1) := by decide +kernel
theorem dX4_setRules_95 : decode cX4_setRules 95 = .ok (.iconst 1, 1) := by decide +kernel
theorem dX4_setRules_96 : decode cX4_setRules 96 = .ok (.iadd, 1) := by decide +kernel
theorem dX4_setRules_97 : decode cX4_setRules 97 = .ok (.iload_n 3, 1) := by decide +kernel
theorem dX4_setRules_98 : decode cX4_setRules 98 = .ok (.iastore, 1) := by decide +kernel
theorem dX4_setRules_99 : decode cX4_setRules 99 = .ok (.aload_n 0, 1) := by decide +kernel
theorem dX4_setRules_100 : decode cX4_setRules 100 = .ok (.getfield 65, 3) := by decide +kernel
theorem dX4_setRules_103 : decode cX4_setRules 103 = .ok (.iload_n 1, 1) := by decide +kernel
theorem dX4_setRules_104 : decode cX4_setRules 104 = .ok (.iload 4, 2) := by decide +kernel
theorem dX4_setRules_106 : decode cX4_setRules 106 = .ok (.iastore, 1) := by decide +kernel
theorem dX4_setRules_107 : decode cX4_setRules 107 = .ok (.aload_n 0, 1) := by decide +kernel
theorem dX4_setRules_108 : decode cX4_setRules 108 = .ok (.getfield 68, 3) := by decide +kernel
theorem dX4_setRules_111 : decode cX4_setRules 111 = .ok (.iload_n 1, 1) := by decide +kernel
theorem dX4_setRules_112 : decode cX4_setRules 112 = .ok (.iload 5, 2) := by decide +kernel
theorem dX4_setRules_114 : decode cX4_setRules 114 = .ok (.iastore, 1) := by decide +kernel
theorem dX4_setRules_115 : decode cX4_setRules 115 = .ok (.return_, 1) := by decide +kernel
theorem dX4_noCampaign_0 : decode cX4_noCampaign 0 = .ok (.aload_n 0, 1) := by decide +kernel
theorem dX4_noCampaign_1 : decode cX4_noCampaign 1 = .ok (.aload_n 0, 1) := by decide +kernel
theorem dX4_noCampaign_2 : decode cX4_noCampaign 2 = .ok (.iload_n 1, 1) := by decide +kernel
theorem dX4_noCampaign_3 : decode cX4_noCampaign 3 = .ok (.invokevirtual 127, 3) := by decide +kernel
theorem dX4_noCampaign_6 : decode cX4_noCampaign 6 = .ok (.ifCond .eq 7, 3) := by decide +kernel
theorem dX4_noCampaign_9 : decode cX4_noCampaign 9 = .ok (.iconst 0, 1) := by decide +kernel
theorem dX4_noCampaign_10 : decode cX4_noCampaign 10 = .ok (.goto 4, 3) := by decide +kernel
theorem dX4_noCampaign_13 : decode cX4_noCampaign 13 = .ok (.iconst 1, 1) := by decide +kernel
theorem dX4_noCampaign_14 : decode cX4_noCampaign 14 = .ok (.invokevirtual 99, 3) := by decide +kernel
theorem dX4_noCampaign_17 : decode cX4_noCampaign 17 = .ok (.ireturn, 1) := by decide +kernel
theorem dX4_toggle_0 : decode cX4_toggle 0 = .ok (.aload_n 0, 1) := by decide +kernel
theorem dX4_toggle_1 : decode cX4_toggle 1 = .ok (.iload_n 1, 1) := by decide +kernel
theorem dX4_toggle_2 : decode cX4_toggle 2 = .ok (.invokevirtual 130, 3) := by decide +kernel
theorem dX4_toggle_5 : decode cX4_toggle 5 = .ok (.ifCond .eq 5, 3) := by decide +kernel
theorem dX4_toggle_8 : decode cX4_toggle 8 = .ok (.iconst 0, 1) := by decide +kernel
theorem dX4_toggle_9 : decode cX4_toggle 9 = .ok (.ireturn, 1) := by decide +kernel
theorem dX4_toggle_10 : decode cX4_toggle 10 = .ok (.aload_n 0, 1) := by decide +kernel
theorem dX4_toggle_11 : decode cX4_toggle 11 = .ok (.getfield 55, 3) := by decide +kernel
theorem dX4_toggle_14 : decode cX4_toggle 14 = .ok (.iload_n 1, 1) := by decide +kernel
theorem dX4_toggle_15 : decode cX4_toggle 15 = .ok (.aload_n 0, 1) := by decide +kernel
theorem dX4_toggle_16 : decode cX4_toggle 16 = .ok (.getfield 55, 3) := by decide +kernel
theorem dX4_toggle_19 : decode cX4_toggle 19 = .ok (.iload_n 1, 1) := by decide +kernel
theorem dX4_toggle_20 : decode cX4_toggle 20 = .ok (.baload, 1) := by decide +kernel
theorem dX4_toggle_21 : decode cX4_toggle 21 = .ok (.ifCond .ne 7, 3) := by decide +kernel
theorem dX4_toggle_24 : decode cX4_toggle 24 = .ok (.iconst 1, 1) := by decide +kernel
theorem dX4_toggle_25 : decode cX4_toggle 25 = .ok (.goto 4, 3) := by decide +kernel
theorem dX4_toggle_28 : decode cX4_toggle 28 = .ok (.iconst 0, 1) := by decide +kernel
theorem dX4_toggle_29 : decode cX4_toggle 29 = .ok (.bastore, 1) := by decide +kernel
theorem dX4_toggle_30 : decode cX4_toggle 30 = .ok (.aload_n 0, 1) := by decide +kernel
theorem dX4_toggle_31 : decode cX4_toggle 31 = .ok (.getfield 55, 3) := by decide +kernel
theorem dX4_toggle_34 : decode cX4_toggle 34 = .ok (.iload_n 1, 1) := by decide +kernel
theorem dX4_toggle_35 : decode cX4_toggle 35 = .ok (.baload, 1) := by decide +kernel
theorem dX4_toggle_36 : decode cX4_toggle 36 = .ok (.ifCond .eq 17, 3) := by decide +kernel
theorem dX4_toggle_39 : decode cX4_toggle 39 = .ok (.aload_n 0, 1) := by decide +kernel
theorem dX4_toggle_40 : decode cX4_toggle 40 = .ok (.getfield 71, 3) := by decide +kernel
theorem dX4_toggle_43 : decode cX4_toggle 43 = .ok (.iload_n 1, 1) := by decide +kernel
theorem dX4_toggle_44 : decode cX4_toggle 44 = .ok (.iconst 0, 1) := by decide +kernel
theorem dX4_toggle_45 : decode cX4_toggle 45 = .ok (.iastore, 1) := by decide +kernel
theorem dX4_toggle_46 : decode cX4_toggle 46 = .ok (.aload_n 0, 1) := by decide +kernel
theorem dX4_toggle_47 : decode cX4_toggle 47 = .ok (.getfield 74, 3) := by decide +kernel
theorem dX4_toggle_50 : decode cX4_toggle 50 = .ok (.iload_n 1, 1) := by decide +kernel
theorem dX4_toggle_51 : decode cX4_toggle 51 = .ok (.iconst 0, 1) := by decide +kernel
theorem dX4_toggle_52 : decode cX4_toggle 52 = .ok (.iastore, 1) := by decide +kernel
theorem dX4_toggle_53 : decode cX4_toggle 53 = .ok (.aload_n 0, 1) := by decide +kernel
theorem dX4_toggle_54 : decode cX4_toggle 54 = .ok (.getfield 55, 3) := by decide +kernel
theorem dX4_toggle_57 : decode cX4_toggle 57 = .ok (.iload_n 1, 1) := by decide +kernel
theorem dX4_toggle_58 : decode cX4_toggle 58 = .ok (.baload, 1) := by decide +kernel
theorem dX4_toggle_59 : decode cX4_toggle 59 = .ok (.ireturn, 1) := by decide +kernel
theorem dX4_isActive_0 : decode cX4_isActive 0 = .ok (.aload_n 0, 1) := by decide +kernel
theorem dX4_isActive_1 : decode cX4_isActive 1 = .ok (.iload_n 1, 1) := by decide +kernel
theorem dX4_isActive_2 : decode cX4_isActive 2 = .ok (.invokevirtual 130, 3) := by decide +kernel
theorem dX4_isActive_5 : decode cX4_isActive 5 = .ok (.ifCond .ne 16, 3) := by decide +kernel
theorem dX4_isActive_8 : decode cX4_isActive 8 = .ok (.aload_n 0, 1) := by decide +kernel
theorem dX4_isActive_9 : decode cX4_isActive 9 = .ok (.getfield 55, 3) := by decide +kernel
theorem dX4_isActive_12 : decode cX4_isActive 12 = .ok (.iload_n 1, 1) := by decide +kernel
theorem dX4_isActive_13 : decode cX4_isActive 13 = .ok (.baload, 1) := by decide +kernel
theorem dX4_isActive_14 : decode cX4_isActive 14 = .ok (.ifCond .eq 7, 3) := by decide +kernel
theorem dX4_isActive_17 : decode cX4_isActive 17 = .ok (.iconst 1, 1) := by decide +kernel
theorem dX4_isActive_18 : decode cX4_isActive 18 = .ok (.goto 4, 3) := by decide +kernel
theorem dX4_isActive_21 : decode cX4_isActive 21 = .ok (.iconst 0, 1) := by decide +kernel
theorem dX4_isActive_22 : decode cX4_isActive 22 = .ok (.ireturn, 1) := by decide +kernel
theorem dX4_ring_0 : decode cX4_ring 0 = .ok (.aload_n 0, 1) := by decide +kernel
theorem dX4_ring_1 : decode cX4_ring 1 = .ok (.iload_n 1, 1) := by decide +kernel
theorem dX4_ring_2 : decode cX4_ring 2 = .ok (.invokevirtual 130, 3) := by decide +kernel
theorem dX4_ring_5 : decode cX4_ring 5 = .ok (.ifCond .eq 7, 3) := by decide +kernel
theorem dX4_ring_8 : decode cX4_ring 8 = .ok (.iconst 0, 1) := by decide +kernel
theorem dX4_ring_9 : decode cX4_ring 9 = .ok (.goto 9, 3) := by decide +kernel
theorem dX4_ring_12 : decode cX4_ring 12 = .ok (.aload_n 0, 1) := by decide +kernel
theorem dX4_ring_13 : decode cX4_ring 13 = .ok (.getfield 59, 3) := by decide +kernel
theorem dX4_ring_16 : decode cX4_ring 16 = .ok (.iload_n 1, 1) := by decide +kernel
theorem dX4_ring_17 : decode cX4_ring 17 = .ok (.iaload, 1) := by decide +kernel
theorem dX4_ring_18 : decode cX4_ring 18 = .ok (.ireturn, 1) := by decide +kernel
theorem dX4_reports_0 : decode cX4_reports 0 = .ok (.aload_n 0, 1) := by decide +kernel
theorem dX4_reports_1 : decode cX4_reports 1 = .ok (.iload_n 1, 1) := by decide +kernel
theorem dX4_reports_2 : decode cX4_reports 2 = .ok (.invokevirtual 130, 3) := by decide +kernel
theorem dX4_reports_5 : decode cX4_reports 5 = .ok (.ifCond .eq 7, 3) := by decide +kernel
theorem dX4_reports_8 : decode cX4_reports 8 = .ok (.iconst 0, 1) := by decide +kernel
theorem dX4_reports_9 : decode cX4_reports 9 = .ok (.goto 9, 3) := by decide +kernel
theorem dX4_reports_12 : decode cX4_reports 12 = .ok (.aload_n 0, 1) := by decide +kernel
theorem dX4_reports_13 : decode cX4_reports 13 = .ok (.getfield 71, 3) := by decide +kernel
theorem dX4_reports_16 : decode cX4_reports 16 = .ok (.iload_n 1, 1) := by decide +kernel
theorem dX4_reports_17 : decode cX4_reports 17 = .ok (.iaload, 1) := by decide +kernel
theorem dX4_reports_18 : decode cX4_reports 18 = .ok (.ireturn, 1) := by decide +kernel
theorem dX4_mayTake_0 : decode cX4_mayTake 0 = .ok (.iload_n 1, 1) := by decide +kernel
theorem dX4_mayTake_1 : decode cX4_mayTake 1 = .ok (.bipush 37, 2) := by decide +kernel
theorem dX4_mayTake_3 : decode cX4_mayTake 3 = .ok (.imul, 1) := by decide +kernel
theorem dX4_mayTake_4 : decode cX4_mayTake 4 = .ok (.iload_n 2, 1) := by decide +kernel
theorem dX4_mayTake_5 : decode cX4_mayTake 5 = .ok (.bipush 11, 2) := by decide +kernel
theorem dX4_mayTake_7 : decode cX4_mayTake 7 = .ok (.imul, 1) := by decide +kernel
theorem dX4_mayTake_8 : decode cX4_mayTake 8 = .ok (.iadd, 1) := by decide +kernel
theorem dX4_mayTake_9 : decode cX4_mayTake 9 = .ok (.bipush 13, 2) := by decide +kernel
theorem dX4_mayTake_11 : decode cX4_mayTake 11 = .ok (.iadd, 1) := by decide +kernel
theorem dX4_mayTake_12 : decode cX4_mayTake 12 = .ok (.bipush 100, 2) := by decide +kernel
theorem dX4_mayTake_14 : decode cX4_mayTake 14 = .ok (.irem, 1) := by decide +kernel
theorem dX4_mayTake_15 : decode cX4_mayTake 15 = .ok (.istore_n 3, 1) := by decide +kernel
theorem dX4_mayTake_16 : decode cX4_mayTake 16 = .ok (.aload_n 0, 1) := by decide +kernel
theorem dX4_mayTake_17 : decode cX4_mayTake 17 = .ok (.getfield 46, 3) := by decide +kernel
theorem dX4_mayTake_20 : decode cX4_mayTake 20 = .ok (.iload_n 2, 1) := by decide +kernel
theorem dX4_mayTake_21 : decode cX4_mayTake 21 = .ok (.iaload, 1) := by decide +kernel
theorem dX4_mayTake_22 : decode cX4_mayTake 22 = .ok (.istore 4, 2) := by decide +kernel
theorem dX4_mayTake_24 : decode cX4_mayTake 24 = .ok (.aload_n 0, 1) := by decide +kernel
theorem dX4_mayTake_25 : decode cX4_mayTake 25 = .ok (.getfield 49, 3) := by decide +kernel
theorem dX4_mayTake_28 : decode cX4_mayTake 28 = .ok (.iload_n 2, 1) := by decide +kernel
theorem dX4_mayTake_29 : decode cX4_mayTake 29 = .ok (.iaload, 1) := by decide +kernel
theorem dX4_mayTake_30 : decode cX4_mayTake 30 = .ok (.aload_n 0, 1) := by decide +kernel
theorem dX4_mayTake_31 : decode cX4_mayTake 31 = .ok (.getfield 22, 3) := by decide +kernel
theorem dX4_mayTake_34 : decode cX4_mayTake 34 = .ok (.iload_n 1, 1) := by decide +kernel
theorem dX4_mayTake_35 : decode cX4_mayTake 35 = .ok (.iaload, 1) := by decide +kernel
theorem dX4_mayTake_36 : decode cX4_mayTake 36 = .ok (.ishr, 1) := by decide +kernel
theorem dX4_mayTake_37 : decode cX4_mayTake 37 = .ok (.iconst 1, 1) := by decide +kernel
theorem dX4_mayTake_38 : decode cX4_mayTake 38 = .ok (.iand, 1) := by decide +kernel
theorem dX4_mayTake_39 : decode cX4_mayTake 39 = .ok (.iconst 1, 1) := by decide +kernel
theorem dX4_mayTake_40 : decode cX4_mayTake 40 = .ok (.if_icmp .ne 26, 3) := by decide +kernel
theorem dX4_mayTake_43 : decode cX4_mayTake 43 = .ok (.aload_n 0, 1) := by decide +kernel
theorem dX4_mayTake_44 : decode cX4_mayTake 44 = .ok (.getfield 52, 3) := by decide +kernel
theorem dX4_mayTake_47 : decode cX4_mayTake 47 = .ok (.iload_n 2, 1) := by decide +kernel
theorem dX4_mayTake_48 : decode cX4_mayTake 48 = .ok (.iaload, 1) := by decide +kernel
theorem dX4_mayTake_49 : decode cX4_mayTake 49 = .ok (.aload_n 0, 1) := by decide +kernel
theorem dX4_mayTake_50 : decode cX4_mayTake 50 = .ok (.getfield 25, 3) := by decide +kernel
theorem dX4_mayTake_53 : decode cX4_mayTake 53 = .ok (.iload_n 1, 1) := by decide +kernel
theorem dX4_mayTake_54 : decode cX4_mayTake 54 = .ok (.iaload, 1) := by decide +kernel
theorem dX4_mayTake_55 : decode cX4_mayTake 55 = .ok (.ishr, 1) := by decide +kernel
theorem dX4_mayTake_56 : decode cX4_mayTake 56 = .ok (.iconst 1, 1) := by decide +kernel
theorem dX4_mayTake_57 : decode cX4_mayTake 57 = .ok (.iand, 1) := by decide +kernel
theorem dX4_mayTake_58 : decode cX4_mayTake 58 = .ok (.iconst 1, 1) := by decide +kernel
theorem dX4_mayTake_59 : decode cX4_mayTake 59 = .ok (.if_icmp .ne 7, 3) := by decide +kernel
theorem dX4_mayTake_62 : decode cX4_mayTake 62 = .ok (.iconst 1, 1) := by decide +kernel
theorem dX4_mayTake_63 : decode cX4_mayTake 63 = .ok (.goto 4, 3) := by decide +kernel
theorem dX4_mayTake_66 : decode cX4_mayTake 66 = .ok (.iconst 0, 1) := by decide +kernel
theorem dX4_mayTake_67 : decode cX4_mayTake 67 = .ok (.istore 5, 2) := by decide +kernel
theorem dX4_mayTake_69 : decode cX4_mayTake 69 = .ok (.aload_n 0, 1) := by decide +kernel
theorem dX4_mayTake_70 : decode cX4_mayTake 70 = .ok (.getfield 7, 3) := by decide +kernel
theorem dX4_mayTake_73 : decode cX4_mayTake 73 = .ok (.iload 4, 2) := by decide +kernel
theorem dX4_mayTake_75 : decode cX4_mayTake 75 = .ok (.iaload, 1) := by decide +kernel
theorem dX4_mayTake_76 : decode cX4_mayTake 76 = .ok (.aload_n 0, 1) := by decide +kernel
theorem dX4_mayTake_77 : decode cX4_mayTake 77 = .ok (.getfield 22, 3) := by decide +kernel
theorem dX4_mayTake_80 : decode cX4_mayTake 80 = .ok (.iload_n 1, 1) := by decide +kernel
theorem dX4_mayTake_81 : decode cX4_mayTake 81 = .ok (.iaload, 1) := by decide +kernel
theorem dX4_mayTake_82 : decode cX4_mayTake 82 = .ok (.ishr, 1) := by decide +kernel
theorem dX4_mayTake_83 : decode cX4_mayTake 83 = .ok (.iconst 1, 1) := by decide +kernel
theorem dX4_mayTake_84 : decode cX4_mayTake 84 = .ok (.iand, 1) := by decide +kernel
theorem dX4_mayTake_85 : decode cX4_mayTake 85 = .ok (.iconst 1, 1) := by decide +kernel
theorem dX4_mayTake_86 : decode cX4_mayTake 86 = .ok (.if_icmp .ne 18, 3) := by decide +kernel
theorem dX4_mayTake_89 : decode cX4_mayTake 89 = .ok (.aload_n 0, 1) := by decide +kernel
theorem dX4_mayTake_90 : decode cX4_mayTake 90 = .ok (.getfield 25, 3) := by decide +kernel
theorem dX4_mayTake_93 : decode cX4_mayTake 93 = .ok (.iload_n 1, 1) := by decide +kernel
theorem dX4_mayTake_94 : decode cX4_mayTake 94 = .ok (.iaload, 1) := by decide +kernel
theorem dX4_mayTake_95 : decode cX4_mayTake 95 = .ok (.iload 4, 2) := by decide +kernel
theorem dX4_mayTake_97 : decode cX4_mayTake 97 = .ok (.if_icmp .eq 7, 3) := by decide +kernel
theorem dX4_mayTake_100 : decode cX4_mayTake 100 = .ok (.iconst 1, 1) := by decide +kernel
theorem dX4_mayTake_101 : decode cX4_mayTake 101 = .ok (.goto 4, 3) := by decide +kernel
theorem dX4_mayTake_104 : decode cX4_mayTake 104 = .ok (.iconst 0, 1) := by decide +kernel
theorem dX4_mayTake_105 : decode cX4_mayTake 105 = .ok (.istore 6, 2) := by decide +kernel
theorem dX4_mayTake_107 : decode cX4_mayTake 107 = .ok (.iload_n 3, 1) := by decide +kernel
theorem dX4_mayTake_108 : decode cX4_mayTake 108 = .ok (.aload_n 0, 1) := by decide +kernel
theorem dX4_mayTake_109 : decode cX4_mayTake 109 = .ok (.getfield 62, 3) := by decide +kernel
theorem dX4_mayTake_112 : decode cX4_mayTake 112 = .ok (.iconst 3, 1) := by decide +kernel
theorem dX4_mayTake_113 : decode cX4_mayTake 113 = .ok (.iload_n 2, 1) := by decide +kernel
theorem dX4_mayTake_114 : decode cX4_mayTake 114 = .ok (.imul, 1) := by decide +kernel
theorem dX4_mayTake_115 : decode cX4_mayTake 115 = .ok (.aload_n 0, 1) := by decide +kernel
theorem dX4_mayTake_116 : decode cX4_mayTake 116 = .ok (.getfield 59, 3) := by decide +kernel
theorem dX4_mayTake_119 : decode cX4_mayTake 119 = .ok (.iload_n 2, 1) := by decide +kernel
theorem dX4_mayTake_120 : decode cX4_mayTake 120 = .ok (.iaload, 1) := by decide +kernel
theorem dX4_mayTake_121 : decode cX4_mayTake 121 = .ok (.iadd, 1) := by decide +kernel
theorem dX4_mayTake_122 : decode cX4_mayTake 122 = .ok (.iaload, 1) := by decide +kernel
theorem dX4_mayTake_123 : decode cX4_mayTake 123 = .ok (.if_icmp .ge 20, 3) := by decide +kernel
theorem dX4_mayTake_126 : decode cX4_mayTake 126 = .ok (.aload_n 0, 1) := by decide +kernel
theorem dX4_mayTake_127 : decode cX4_mayTake 127 = .ok (.getfield 77, 3) := by decide +kernel
theorem dX4_mayTake_130 : decode cX4_mayTake 130 = .ok (.iload_n 2, 1) := by decide +kernel
theorem dX4_mayTake_131 : decode cX4_mayTake 131 = .ok (.iaload, 1) := by decide +kernel
theorem dX4_mayTake_132 : decode cX4_mayTake 132 = .ok (.iload_n 1, 1) := by decide +kernel
theorem dX4_mayTake_133 : decode cX4_mayTake 133 = .ok (.ishr, 1) := by decide +kernel
theorem dX4_mayTake_134 : decode cX4_mayTake 134 = .ok (.iconst 1, 1) := by decide +kernel
theorem dX4_mayTake_135 : decode cX4_mayTake 135 = .ok (.iand, 1) := by decide +kernel
theorem dX4_mayTake_136 : decode cX4_mayTake 136 = .ok (.ifCond .ne 7, 3) := by decide +kernel
theorem dX4_mayTake_139 : decode cX4_mayTake 139 = .ok (.iconst 1, 1) := by decide +kernel
theorem dX4_mayTake_140 : decode cX4_mayTake 140 = .ok (.goto 4, 3) := by decide +kernel
theorem dX4_mayTake_143 : decode cX4_mayTake 143 = .ok (.iconst 0, 1) := by decide +kernel
theorem dX4_mayTake_144 : decode cX4_mayTake 144 = .ok (.istore 7, 2) := by decide +kernel
theorem dX4_mayTake_146 : decode cX4_mayTake 146 = .ok (.aload_n 0, 1) := by decide +kernel
theorem dX4_mayTake_147 : decode cX4_mayTake 147 = .ok (.getfield 37, 3) := by decide +kernel
theorem dX4_mayTake_150 : decode cX4_mayTake 150 = .ok (.iload_n 1, 1) := by decide +kernel
theorem dX4_mayTake_151 : decode cX4_mayTake 151 = .ok (.iaload, 1) := by decide +kernel
theorem dX4_mayTake_152 : decode cX4_mayTake 152 = .ok (.ifCond .ne 47, 3) := by decide +kernel
theorem dX4_mayTake_155 : decode cX4_mayTake 155 = .ok (.aload_n 0, 1) := by decide +kernel
theorem dX4_mayTake_156 : decode cX4_mayTake 156 = .ok (.getfield 55, 3) := by decide +kernel
theorem dX4_mayTake_159 : decode cX4_mayTake 159 = .ok (.iload_n 2, 1) := by decide +kernel
theorem dX4_mayTake_160 : decode cX4_mayTake 160 = .ok (.baload, 1) := by decide +kernel
theorem dX4_mayTake_161 : decode cX4_mayTake 161 = .ok (.ifCond .eq 38, 3) := by decide +kernel
theorem dX4_mayTake_164 : decode cX4_mayTake 164 = .ok (.iload 5, 2) := by decide +kernel
theorem dX4_mayTake_166 : decode cX4_mayTake 166 = .ok (.ifCond .eq 33, 3) := by decide +kernel
theorem dX4_mayTake_169 : decode cX4_mayTake 169 = .ok (.iload 6, 2) := by decide +kernel
theorem dX4_mayTake_171 : decode cX4_mayTake 171 = .ok (.ifCond .eq 28, 3) := by decide +kernel
theorem dX4_mayTake_174 : decode cX4_mayTake 174 = .ok (.iload 7, 2) := by decide +kernel
theorem dX4_mayTake_176 : decode cX4_mayTake 176 = .ok (.ifCond .eq 23, 3) := by decide +kernel
theorem dX4_mayTake_179 : decode cX4_mayTake 179 = .ok (.aload_n 0, 1) := by decide +kernel
theorem dX4_mayTake_180 : decode cX4_mayTake 180 = .ok (.aload_n 0, 1) := by decide +kernel
theorem dX4_mayTake_181 : decode cX4_mayTake 181 = .ok (.getfield 25, 3) := by decide +kernel
theorem dX4_mayTake_184 : decode cX4_mayTake 184 = .ok (.iload_n 1, 1) := by decide +kernel
theorem dX4_mayTake_185 : decode cX4_mayTake 185 = .ok (.iaload, 1) := by decide +kernel
theorem dX4_mayTake_186 : decode cX4_mayTake 186 = .ok (.iload 4, 2) := by decide +kernel
theorem dX4_mayTake_188 : decode cX4_mayTake 188 = .ok (.invokevirtual 106, 3) := by decide +kernel
theorem dX4_mayTake_191 : decode cX4_mayTake 191 = .ok (.iconst (-1), 1) := by decide +kernel
theorem dX4_mayTake_192 : decode cX4_mayTake 192 = .ok (.if_icmp .eq 7, 3) := by decide +kernel
theorem dX4_mayTake_195 : decode cX4_mayTake 195 = .ok (.iconst 1, 1) := by decide +kernel
theorem dX4_mayTake_196 : decode cX4_mayTake 196 = .ok (.goto 4, 3) := by decide +kernel
theorem dX4_mayTake_199 : decode cX4_mayTake 199 = .ok (.iconst 0, 1) := by decide +kernel
theorem dX4_mayTake_200 : decode cX4_mayTake 200 = .ok (.ireturn, 1) := by decide +kernel
theorem dX4_eligible_0 : decode cX4_eligible 0 = .ok (.aload_n 0, 1) := by decide +kernel
theorem dX4_eligible_1 : decode cX4_eligible 1 = .ok (.iload_n 1, 1) := by decide +kernel
theorem dX4_eligible_2 : decode cX4_eligible 2 = .ok (.invokevirtual 130, 3) := by decide +kernel
theorem dX4_eligible_5 : decode cX4_eligible 5 = .ok (.ifCond .eq 5, 3) := by decide +kernel
theorem dX4_eligible_8 : decode cX4_eligible 8 = .ok (.iconst 0, 1) := by decide +kernel
theorem dX4_eligible_9 : decode cX4_eligible 9 = .ok (.ireturn, 1) := by decide +kernel
theorem dX4_eligible_10 : decode cX4_eligible 10 = .ok (.iconst 0, 1) := by decide +kernel
theorem dX4_eligible_11 : decode cX4_eligible 11 = .ok (.istore_n 2, 1) := by decide +kernel
theorem dX4_eligible_12 : decode cX4_eligible 12 = .ok (.iconst 0, 1) := by decide +kernel
theorem dX4_eligible_13 : decode cX4_eligible 13 = .ok (.istore_n 3, 1) := by decide +kernel
theorem dX4_eligible_14 : decode cX4_eligible 14 = .ok (.iload_n 3, 1) := by decide +kernel
theorem dX4_eligible_15 : decode cX4_eligible 15 = .ok (.aload_n 0, 1) := by decide +kernel
theorem dX4_eligible_16 : decode cX4_eligible 16 = .ok (.getfield 89, 3) := by decide +kernel
theorem dX4_eligible_19 : decode cX4_eligible 19 = .ok (.if_icmp .ge 28, 3) := by decide +kernel
theorem dX4_eligible_22 : decode cX4_eligible 22 = .ok (.iload_n 2, 1) := by decide +kernel
theorem dX4_eligible_23 : decode cX4_eligible 23 = .ok (.aload_n 0, 1) := by decide +kernel
theorem dX4_eligible_24 : decode cX4_eligible 24 = .ok (.iload_n 3, 1) := by decide +kernel
theorem dX4_eligible_25 : decode cX4_eligible 25 = .ok (.iload_n 1, 1) := by decide +kernel
theorem dX4_eligible_26 : decode cX4_eligible 26 = .ok (.invokevirtual 133, 3) := by decide +kernel
theorem dX4_eligible_29 : decode cX4_eligible 29 = .ok (.ifCond .eq 9, 3) := by decide +kernel
theorem dX4_eligible_32 : decode cX4_eligible 32 = .ok (.iconst 1, 1) := by decide +kernel
theorem dX4_eligible_33 : decode cX4_eligible 33 = .ok (.iload_n 3, 1) := by decide +kernel
theorem dX4_eligible_34 : decode cX4_eligible 34 = .ok (.ishl, 1) := by decide +kernel
theorem dX4_eligible_35 : decode cX4_eligible 35 = .ok (.goto 4, 3) := by decide +kernel
theorem dX4_eligible_38 : decode cX4_eligible 38 = .ok (.iconst 0, 1) := by decide +kernel
theorem dX4_eligible_39 : decode cX4_eligible 39 = .ok (.ior, 1) := by decide +kernel
theorem dX4_eligible_40 : decode cX4_eligible 40 = .ok (.istore_n 2, 1) := by decide +kernel
theorem dX4_eligible_41 : decode cX4_eligible 41 = .ok (.iinc 3 1, 3) := by decide +kernel
theorem dX4_eligible_44 : decode cX4_eligible 44 = .ok (.goto (-30), 3) := by decide +kernel
theorem dX4_eligible_47 : decode cX4_eligible 47 = .ok (.iload_n 2, 1) := by decide +kernel
theorem dX4_eligible_48 : decode cX4_eligible 48 = .ok (.ireturn, 1) := by decide +kernel
theorem dX4_take_0 : decode cX4_take 0 = .ok (.iconst 0, 1) := by decide +kernel
theorem dX4_take_1 : decode cX4_take 1 = .ok (.istore_n 2, 1) := by decide +kernel
theorem dX4_take_2 : decode cX4_take 2 = .ok (.iload_n 2, 1) := by decide +kernel
theorem dX4_take_3 : decode cX4_take 3 = .ok (.aload_n 0, 1) := by decide +kernel
theorem dX4_take_4 : decode cX4_take 4 = .ok (.getfield 92, 3) := by decide +kernel
theorem dX4_take_7 : decode cX4_take 7 = .ok (.if_icmp .ge 54, 3) := by decide +kernel
theorem dX4_take_10 : decode cX4_take 10 = .ok (.aload_n 0, 1) := by decide +kernel
theorem dX4_take_11 : decode cX4_take 11 = .ok (.iload_n 1, 1) := by decide +kernel
theorem dX4_take_12 : decode cX4_take 12 = .ok (.iload_n 2, 1) := by decide +kernel
theorem dX4_take_13 : decode cX4_take 13 = .ok (.invokevirtual 133, 3) := by decide +kernel
theorem dX4_take_16 : decode cX4_take 16 = .ok (.ifCond .eq 39, 3) := by decide +kernel
theorem dX4_take_19 : decode cX4_take 19 = .ok (.aload_n 0, 1) := by decide +kernel
theorem dX4_take_20 : decode cX4_take 20 = .ok (.getfield 40, 3) := by decide +kernel
theorem dX4_take_23 : decode cX4_take 23 = .ok (.iload_n 1, 1) := by decide +kernel
theorem dX4_take_24 : decode cX4_take 24 = .ok (.iload_n 2, 1) := by decide +kernel
theorem dX4_take_25 : decode cX4_take 25 = .ok (.iastore, 1) := by decide +kernel
theorem dX4_take_26 : decode cX4_take 26 = .ok (.aload_n 0, 1) := by decide +kernel
theorem dX4_take_27 : decode cX4_take 27 = .ok (.getfield 43, 3) := by decide +kernel
theorem dX4_take_30 : decode cX4_take 30 = .ok (.iload_n 1, 1) := by decide +kernel
theorem dX4_take_31 : decode cX4_take 31 = .ok (.aload_n 0, 1) := by decide +kernel
theorem dX4_take_32 : decode cX4_take 32 = .ok (.aload_n 0, 1) := by decide +kernel
theorem dX4_take_33 : decode cX4_take 33 = .ok (.getfield 25, 3) := by decide +kernel
theorem dX4_take_36 : decode cX4_take 36 = .ok (.iload_n 1, 1) := by decide +kernel
theorem dX4_take_37 : decode cX4_take 37 = .ok (.iaload, 1) := by decide +kernel
theorem dX4_take_38 : decode cX4_take 38 = .ok (.aload_n 0, 1) := by decide +kernel
theorem dX4_take_39 : decode cX4_take 39 = .ok (.getfield 46, 3) := by decide +kernel
theorem dX4_take_42 : decode cX4_take 42 = .ok (.iload_n 2, 1) := by decide +kernel
theorem dX4_take_43 : decode cX4_take 43 = .ok (.iaload, 1) := by decide +kernel
theorem dX4_take_44 : decode cX4_take 44 = .ok (.invokevirtual 106, 3) := by decide +kernel
theorem dX4_take_47 : decode cX4_take 47 = .ok (.iastore, 1) := by decide +kernel
theorem dX4_take_48 : decode cX4_take 48 = .ok (.aload_n 0, 1) := by decide +kernel
theorem dX4_take_49 : decode cX4_take 49 = .ok (.getfield 37, 3) := by decide +kernel
theorem dX4_take_52 : decode cX4_take 52 = .ok (.iload_n 1, 1) := by decide +kernel
theorem dX4_take_53 : decode cX4_take 53 = .ok (.iconst 1, 1) := by decide +kernel
theorem dX4_take_54 : decode cX4_take 54 = .ok (.iastore, 1) := by decide +kernel
theorem dX4_take_55 : decode cX4_take 55 = .ok (.iinc 2 1, 3) := by decide +kernel
theorem dX4_take_58 : decode cX4_take 58 = .ok (.goto (-56), 3) := by decide +kernel
theorem dX4_take_61 : decode cX4_take 61 = .ok (.return_, 1) := by decide +kernel
theorem dX4_isOpen_0 : decode cX4_isOpen 0 = .ok (.aload_n 0, 1) := by decide +kernel
theorem dX4_isOpen_1 : decode cX4_isOpen 1 = .ok (.getfield 137, 3) := by decide +kernel
theorem dX4_isOpen_4 : decode cX4_isOpen 4 = .ok (.bipush 24, 2) := by decide +kernel
theorem dX4_isOpen_6 : decode cX4_isOpen 6 = .ok (.irem, 1) := by decide +kernel
theorem dX4_isOpen_7 : decode cX4_isOpen 7 = .ok (.istore_n 2, 1) := by decide +kernel
theorem dX4_isOpen_8 : decode cX4_isOpen 8 = .ok (.aload_n 0, 1) := by decide +kernel
theorem dX4_isOpen_9 : decode cX4_isOpen 9 = .ok (.getfield 31, 3) := by decide +kernel
theorem dX4_isOpen_12 : decode cX4_isOpen 12 = .ok (.iload_n 1, 1) := by decide +kernel
theorem dX4_isOpen_13 : decode cX4_isOpen 13 = .ok (.iaload, 1) := by decide +kernel
theorem dX4_isOpen_14 : decode cX4_isOpen 14 = .ok (.istore_n 3, 1) := by decide +kernel
theorem dX4_isOpen_15 : decode cX4_isOpen 15 = .ok (.aload_n 0, 1) := by decide +kernel
theorem dX4_isOpen_16 : decode cX4_isOpen 16 = .ok (.getfield 34, 3) := by decide +kernel
theorem dX4_isOpen_19 : decode cX4_isOpen 19 = .ok (.iload_n 1, 1) := by decide +kernel
theorem dX4_isOpen_20 : decode cX4_isOpen 20 = .ok (.iaload, 1) := by decide +kernel
theorem dX4_isOpen_21 : decode cX4_isOpen 21 = .ok (.istore 4, 2) := by decide +kernel
theorem dX4_isOpen_23 : decode cX4_isOpen 23 = .ok (.iload_n 3, 1) := by decide +kernel
theorem dX4_isOpen_24 : decode cX4_isOpen 24 = .ok (.iload 4, 2) := by decide +kernel
theorem dX4_isOpen_26 : decode cX4_isOpen 26 = .ok (.if_icmp .gt 13, 3) := by decide +kernel
theorem dX4_isOpen_29 : decode cX4_isOpen 29 = .ok (.iload_n 2, 1) := by decide +kernel
theorem dX4_isOpen_30 : decode cX4_isOpen 30 = .ok (.iload_n 3, 1) := by decide +kernel
theorem dX4_isOpen_31 : decode cX4_isOpen 31 = .ok (.iload 4, 2) := by decide +kernel
theorem dX4_isOpen_33 : decode cX4_isOpen 33 = .ok (.invokestatic 84, 3) := by decide +kernel
theorem dX4_isOpen_36 : decode cX4_isOpen 36 = .ok (.goto 19, 3) := by decide +kernel
theorem dX4_isOpen_39 : decode cX4_isOpen 39 = .ok (.iload_n 2, 1) := by decide +kernel
theorem dX4_isOpen_40 : decode cX4_isOpen 40 = .ok (.iload_n 3, 1) := by decide +kernel
theorem dX4_isOpen_41 : decode cX4_isOpen 41 = .ok (.if_icmp .ge 9, 3) := by decide +kernel
theorem dX4_isOpen_44 : decode cX4_isOpen 44 = .ok (.iload_n 2, 1) := by decide +kernel
theorem dX4_isOpen_45 : decode cX4_isOpen 45 = .ok (.iload 4, 2) := by decide +kernel
theorem dX4_isOpen_47 : decode cX4_isOpen 47 = .ok (.if_icmp .gt 7, 3) := by decide +kernel
theorem dX4_isOpen_50 : decode cX4_isOpen 50 = .ok (.iconst 1, 1) := by decide +kernel
theorem dX4_isOpen_51 : decode cX4_isOpen 51 = .ok (.goto 4, 3) := by decide +kernel
theorem dX4_isOpen_54 : decode cX4_isOpen 54 = .ok (.iconst 0, 1) := by decide +kernel
theorem dX4_isOpen_55 : decode cX4_isOpen 55 = .ok (.ireturn, 1) := by decide +kernel
theorem dX4_pass_0 : decode cX4_pass 0 = .ok (.aload_n 0, 1) := by decide +kernel
theorem dX4_pass_1 : decode cX4_pass 1 = .ok (.iload_n 1, 1) := by decide +kernel
theorem dX4_pass_2 : decode cX4_pass 2 = .ok (.iconst 1, 1) := by decide +kernel
theorem dX4_pass_3 : decode cX4_pass 3 = .ok (.bipush 100, 2) := by decide +kernel
theorem dX4_pass_5 : decode cX4_pass 5 = .ok (.invokestatic 84, 3) := by decide +kernel
theorem dX4_pass_8 : decode cX4_pass 8 = .ok (.ifCond .eq 7, 3) := by decide +kernel
theorem dX4_pass_11 : decode cX4_pass 11 = .ok (.iconst 0, 1) := by decide +kernel
theorem dX4_pass_12 : decode cX4_pass 12 = .ok (.goto 4, 3) := by decide +kernel
theorem dX4_pass_15 : decode cX4_pass 15 = .ok (.iconst 1, 1) := by decide +kernel
theorem dX4_pass_16 : decode cX4_pass 16 = .ok (.invokevirtual 99, 3) := by decide +kernel
theorem dX4_pass_19 : decode cX4_pass 19 = .ok (.ifCond .eq 5, 3) := by decide +kernel
theorem dX4_pass_22 : decode cX4_pass 22 = .ok (.iconst 0, 1) := by decide +kernel
theorem dX4_pass_23 : decode cX4_pass 23 = .ok (.ireturn, 1) := by decide +kernel
theorem dX4_pass_24 : decode cX4_pass 24 = .ok (.iconst 0, 1) := by decide +kernel
theorem dX4_pass_25 : decode cX4_pass 25 = .ok (.istore_n 2, 1) := by decide +kernel
theorem dX4_pass_26 : decode cX4_pass 26 = .ok (.iconst 0, 1) := by decide +kernel
theorem dX4_pass_27 : decode cX4_pass 27 = .ok (.istore_n 3, 1) := by decide +kernel
theorem dX4_pass_28 : decode cX4_pass 28 = .ok (.iload_n 3, 1) := by decide +kernel
theorem dX4_pass_29 : decode cX4_pass 29 = .ok (.iload_n 1, 1) := by decide +kernel
theorem dX4_pass_30 : decode cX4_pass 30 = .ok (.if_icmp .ge 159, 3) := by decide +kernel
theorem dX4_pass_33 : decode cX4_pass 33 = .ok (.iconst 0, 1) := by decide +kernel
theorem dX4_pass_34 : decode cX4_pass 34 = .ok (.istore 4, 2) := by decide +kernel
theorem dX4_pass_36 : decode cX4_pass 36 = .ok (.iload 4, 2) := by decide +kernel
theorem dX4_pass_38 : decode cX4_pass 38 = .ok (.aload_n 0, 1) := by decide +kernel
theorem dX4_pass_39 : decode cX4_pass 39 = .ok (.getfield 89, 3) := by decide +kernel
theorem dX4_pass_42 : decode cX4_pass 42 = .ok (.if_icmp .ge 131, 3) := by decide +kernel
theorem dX4_pass_45 : decode cX4_pass 45 = .ok (.aload_n 0, 1) := by decide +kernel
theorem dX4_pass_46 : decode cX4_pass 46 = .ok (.iload 4, 2) := by decide +kernel
theorem dX4_pass_48 : decode cX4_pass 48 = .ok (.invokevirtual 140, 3) := by decide +kernel
theorem dX4_pass_51 : decode cX4_pass 51 = .ok (.aload_n 0, 1) := by decide +kernel
theorem dX4_pass_52 : decode cX4_pass 52 = .ok (.getfield 37, 3) := by decide +kernel
theorem dX4_pass_55 : decode cX4_pass 55 = .ok (.iload 4, 2) := by decide +kernel
theorem dX4_pass_57 : decode cX4_pass 57 = .ok (.iaload, 1) := by decide +kernel
theorem dX4_pass_58 : decode cX4_pass 58 = .ok (.iconst 1, 1) := by decide +kernel
theorem dX4_pass_59 : decode cX4_pass 59 = .ok (.if_icmp .ne 108, 3) := by decide +kernel
theorem dX4_pass_62 : decode cX4_pass 62 = .ok (.aload_n 0, 1) := by decide +kernel
theorem dX4_pass_63 : decode cX4_pass 63 = .ok (.iload 4, 2) := by decide +kernel
theorem dX4_pass_65 : decode cX4_pass 65 = .ok (.invokevirtual 143, 3) := by decide +kernel
theorem dX4_pass_68 : decode cX4_pass 68 = .ok (.ifCond .eq 99, 3) := by decide +kernel
theorem dX4_pass_71 : decode cX4_pass 71 = .ok (.aload_n 0, 1) := by decide +kernel
theorem dX4_pass_72 : decode cX4_pass 72 = .ok (.getfield 28, 3) := by decide +kernel
theorem dX4_pass_75 : decode cX4_pass 75 = .ok (.iload 4, 2) := by decide +kernel
theorem dX4_pass_77 : decode cX4_pass 77 = .ok (.iaload, 1) := by decide +kernel
theorem dX4_pass_78 : decode cX4_pass 78 = .ok (.bipush 20, 2) := by decide +kernel
theorem dX4_pass_80 : decode cX4_pass 80 = .ok (.if_icmp .lt 87, 3) := by decide +kernel
theorem dX4_pass_83 : decode cX4_pass 83 = .ok (.aload_n 0, 1) := by decide +kernel
theorem dX4_pass_84 : decode cX4_pass 84 = .ok (.getfield 43, 3) := by decide +kernel
theorem dX4_pass_87 : decode cX4_pass 87 = .ok (.iload 4, 2) := by decide +kernel
theorem dX4_pass_89 : decode cX4_pass 89 = .ok (.aload_n 0, 1) := by decide +kernel
theorem dX4_pass_90 : decode cX4_pass 90 = .ok (.getfield 43, 3) := by decide +kernel
theorem dX4_pass_93 : decode cX4_pass 93 = .ok (.iload 4, 2) := by decide +kernel
theorem dX4_pass_95 : decode cX4_pass 95 = .ok (.iaload, 1) := by decide +kernel
theorem dX4_pass_96 : decode cX4_pass 96 = .ok (.bipush 100, 2) := by decide +kernel
theorem dX4_pass_98 : decode cX4_pass 98 = .ok (.if_icmp .le 16, 3) := by decide +kernel
theorem dX4_pass_101 : decode cX4_pass 101 = .ok (.aload_n 0, 1) := by decide +kernel
theorem dX4_pass_102 : decode cX4_pass 102 = .ok (.getfield 43, 3) := by decide +kernel
theorem dX4_pass_105 : decode cX4_pass 105 = .ok (.iload 4, 2) := by decide +kernel
theorem dX4_pass_107 : decode cX4_pass 107 = .ok (.iaload, 1) := by decide +kernel
theorem dX4_pass_108 : decode cX4_pass 108 = .ok (.bipush 100, 2) := by decide +kernel
theorem dX4_pass_110 : decode cX4_pass 110 = .ok (.isub, 1) := by decide +kernel
theorem dX4_pass_111 : decode cX4_pass 111 = .ok (.goto 4, 3) := by decide +kernel
theorem dX4_pass_114 : decode cX4_pass 114 = .ok (.iconst 0, 1) := by decide +kernel
theorem dX4_pass_115 : decode cX4_pass 115 = .ok (.iastore, 1) := by decide +kernel
theorem dX4_pass_116 : decode cX4_pass 116 = .ok (.aload_n 0, 1) := by decide +kernel
theorem dX4_pass_117 : decode cX4_pass 117 = .ok (.getfield 28, 3) := by decide +kernel
theorem dX4_pass_120 : decode cX4_pass 120 = .ok (.iload 4, 2) := by decide +kernel
theorem dX4_pass_122 : decode cX4_pass 122 = .ok (.dup2, 1) := by decide +kernel
theorem dX4_pass_123 : decode cX4_pass 123 = .ok (.iaload, 1) := by decide +kernel
theorem dX4_pass_124 : decode cX4_pass 124 = .ok (.iconst 1, 1) := by decide +kernel
theorem dX4_pass_125 : decode cX4_pass 125 = .ok (.isub, 1) := by decide +kernel
theorem dX4_pass_126 : decode cX4_pass 126 = .ok (.iastore, 1) := by decide +kernel
theorem dX4_pass_127 : decode cX4_pass 127 = .ok (.aload_n 0, 1) := by decide +kernel
theorem dX4_pass_128 : decode cX4_pass 128 = .ok (.getfield 37, 3) := by decide +kernel
theorem dX4_pass_131 : decode cX4_pass 131 = .ok (.iload 4, 2) := by decide +kernel
theorem dX4_pass_133 : decode cX4_pass 133 = .ok (.aload_n 0, 1) := by decide +kernel
theorem dX4_pass_134 : decode cX4_pass 134 = .ok (.getfield 43, 3) := by decide +kernel
theorem dX4_pass_137 : decode cX4_pass 137 = .ok (.iload 4, 2) := by decide +kernel
theorem dX4_pass_139 : decode cX4_pass 139 = .ok (.iaload, 1) := by decide +kernel
theorem dX4_pass_140 : decode cX4_pass 140 = .ok (.ifCond .ne 7, 3) := by decide +kernel
theorem dX4_pass_143 : decode cX4_pass 143 = .ok (.iconst 2, 1) := by decide +kernel
theorem dX4_pass_144 : decode cX4_pass 144 = .ok (.goto 4, 3) := by decide +kernel
theorem dX4_pass_147 : decode cX4_pass 147 = .ok (.iconst 1, 1) := by decide +kernel
theorem dX4_pass_148 : decode cX4_pass 148 = .ok (.iastore, 1) := by decide +kernel
theorem dX4_pass_149 : decode cX4_pass 149 = .ok (.iload_n 2, 1) := by decide +kernel
theorem dX4_pass_150 : decode cX4_pass 150 = .ok (.aload_n 0, 1) := by decide +kernel
theorem dX4_pass_151 : decode cX4_pass 151 = .ok (.getfield 43, 3) := by decide +kernel
theorem dX4_pass_154 : decode cX4_pass 154 = .ok (.iload 4, 2) := by decide +kernel
theorem dX4_pass_156 : decode cX4_pass 156 = .ok (.iaload, 1) := by decide +kernel
theorem dX4_pass_157 : decode cX4_pass 157 = .ok (.ifCond .ne 7, 3) := by decide +kernel
theorem dX4_pass_160 : decode cX4_pass 160 = .ok (.iconst 1, 1) := by decide +kernel
theorem dX4_pass_161 : decode cX4_pass 161 = .ok (.goto 4, 3) := by decide +kernel
theorem dX4_pass_164 : decode cX4_pass 164 = .ok (.iconst 0, 1) := by decide +kernel
theorem dX4_pass_165 : decode cX4_pass 165 = .ok (.iadd, 1) := by decide +kernel
theorem dX4_pass_166 : decode cX4_pass 166 = .ok (.istore_n 2, 1) := by decide +kernel
theorem dX4_pass_167 : decode cX4_pass 167 = .ok (.iinc 4 1, 3) := by decide +kernel
theorem dX4_pass_170 : decode cX4_pass 170 = .ok (.goto (-134), 3) := by decide +kernel
theorem dX4_pass_173 : decode cX4_pass 173 = .ok (.aload_n 0, 1) := by decide +kernel
theorem dX4_pass_174 : decode cX4_pass 174 = .ok (.dup, 1) := by decide +kernel
theorem dX4_pass_175 : decode cX4_pass 175 = .ok (.getfield 137, 3) := by decide +kernel
theorem dX4_pass_178 : decode cX4_pass 178 = .ok (.iconst 1, 1) := by decide +kernel
theorem dX4_pass_179 : decode cX4_pass 179 = .ok (.iadd, 1) := by decide +kernel
theorem dX4_pass_180 : decode cX4_pass 180 = .ok (.putfield 137, 3) := by decide +kernel
theorem dX4_pass_183 : decode cX4_pass 183 = .ok (.iinc 3 1, 3) := by decide +kernel
theorem dX4_pass_186 : decode cX4_pass 186 = .ok (.goto (-158), 3) := by decide +kernel
theorem dX4_pass_189 : decode cX4_pass 189 = .ok (.iload_n 2, 1) := by decide +kernel
theorem dX4_pass_190 : decode cX4_pass 190 = .ok (.ireturn, 1) := by decide +kernel
end
section
theorem dL_allow_0 : decode cL_allow 0 = .ok (.aload_n 3, 1) := by decide +kernel
theorem dL_allow_1 : decode cL_allow 1 = .ok (.iconst 0, 1) := by decide +kernel
theorem dL_allow_2 : decode cL_allow 2 = .ok (.aload_n 0, 1) := by decide +kernel
theorem dL_allow_3 : decode cL_allow 3 = .ok (.iload_n 1, 1) := by decide +kernel
theorem dL_allow_4 : decode cL_allow 4 = .ok (.iload_n 2, 1) := by decide +kernel
theorem dL_allow_5 : decode cL_allow 5 = .ok (.invokevirtual 7, 3) := by decide +kernel
theorem dL_allow_8 : decode cL_allow 8 = .ok (.i2l, 1) := by decide +kernel
theorem dL_allow_9 : decode cL_allow 9 = .ok (.lastore, 1) := by decide +kernel
theorem dL_allow_10 : decode cL_allow 10 = .ok (.goto 11, 3) := by decide +kernel
theorem dL_allow_13 : decode cL_allow 13 = .ok (.astore 4, 2) := by decide +kernel
theorem dL_allow_15 : decode cL_allow 15 = .ok (.iconst 1, 1) := by decide +kernel
theorem dL_allow_16 : decode cL_allow 16 = .ok (.ireturn, 1) := by decide +kernel
theorem dL_allow_17 : decode cL_allow 17 = .ok (.astore 4, 2) := by decide +kernel
theorem dL_allow_19 : decode cL_allow 19 = .ok (.iconst 2, 1) := by decide +kernel
theorem dL_allow_20 : decode cL_allow 20 = .ok (.ireturn, 1) := by decide +kernel
theorem dL_allow_21 : decode cL_allow 21 = .ok (.iconst 0, 1) := by decide +kernel
theorem dL_allow_22 : decode cL_allow 22 = .ok (.ireturn, 1) := by decide +kernel
theorem dL_setImage_0 : decode cL_setImage 0 = .ok (.aload_n 3, 1) := by decide +kernel
theorem dL_setImage_1 : decode cL_setImage 1 = .ok (.iconst 0, 1) := by decide +kernel
theorem dL_setImage_2 : decode cL_setImage 2 = .ok (.aload_n 0, 1) := by decide +kernel
theorem dL_setImage_3 : decode cL_setImage 3 = .ok (.iload_n 1, 1) := by decide +kernel
theorem dL_setImage_4 : decode cL_setImage 4 = .ok (.iload_n 2, 1) := by decide +kernel
theorem dL_setImage_5 : decode cL_setImage 5 = .ok (.invokevirtual 17, 3) := by decide +kernel
theorem dL_setImage_8 : decode cL_setImage 8 = .ok (.i2l, 1) := by decide +kernel
theorem dL_setImage_9 : decode cL_setImage 9 = .ok (.lastore, 1) := by decide +kernel
theorem dL_setImage_10 : decode cL_setImage 10 = .ok (.goto 11, 3) := by decide +kernel
theorem dL_setImage_13 : decode cL_setImage 13 = .ok (.astore 4, 2) := by decide +kernel
theorem dL_setImage_15 : decode cL_setImage 15 = .ok (.iconst 1, 1) := by decide +kernel
theorem dL_setImage_16 : decode cL_setImage 16 = .ok (.ireturn, 1) := by decide +kernel
theorem dL_setImage_17 : decode cL_setImage 17 = .ok (.astore 4, 2) := by decide +kernel
theorem dL_setImage_19 : decode cL_setImage 19 = .ok (.iconst 2, 1) := by decide +kernel
theorem dL_setImage_20 : decode cL_setImage 20 = .ok (.ireturn, 1) := by decide +kernel
theorem dL_setImage_21 : decode cL_setImage 21 = .ok (.iconst 0, 1) := by decide +kernel
theorem dL_setImage_22 : decode cL_setImage 22 = .ok (.ireturn, 1) := by decide +kernel
theorem dL_setDelta_0 : decode cL_setDelta 0 = .ok (.aload 4, 2) := by decide +kernel
theorem dL_setDelta_2 : decode cL_setDelta 2 = .ok (.iconst 0, 1) := by decide +kernel
theorem dL_setDelta_3 : decode cL_setDelta 3 = .ok (.aload_n 0, 1) := by decide +kernel
theorem dL_setDelta_4 : decode cL_setDelta 4 = .ok (.iload_n 1, 1) := by decide +kernel
theorem dL_setDelta_5 : decode cL_setDelta 5 = .ok (.iload_n 2, 1) := by decide +kernel
theorem dL_setDelta_6 : decode cL_setDelta 6 = .ok (.iload_n 3, 1) := by decide +kernel
theorem dL_setDelta_7 : decode cL_setDelta 7 = .ok (.invokevirtual 20, 3) := by decide +kernel
theorem dL_setDelta_10 : decode cL_setDelta 10 = .ok (.i2l, 1) := by decide +kernel
theorem dL_setDelta_11 : decode cL_setDelta 11 = .ok (.lastore, 1) := by decide +kernel
theorem dL_setDelta_12 : decode cL_setDelta 12 = .ok (.goto 11, 3) := by decide +kernel
theorem dL_setDelta_15 : decode cL_setDelta 15 = .ok (.astore 5, 2) := by decide +kernel
theorem dL_setDelta_17 : decode cL_setDelta 17 = .ok (.iconst 1, 1) := by decide +kernel
theorem dL_setDelta_18 : decode cL_setDelta 18 = .ok (.ireturn, 1) := by decide +kernel
theorem dL_setDelta_19 : decode cL_setDelta 19 = .ok (.astore 5, 2) := by decide +kernel
theorem dL_setDelta_21 : decode cL_setDelta 21 = .ok (.iconst 2, 1) := by decide +kernel
theorem dL_setDelta_22 : decode cL_setDelta 22 = .ok (.ireturn, 1) := by decide +kernel
theorem dL_setDelta_23 : decode cL_setDelta 23 = .ok (.iconst 0, 1) := by decide +kernel
theorem dL_setDelta_24 : decode cL_setDelta 24 = .ok (.ireturn, 1) := by decide +kernel
theorem dL_size_0 : decode cL_size 0 = .ok (.aload_n 3, 1) := by decide +kernel
theorem dL_size_1 : decode cL_size 1 = .ok (.iconst 0, 1) := by decide +kernel
theorem dL_size_2 : decode cL_size 2 = .ok (.aload_n 0, 1) := by decide +kernel
theorem dL_size_3 : decode cL_size 3 = .ok (.iload_n 1, 1) := by decide +kernel
theorem dL_size_4 : decode cL_size 4 = .ok (.iload_n 2, 1) := by decide +kernel
theorem dL_size_5 : decode cL_size 5 = .ok (.invokevirtual 24, 3) := by decide +kernel
theorem dL_size_8 : decode cL_size 8 = .ok (.i2l, 1) := by decide +kernel
theorem dL_size_9 : decode cL_size 9 = .ok (.lastore, 1) := by decide +kernel
theorem dL_size_10 : decode cL_size 10 = .ok (.goto 7, 3) := by decide +kernel
theorem dL_size_13 : decode cL_size 13 = .ok (.astore 4, 2) := by decide +kernel
theorem dL_size_15 : decode cL_size 15 = .ok (.iconst 1, 1) := by decide +kernel
theorem dL_size_16 : decode cL_size 16 = .ok (.ireturn, 1) := by decide +kernel
theorem dL_size_17 : decode cL_size 17 = .ok (.iconst 0, 1) := by decide +kernel
theorem dL_size_18 : decode cL_size 18 = .ok (.ireturn, 1) := by decide +kernel
theorem dL_sizeByWays_0 : decode cL_sizeByWays 0 = .ok (.aload_n 3, 1) := by decide +kernel
theorem dL_sizeByWays_1 : decode cL_sizeByWays 1 = .ok (.iconst 0, 1) := by decide +kernel
theorem dL_sizeByWays_2 : decode cL_sizeByWays 2 = .ok (.aload_n 0, 1) := by decide +kernel
theorem dL_sizeByWays_3 : decode cL_sizeByWays 3 = .ok (.iload_n 1, 1) := by decide +kernel
theorem dL_sizeByWays_4 : decode cL_sizeByWays 4 = .ok (.iload_n 2, 1) := by decide +kernel
theorem dL_sizeByWays_5 : decode cL_sizeByWays 5 = .ok (.invokevirtual 27, 3) := by decide +kernel
theorem dL_sizeByWays_8 : decode cL_sizeByWays 8 = .ok (.i2l, 1) := by decide +kernel
theorem dL_sizeByWays_9 : decode cL_sizeByWays 9 = .ok (.lastore, 1) := by decide +kernel
theorem dL_sizeByWays_10 : decode cL_sizeByWays 10 = .ok (.goto 7, 3) := by decide +kernel
theorem dL_sizeByWays_13 : decode cL_sizeByWays 13 = .ok (.astore 4, 2) := by decide +kernel
theorem dL_sizeByWays_15 : decode cL_sizeByWays 15 = .ok (.iconst 1, 1) := by decide +kernel
theorem dL_sizeByWays_16 : decode cL_sizeByWays 16 = .ok (.ireturn, 1) := by decide +kernel
theorem dL_sizeByWays_17 : decode cL_sizeByWays 17 = .ok (.iconst 0, 1) := by decide +kernel
theorem dL_sizeByWays_18 : decode cL_sizeByWays 18 = .ok (.ireturn, 1) := by decide +kernel
theorem dL_addDevice_0 : decode cL_addDevice 0 = .ok (.aload_n 3, 1) := by decide +kernel
theorem dL_addDevice_1 : decode cL_addDevice 1 = .ok (.iconst 0, 1) := by decide +kernel
theorem dL_addDevice_2 : decode cL_addDevice 2 = .ok (.aload_n 0, 1) := by decide +kernel
theorem dL_addDevice_3 : decode cL_addDevice 3 = .ok (.iload_n 1, 1) := by decide +kernel
theorem dL_addDevice_4 : decode cL_addDevice 4 = .ok (.iload_n 2, 1) := by decide +kernel
theorem dL_addDevice_5 : decode cL_addDevice 5 = .ok (.invokevirtual 30, 3) := by decide +kernel
theorem dL_addDevice_8 : decode cL_addDevice 8 = .ok (.i2l, 1) := by decide +kernel
theorem dL_addDevice_9 : decode cL_addDevice 9 = .ok (.lastore, 1) := by decide +kernel
theorem dL_addDevice_10 : decode cL_addDevice 10 = .ok (.goto 11, 3) := by decide +kernel
theorem dL_addDevice_13 : decode cL_addDevice 13 = .ok (.astore 4, 2) := by decide +kernel
theorem dL_addDevice_15 : decode cL_addDevice 15 = .ok (.iconst 1, 1) := by decide +kernel
theorem dL_addDevice_16 : decode cL_addDevice 16 = .ok (.ireturn, 1) := by decide +kernel
theorem dL_addDevice_17 : decode cL_addDevice 17 = .ok (.astore 4, 2) := by decide +kernel
theorem dL_addDevice_19 : decode cL_addDevice 19 = .ok (.iconst 2, 1) := by decide +kernel
theorem dL_addDevice_20 : decode cL_addDevice 20 = .ok (.ireturn, 1) := by decide +kernel
theorem dL_addDevice_21 : decode cL_addDevice 21 = .ok (.iconst 0, 1) := by decide +kernel
theorem dL_addDevice_22 : decode cL_addDevice 22 = .ok (.ireturn, 1) := by decide +kernel
theorem dL_charge_0 : decode cL_charge 0 = .ok (.aload_n 3, 1) := by decide +kernel
theorem dL_charge_1 : decode cL_charge 1 = .ok (.iconst 0, 1) := by decide +kernel
theorem dL_charge_2 : decode cL_charge 2 = .ok (.aload_n 0, 1) := by decide +kernel
theorem dL_charge_3 : decode cL_charge 3 = .ok (.iload_n 1, 1) := by decide +kernel
theorem dL_charge_4 : decode cL_charge 4 = .ok (.iload_n 2, 1) := by decide +kernel
theorem dL_charge_5 : decode cL_charge 5 = .ok (.invokevirtual 35, 3) := by decide +kernel
theorem dL_charge_8 : decode cL_charge 8 = .ok (.i2l, 1) := by decide +kernel
theorem dL_charge_9 : decode cL_charge 9 = .ok (.lastore, 1) := by decide +kernel
theorem dL_charge_10 : decode cL_charge 10 = .ok (.goto 11, 3) := by decide +kernel
theorem dL_charge_13 : decode cL_charge 13 = .ok (.astore 4, 2) := by decide +kernel
theorem dL_charge_15 : decode cL_charge 15 = .ok (.iconst 1, 1) := by decide +kernel
theorem dL_charge_16 : decode cL_charge 16 = .ok (.ireturn, 1) := by decide +kernel
theorem dL_charge_17 : decode cL_charge 17 = .ok (.astore 4, 2) := by decide +kernel
theorem dL_charge_19 : decode cL_charge 19 = .ok (.iconst 2, 1) := by decide +kernel
theorem dL_charge_20 : decode cL_charge 20 = .ok (.ireturn, 1) := by decide +kernel
theorem dL_charge_21 : decode cL_charge 21 = .ok (.iconst 0, 1) := by decide +kernel
theorem dL_charge_22 : decode cL_charge 22 = .ok (.ireturn, 1) := by decide +kernel
theorem dL_setWindow_0 : decode cL_setWindow 0 = .ok (.aload_n 0, 1) := by decide +kernel
theorem dL_setWindow_1 : decode cL_setWindow 1 = .ok (.iload_n 1, 1) := by decide +kernel
theorem dL_setWindow_2 : decode cL_setWindow 2 = .ok (.iload_n 2, 1) := by decide +kernel
theorem dL_setWindow_3 : decode cL_setWindow 3 = .ok (.iload_n 3, 1) := by decide +kernel
theorem dL_setWindow_4 : decode cL_setWindow 4 = .ok (.invokevirtual 38, 3) := by decide +kernel
theorem dL_setWindow_7 : decode cL_setWindow 7 = .ok (.goto 11, 3) := by decide +kernel
theorem dL_setWindow_10 : decode cL_setWindow 10 = .ok (.astore 4, 2) := by decide +kernel
theorem dL_setWindow_12 : decode cL_setWindow 12 = .ok (.iconst 1, 1) := by decide +kernel
theorem dL_setWindow_13 : decode cL_setWindow 13 = .ok (.ireturn, 1) := by decide +kernel
theorem dL_setWindow_14 : decode cL_setWindow 14 = .ok (.astore 4, 2) := by decide +kernel
theorem dL_setWindow_16 : decode cL_setWindow 16 = .ok (.iconst 2, 1) := by decide +kernel
theorem dL_setWindow_17 : decode cL_setWindow 17 = .ok (.ireturn, 1) := by decide +kernel
theorem dL_setWindow_18 : decode cL_setWindow 18 = .ok (.iconst 0, 1) := by decide +kernel
theorem dL_setWindow_19 : decode cL_setWindow 19 = .ok (.ireturn, 1) := by decide +kernel
theorem dL_report_0 : decode cL_report 0 = .ok (.aload_n 3, 1) := by decide +kernel
theorem dL_report_1 : decode cL_report 1 = .ok (.iconst 0, 1) := by decide +kernel
theorem dL_report_2 : decode cL_report 2 = .ok (.aload_n 0, 1) := by decide +kernel
theorem dL_report_3 : decode cL_report 3 = .ok (.iload_n 1, 1) := by decide +kernel
theorem dL_report_4 : decode cL_report 4 = .ok (.iload_n 2, 1) := by decide +kernel
theorem dL_report_5 : decode cL_report 5 = .ok (.invokevirtual 42, 3) := by decide +kernel
theorem dL_report_8 : decode cL_report 8 = .ok (.i2l, 1) := by decide +kernel
theorem dL_report_9 : decode cL_report 9 = .ok (.lastore, 1) := by decide +kernel
theorem dL_report_10 : decode cL_report 10 = .ok (.goto 11, 3) := by decide +kernel
theorem dL_report_13 : decode cL_report 13 = .ok (.astore 4, 2) := by decide +kernel
theorem dL_report_15 : decode cL_report 15 = .ok (.iconst 1, 1) := by decide +kernel
theorem dL_report_16 : decode cL_report 16 = .ok (.ireturn, 1) := by decide +kernel
theorem dL_report_17 : decode cL_report 17 = .ok (.astore 4, 2) := by decide +kernel
theorem dL_report_19 : decode cL_report 19 = .ok (.iconst 2, 1) := by decide +kernel
theorem dL_report_20 : decode cL_report 20 = .ok (.ireturn, 1) := by decide +kernel
theorem dL_report_21 : decode cL_report 21 = .ok (.iconst 0, 1) := by decide +kernel
theorem dL_report_22 : decode cL_report 22 = .ok (.ireturn, 1) := by decide +kernel
theorem dL_state_0 : decode cL_state 0 = .ok (.aload_n 2, 1) := by decide +kernel
theorem dL_state_1 : decode cL_state 1 = .ok (.iconst 0, 1) := by decide +kernel
theorem dL_state_2 : decode cL_state 2 = .ok (.aload_n 0, 1) := by decide +kernel
theorem dL_state_3 : decode cL_state 3 = .ok (.iload_n 1, 1) := by decide +kernel
theorem dL_state_4 : decode cL_state 4 = .ok (.invokevirtual 46, 3) := by decide +kernel
theorem dL_state_7 : decode cL_state 7 = .ok (.i2l, 1) := by decide +kernel
theorem dL_state_8 : decode cL_state 8 = .ok (.lastore, 1) := by decide +kernel
theorem dL_state_9 : decode cL_state 9 = .ok (.goto 6, 3) := by decide +kernel
theorem dL_state_12 : decode cL_state 12 = .ok (.astore_n 3, 1) := by decide +kernel
theorem dL_state_13 : decode cL_state 13 = .ok (.iconst 1, 1) := by decide +kernel
theorem dL_state_14 : decode cL_state 14 = .ok (.ireturn, 1) := by decide +kernel
theorem dL_state_15 : decode cL_state 15 = .ok (.iconst 0, 1) := by decide +kernel
theorem dL_state_16 : decode cL_state 16 = .ok (.ireturn, 1) := by decide +kernel
theorem dL_version_0 : decode cL_version 0 = .ok (.aload_n 2, 1) := by decide +kernel
theorem dL_version_1 : decode cL_version 1 = .ok (.iconst 0, 1) := by decide +kernel
theorem dL_version_2 : decode cL_version 2 = .ok (.aload_n 0, 1) := by decide +kernel
theorem dL_version_3 : decode cL_version 3 = .ok (.iload_n 1, 1) := by decide +kernel
theorem dL_version_4 : decode cL_version 4 = .ok (.invokevirtual 50, 3) := by decide +kernel
theorem dL_version_7 : decode cL_version 7 = .ok (.i2l, 1) := by decide +kernel
theorem dL_version_8 : decode cL_version 8 = .ok (.lastore, 1) := by decide +kernel
theorem dL_version_9 : decode cL_version 9 = .ok (.goto 6, 3) := by decide +kernel
theorem dL_version_12 : decode cL_version 12 = .ok (.astore_n 3, 1) := by decide +kernel
theorem dL_version_13 : decode cL_version 13 = .ok (.iconst 1, 1) := by decide +kernel
theorem dL_version_14 : decode cL_version 14 = .ok (.ireturn, 1) := by decide +kernel
theorem dL_version_15 : decode cL_version 15 = .ok (.iconst 0, 1) := by decide +kernel
theorem dL_version_16 : decode cL_version 16 = .ok (.ireturn, 1) := by decide +kernel
theorem dL_campaignOf_0 : decode cL_campaignOf 0 = .ok (.aload_n 2, 1) := by decide +kernel
theorem dL_campaignOf_1 : decode cL_campaignOf 1 = .ok (.iconst 0, 1) := by decide +kernel
theorem dL_campaignOf_2 : decode cL_campaignOf 2 = .ok (.aload_n 0, 1) := by decide +kernel
theorem dL_campaignOf_3 : decode cL_campaignOf 3 = .ok (.iload_n 1, 1) := by decide +kernel
theorem dL_campaignOf_4 : decode cL_campaignOf 4 = .ok (.invokevirtual 53, 3) := by decide +kernel
theorem dL_campaignOf_7 : decode cL_campaignOf 7 = .ok (.i2l, 1) := by decide +kernel
theorem dL_campaignOf_8 : decode cL_campaignOf 8 = .ok (.lastore, 1) := by decide +kernel
theorem dL_campaignOf_9 : decode cL_campaignOf 9 = .ok (.goto 6, 3) := by decide +kernel
theorem dL_campaignOf_12 : decode cL_campaignOf 12 = .ok (.astore_n 3, 1) := by decide +kernel
theorem dL_campaignOf_13 : decode cL_campaignOf 13 = .ok (.iconst 1, 1) := by decide +kernel
theorem dL_campaignOf_14 : decode cL_campaignOf 14 = .ok (.ireturn, 1) := by decide +kernel
theorem dL_campaignOf_15 : decode cL_campaignOf 15 = .ok (.iconst 0, 1) := by decide +kernel
theorem dL_campaignOf_16 : decode cL_campaignOf 16 = .ok (.ireturn, 1) := by decide +kernel
theorem dL_toGo_0 : decode cL_toGo 0 = .ok (.aload_n 2, 1) := by decide +kernel
theorem dL_toGo_1 : decode cL_toGo 1 = .ok (.iconst 0, 1) := by decide +kernel
theorem dL_toGo_2 : decode cL_toGo 2 = .ok (.aload_n 0, 1) := by decide +kernel
theorem dL_toGo_3 : decode cL_toGo 3 = .ok (.iload_n 1, 1) := by decide +kernel
theorem dL_toGo_4 : decode cL_toGo 4 = .ok (.invokevirtual 56, 3) := by decide +kernel
theorem dL_toGo_7 : decode cL_toGo 7 = .ok (.i2l, 1) := by decide +kernel
theorem dL_toGo_8 : decode cL_toGo 8 = .ok (.lastore, 1) := by decide +kernel
theorem dL_toGo_9 : decode cL_toGo 9 = .ok (.goto 6, 3) := by decide +kernel
theorem dL_toGo_12 : decode cL_toGo 12 = .ok (.astore_n 3, 1) := by decide +kernel
theorem dL_toGo_13 : decode cL_toGo 13 = .ok (.iconst 1, 1) := by decide +kernel
theorem dL_toGo_14 : decode cL_toGo 14 = .ok (.ireturn, 1) := by decide +kernel
theorem dL_toGo_15 : decode cL_toGo 15 = .ok (.iconst 0, 1) := by decide +kernel
theorem dL_toGo_16 : decode cL_toGo 16 = .ok (.ireturn, 1) := by decide +kernel
theorem dL_battery_0 : decode cL_battery 0 = .ok (.aload_n 2, 1) := by decide +kernel
theorem dL_battery_1 : decode cL_battery 1 = .ok (.iconst 0, 1) := by decide +kernel
theorem dL_battery_2 : decode cL_battery 2 = .ok (.aload_n 0, 1) := by decide +kernel
theorem dL_battery_3 : decode cL_battery 3 = .ok (.iload_n 1, 1) := by decide +kernel
theorem dL_battery_4 : decode cL_battery 4 = .ok (.invokevirtual 59, 3) := by decide +kernel
theorem dL_battery_7 : decode cL_battery 7 = .ok (.i2l, 1) := by decide +kernel
theorem dL_battery_8 : decode cL_battery 8 = .ok (.lastore, 1) := by decide +kernel
theorem dL_battery_9 : decode cL_battery 9 = .ok (.goto 6, 3) := by decide +kernel
theorem dL_battery_12 : decode cL_battery 12 = .ok (.astore_n 3, 1) := by decide +kernel
theorem dL_battery_13 : decode cL_battery 13 = .ok (.iconst 1, 1) := by decide +kernel
theorem dL_battery_14 : decode cL_battery 14 = .ok (.ireturn, 1) := by decide +kernel
theorem dL_battery_15 : decode cL_battery 15 = .ok (.iconst 0, 1) := by decide +kernel
theorem dL_battery_16 : decode cL_battery 16 = .ok (.ireturn, 1) := by decide +kernel
theorem dL_begin_0 : decode cL_begin 0 = .ok (.aload 5, 2) := by decide +kernel
theorem dL_begin_2 : decode cL_begin 2 = .ok (.iconst 0, 1) := by decide +kernel
theorem dL_begin_3 : decode cL_begin 3 = .ok (.aload_n 0, 1) := by decide +kernel
theorem dL_begin_4 : decode cL_begin 4 = .ok (.iload_n 1, 1) := by decide +kernel
theorem dL_begin_5 : decode cL_begin 5 = .ok (.iload_n 2, 1) := by decide +kernel
theorem dL_begin_6 : decode cL_begin 6 = .ok (.iload_n 3, 1) := by decide +kernel
theorem dL_begin_7 : decode cL_begin 7 = .ok (.iload 4, 2) := by decide +kernel
theorem dL_begin_9 : decode cL_begin 9 = .ok (.invokevirtual 62, 3) := by decide +kernel
theorem dL_begin_12 : decode cL_begin 12 = .ok (.i2l, 1) := by decide +kernel
theorem dL_begin_13 : decode cL_begin 13 = .ok (.lastore, 1) := by decide +kernel
theorem dL_begin_14 : decode cL_begin 14 = .ok (.goto 15, 3) := by decide +kernel
theorem dL_begin_17 : decode cL_begin 17 = .ok (.astore 6, 2) := by decide +kernel
theorem dL_begin_19 : decode cL_begin 19 = .ok (.iconst 1, 1) := by decide +kernel
theorem dL_begin_20 : decode cL_begin 20 = .ok (.ireturn, 1) := by decide +kernel
theorem dL_begin_21 : decode cL_begin 21 = .ok (.astore 6, 2) := by decide +kernel
theorem dL_begin_23 : decode cL_begin 23 = .ok (.iconst 2, 1) := by decide +kernel
theorem dL_begin_24 : decode cL_begin 24 = .ok (.ireturn, 1) := by decide +kernel
theorem dL_begin_25 : decode cL_begin 25 = .ok (.astore 6, 2) := by decide +kernel
theorem dL_begin_27 : decode cL_begin 27 = .ok (.iconst 3, 1) := by decide +kernel
theorem dL_begin_28 : decode cL_begin 28 = .ok (.ireturn, 1) := by decide +kernel
theorem dL_begin_29 : decode cL_begin 29 = .ok (.iconst 0, 1) := by decide +kernel
theorem dL_begin_30 : decode cL_begin 30 = .ok (.ireturn, 1) := by decide +kernel
theorem dL_setRules_0 : decode cL_setRules 0 = .ok (.aload_n 0, 1) := by decide +kernel
theorem dL_setRules_1 : decode cL_setRules 1 = .ok (.iload_n 1, 1) := by decide +kernel
theorem dL_setRules_2 : decode cL_setRules 2 = .ok (.iload_n 2, 1) := by decide +kernel
theorem dL_setRules_3 : decode cL_setRules 3 = .ok (.iload_n 3, 1) := by decide +kernel
theorem dL_setRules_4 : decode cL_setRules 4 = .ok (.iload 4, 2) := by decide +kernel
theorem dL_setRules_6 : decode cL_setRules 6 = .ok (.iload 5, 2) := by decide +kernel
theorem dL_setRules_8 : decode cL_setRules 8 = .ok (.invokevirtual 66, 3) := by decide +kernel
theorem dL_setRules_11 : decode cL_setRules 11 = .ok (.goto 11, 3) := by decide +kernel
theorem dL_setRules_14 : decode cL_setRules 14 = .ok (.astore 6, 2) := by decide +kernel
theorem dL_setRules_16 : decode cL_setRules 16 = .ok (.iconst 1, 1) := by decide +kernel
theorem dL_setRules_17 : decode cL_setRules 17 = .ok (.ireturn, 1) := by decide +kernel
theorem dL_setRules_18 : decode cL_setRules 18 = .ok (.astore 6, 2) := by decide +kernel
theorem dL_setRules_20 : decode cL_setRules 20 = .ok (.iconst 2, 1) := by decide +kernel
theorem dL_setRules_21 : decode cL_setRules 21 = .ok (.ireturn, 1) := by decide +kernel
theorem dL_setRules_22 : decode cL_setRules 22 = .ok (.iconst 0, 1) := by decide +kernel
theorem dL_setRules_23 : decode cL_setRules 23 = .ok (.ireturn, 1) := by decide +kernel
theorem dL_toggle_0 : decode cL_toggle 0 = .ok (.aload_n 2, 1) := by decide +kernel
theorem dL_toggle_1 : decode cL_toggle 1 = .ok (.iconst 0, 1) := by decide +kernel
theorem dL_toggle_2 : decode cL_toggle 2 = .ok (.aload_n 0, 1) := by decide +kernel
theorem dL_toggle_3 : decode cL_toggle 3 = .ok (.iload_n 1, 1) := by decide +kernel
theorem dL_toggle_4 : decode cL_toggle 4 = .ok (.invokevirtual 70, 3) := by decide +kernel
theorem dL_toggle_7 : decode cL_toggle 7 = .ok (.ifCond .eq 7, 3) := by decide +kernel
theorem dL_toggle_10 : decode cL_toggle 10 = .ok (.lconst 1, 1) := by decide +kernel
theorem dL_toggle_11 : decode cL_toggle 11 = .ok (.goto 4, 3) := by decide +kernel
theorem dL_toggle_14 : decode cL_toggle 14 = .ok (.lconst 0, 1) := by decide +kernel
theorem dL_toggle_15 : decode cL_toggle 15 = .ok (.lastore, 1) := by decide +kernel
theorem dL_toggle_16 : decode cL_toggle 16 = .ok (.goto 6, 3) := by decide +kernel
theorem dL_toggle_19 : decode cL_toggle 19 = .ok (.astore_n 3, 1) := by decide +kernel
theorem dL_toggle_20 : decode cL_toggle 20 = .ok (.iconst 1, 1) := by decide +kernel
theorem dL_toggle_21 : decode cL_toggle 21 = .ok (.ireturn, 1) := by decide +kernel
theorem dL_toggle_22 : decode cL_toggle 22 = .ok (.iconst 0, 1) := by decide +kernel
theorem dL_toggle_23 : decode cL_toggle 23 = .ok (.ireturn, 1) := by decide +kernel
theorem dL_isActive_0 : decode cL_isActive 0 = .ok (.aload_n 2, 1) := by decide +kernel
theorem dL_isActive_1 : decode cL_isActive 1 = .ok (.iconst 0, 1) := by decide +kernel
theorem dL_isActive_2 : decode cL_isActive 2 = .ok (.aload_n 0, 1) := by decide +kernel
theorem dL_isActive_3 : decode cL_isActive 3 = .ok (.iload_n 1, 1) := by decide +kernel
theorem dL_isActive_4 : decode cL_isActive 4 = .ok (.invokevirtual 74, 3) := by decide +kernel
theorem dL_isActive_7 : decode cL_isActive 7 = .ok (.ifCond .eq 7, 3) := by decide +kernel
theorem dL_isActive_10 : decode cL_isActive 10 = .ok (.lconst 1, 1) := by decide +kernel
theorem dL_isActive_11 : decode cL_isActive 11 = .ok (.goto 4, 3) := by decide +kernel
theorem dL_isActive_14 : decode cL_isActive 14 = .ok (.lconst 0, 1) := by decide +kernel
theorem dL_isActive_15 : decode cL_isActive 15 = .ok (.lastore, 1) := by decide +kernel
theorem dL_isActive_16 : decode cL_isActive 16 = .ok (.goto 6, 3) := by decide +kernel
theorem dL_isActive_19 : decode cL_isActive 19 = .ok (.astore_n 3, 1) := by decide +kernel
theorem dL_isActive_20 : decode cL_isActive 20 = .ok (.iconst 1, 1) := by decide +kernel
theorem dL_isActive_21 : decode cL_isActive 21 = .ok (.ireturn, 1) := by decide +kernel
theorem dL_isActive_22 : decode cL_isActive 22 = .ok (.iconst 0, 1) := by decide +kernel
theorem dL_isActive_23 : decode cL_isActive 23 = .ok (.ireturn, 1) := by decide +kernel
theorem dL_ring_0 : decode cL_ring 0 = .ok (.aload_n 2, 1) := by decide +kernel
theorem dL_ring_1 : decode cL_ring 1 = .ok (.iconst 0, 1) := by decide +kernel
theorem dL_ring_2 : decode cL_ring 2 = .ok (.aload_n 0, 1) := by decide +kernel
theorem dL_ring_3 : decode cL_ring 3 = .ok (.iload_n 1, 1) := by decide +kernel
theorem dL_ring_4 : decode cL_ring 4 = .ok (.invokevirtual 77, 3) := by decide +kernel
theorem dL_ring_7 : decode cL_ring 7 = .ok (.i2l, 1) := by decide +kernel
theorem dL_ring_8 : decode cL_ring 8 = .ok (.lastore, 1) := by decide +kernel
theorem dL_ring_9 : decode cL_ring 9 = .ok (.goto 6, 3) := by decide +kernel
theorem dL_ring_12 : decode cL_ring 12 = .ok (.astore_n 3, 1) := by decide +kernel
theorem dL_ring_13 : decode cL_ring 13 = .ok (.iconst 1, 1) := by decide +kernel
theorem dL_ring_14 : decode cL_ring 14 = .ok (.ireturn, 1) := by decide +kernel
theorem dL_ring_15 : decode cL_ring 15 = .ok (.iconst 0, 1) := by decide +kernel
theorem dL_ring_16 : decode cL_ring 16 = .ok (.ireturn, 1) := by decide +kernel
theorem dL_reports_0 : decode cL_reports 0 = .ok (.aload_n 2, 1) := by decide +kernel
theorem dL_reports_1 : decode cL_reports 1 = .ok (.iconst 0, 1) := by decide +kernel
theorem dL_reports_2 : decode cL_reports 2 = .ok (.aload_n 0, 1) := by decide +kernel
theorem dL_reports_3 : decode cL_reports 3 = .ok (.iload_n 1, 1) := by decide +kernel
theorem dL_reports_4 : decode cL_reports 4 = .ok (.invokevirtual 80, 3) := by decide +kernel
theorem dL_reports_7 : decode cL_reports 7 = .ok (.i2l, 1) := by decide +kernel
theorem dL_reports_8 : decode cL_reports 8 = .ok (.lastore, 1) := by decide +kernel
theorem dL_reports_9 : decode cL_reports 9 = .ok (.goto 6, 3) := by decide +kernel
theorem dL_reports_12 : decode cL_reports 12 = .ok (.astore_n 3, 1) := by decide +kernel
theorem dL_reports_13 : decode cL_reports 13 = .ok (.iconst 1, 1) := by decide +kernel
theorem dL_reports_14 : decode cL_reports 14 = .ok (.ireturn, 1) := by decide +kernel
theorem dL_reports_15 : decode cL_reports 15 = .ok (.iconst 0, 1) := by decide +kernel
theorem dL_reports_16 : decode cL_reports 16 = .ok (.ireturn, 1) := by decide +kernel
theorem dL_eligible_0 : decode cL_eligible 0 = .ok (.aload_n 2, 1) := by decide +kernel
theorem dL_eligible_1 : decode cL_eligible 1 = .ok (.iconst 0, 1) := by decide +kernel
theorem dL_eligible_2 : decode cL_eligible 2 = .ok (.aload_n 0, 1) := by decide +kernel
theorem dL_eligible_3 : decode cL_eligible 3 = .ok (.iload_n 1, 1) := by decide +kernel
theorem dL_eligible_4 : decode cL_eligible 4 = .ok (.invokevirtual 83, 3) := by decide +kernel
theorem dL_eligible_7 : decode cL_eligible 7 = .ok (.i2l, 1) := by decide +kernel
theorem dL_eligible_8 : decode cL_eligible 8 = .ok (.lastore, 1) := by decide +kernel
theorem dL_eligible_9 : decode cL_eligible 9 = .ok (.goto 6, 3) := by decide +kernel
theorem dL_eligible_12 : decode cL_eligible 12 = .ok (.astore_n 3, 1) := by decide +kernel
theorem dL_eligible_13 : decode cL_eligible 13 = .ok (.iconst 1, 1) := by decide +kernel
theorem dL_eligible_14 : decode cL_eligible 14 = .ok (.ireturn, 1) := by decide +kernel
theorem dL_eligible_15 : decode cL_eligible 15 = .ok (.iconst 0, 1) := by decide +kernel
theorem dL_eligible_16 : decode cL_eligible 16 = .ok (.ireturn, 1) := by decide +kernel
theorem dL_pass_0 : decode cL_pass 0 = .ok (.aload_n 2, 1) := by decide +kernel
theorem dL_pass_1 : decode cL_pass 1 = .ok (.iconst 0, 1) := by decide +kernel
theorem dL_pass_2 : decode cL_pass 2 = .ok (.aload_n 0, 1) := by decide +kernel
theorem dL_pass_3 : decode cL_pass 3 = .ok (.iload_n 1, 1) := by decide +kernel
theorem dL_pass_4 : decode cL_pass 4 = .ok (.invokevirtual 86, 3) := by decide +kernel
theorem dL_pass_7 : decode cL_pass 7 = .ok (.i2l, 1) := by decide +kernel
theorem dL_pass_8 : decode cL_pass 8 = .ok (.lastore, 1) := by decide +kernel
theorem dL_pass_9 : decode cL_pass 9 = .ok (.goto 6, 3) := by decide +kernel
theorem dL_pass_12 : decode cL_pass 12 = .ok (.astore_n 3, 1) := by decide +kernel
theorem dL_pass_13 : decode cL_pass 13 = .ok (.iconst 1, 1) := by decide +kernel
theorem dL_pass_14 : decode cL_pass 14 = .ok (.ireturn, 1) := by decide +kernel
theorem dL_pass_15 : decode cL_pass 15 = .ok (.iconst 0, 1) := by decide +kernel
theorem dL_pass_16 : decode cL_pass 16 = .ok (.ireturn, 1) := by decide +kernel
theorem dL_law_0 : decode cL_law 0 = .ok (.new 8, 3) := by decide +kernel
theorem dL_law_3 : decode cL_law 3 = .ok (.dup, 1) := by decide +kernel
theorem dL_law_4 : decode cL_law 4 = .ok (.invokespecial 89, 3) := by decide +kernel
theorem dL_law_7 : decode cL_law 7 = .ok (.astore_n 1, 1) := by decide +kernel
theorem dL_law_8 : decode cL_law 8 = .ok (.new 90, 3) := by decide +kernel
theorem dL_law_11 : decode cL_law 11 = .ok (.dup, 1) := by decide +kernel
theorem dL_law_12 : decode cL_law 12 = .ok (.invokespecial 92, 3) := by decide +kernel
theorem dL_law_15 : decode cL_law 15 = .ok (.astore_n 2, 1) := by decide +kernel
theorem dL_law_16 : decode cL_law 16 = .ok (.iconst 1, 1) := by decide +kernel
theorem dL_law_17 : decode cL_law 17 = .ok (.newarray .long, 2) := by decide +kernel
theorem dL_law_19 : decode cL_law 19 = .ok (.astore_n 3, 1) := by decide +kernel
theorem dL_law_20 : decode cL_law 20 = .ok (.iconst 0, 1) := by decide +kernel
theorem dL_law_21 : decode cL_law 21 = .ok (.istore 4, 2) := by decide +kernel
theorem dL_law_23 : decode cL_law 23 = .ok (.iload 4, 2) := by decide +kernel
theorem dL_law_25 : decode cL_law 25 = .ok (.aload_n 0, 1) := by decide +kernel
theorem dL_law_26 : decode cL_law 26 = .ok (.arraylength, 1) := by decide +kernel
theorem dL_law_27 : decode cL_law 27 = .ok (.bipush 6, 2) := by decide +kernel
theorem dL_law_29 : decode cL_law 29 = .ok (.isub, 1) := by decide +kernel
theorem dL_law_30 : decode cL_law 30 = .ok (.if_icmp .gt 1575, 3) := by decide +kernel
theorem dL_law_33 : decode cL_law 33 = .ok (.aload_n 0, 1) := by decide +kernel
theorem dL_law_34 : decode cL_law 34 = .ok (.iload 4, 2) := by decide +kernel
theorem dL_law_36 : decode cL_law 36 = .ok (.iaload, 1) := by decide +kernel
theorem dL_law_37 : decode cL_law 37 = .ok (.bipush 31, 2) := by decide +kernel
theorem dL_law_39 : decode cL_law 39 = .ok (.iand, 1) := by decide +kernel
theorem dL_law_40 : decode cL_law 40 = .ok (.tableswitch 1559 0 22 #[108, 176, 244, 324, 392, 460, 528, 596, 656, 740, 753, 809, 865, 921, 977, 1033, 1125, 1209, 1272, 1335, 1391, 1447, 1503], 108) := by decide +kernel
theorem dL_law_148 : decode cL_law 148 = .ok (.aload_n 1, 1) := by decide +kernel
theorem dL_law_149 : decode cL_law 149 = .ok (.aload_n 0, 1) := by decide +kernel
theorem dL_law_150 : decode cL_law 150 = .ok (.iload 4, 2) := by decide +kernel
theorem dL_law_152 : decode cL_law 152 = .ok (.iconst 1, 1) := by decide +kernel
theorem dL_law_153 : decode cL_law 153 = .ok (.iadd, 1) := by decide +kernel
theorem dL_law_154 : decode cL_law 154 = .ok (.iaload, 1) := by decide +kernel
theorem dL_law_155 : decode cL_law 155 = .ok (.aload_n 0, 1) := by decide +kernel
theorem dL_law_156 : decode cL_law 156 = .ok (.iload 4, 2) := by decide +kernel
theorem dL_law_158 : decode cL_law 158 = .ok (.iconst 2, 1) := by decide +kernel
theorem dL_law_159 : decode cL_law 159 = .ok (.iadd, 1) := by decide +kernel
theorem dL_law_160 : decode cL_law 160 = .ok (.iaload, 1) := by decide +kernel
theorem dL_law_161 : decode cL_law 161 = .ok (.aload_n 3, 1) := by decide +kernel
theorem dL_law_162 : decode cL_law 162 = .ok (.invokestatic 93, 3) := by decide +kernel
theorem dL_law_165 : decode cL_law 165 = .ok (.istore 5, 2) := by decide +kernel
theorem dL_law_167 : decode cL_law 167 = .ok (.aload_n 2, 1) := by decide +kernel
theorem dL_law_168 : decode cL_law 168 = .ok (.aload_n 0, 1) := by decide +kernel
theorem dL_law_169 : decode cL_law 169 = .ok (.iload 4, 2) := by decide +kernel
theorem dL_law_171 : decode cL_law 171 = .ok (.iconst 1, 1) := by decide +kernel
theorem dL_law_172 : decode cL_law 172 = .ok (.iadd, 1) := by decide +kernel
theorem dL_law_173 : decode cL_law 173 = .ok (.iaload, 1) := by decide +kernel
theorem dL_law_174 : decode cL_law 174 = .ok (.aload_n 0, 1) := by decide +kernel
theorem dL_law_175 : decode cL_law 175 = .ok (.iload 4, 2) := by decide +kernel
theorem dL_law_177 : decode cL_law 177 = .ok (.iconst 2, 1) := by decide +kernel
theorem dL_law_178 : decode cL_law 178 = .ok (.iadd, 1) := by decide +kernel
theorem dL_law_179 : decode cL_law 179 = .ok (.iaload, 1) := by decide +kernel
theorem dL_law_180 : decode cL_law 180 = .ok (.invokevirtual 98, 3) := by decide +kernel
theorem dL_law_183 : decode cL_law 183 = .ok (.istore 6, 2) := by decide +kernel
theorem dL_law_185 : decode cL_law 185 = .ok (.aload_n 2, 1) := by decide +kernel
theorem dL_law_186 : decode cL_law 186 = .ok (.invokevirtual 99, 3) := by decide +kernel
theorem dL_law_189 : decode cL_law 189 = .ok (.iload 5, 2) := by decide +kernel
theorem dL_law_191 : decode cL_law 191 = .ok (.if_icmp .eq 5, 3) := by decide +kernel
theorem dL_law_194 : decode cL_law 194 = .ok (.iconst 0, 1) := by decide +kernel
theorem dL_law_195 : decode cL_law 195 = .ok (.ireturn, 1) := by decide +kernel
theorem dL_law_196 : decode cL_law 196 = .ok (.iload 5, 2) := by decide +kernel
theorem dL_law_198 : decode cL_law 198 = .ok (.ifCond .ne 15, 3) := by decide +kernel
theorem dL_law_201 : decode cL_law 201 = .ok (.aload_n 3, 1) := by decide +kernel
theorem dL_law_202 : decode cL_law 202 = .ok (.iconst 0, 1) := by decide +kernel
theorem dL_law_203 : decode cL_law 203 = .ok (.laload, 1) := by decide +kernel
theorem dL_law_204 : decode cL_law 204 = .ok (.iload 6, 2) := by decide +kernel
theorem dL_law_206 : decode cL_law 206 = .ok (.i2l, 1) := by decide +kernel
theorem dL_law_207 : decode cL_law 207 = .ok (.lcmp, 1) := by decide +kernel
theorem dL_law_208 : decode cL_law 208 = .ok (.ifCond .eq 5, 3) := by decide +kernel
theorem dL_law_211 : decode cL_law 211 = .ok (.iconst 0, 1) := by decide +kernel
theorem dL_law_212 : decode cL_law 212 = .ok (.ireturn, 1) := by decide +kernel
theorem dL_law_213 : decode cL_law 213 = .ok (.goto 1386, 3) := by decide +kernel
theorem dL_law_216 : decode cL_law 216 = .ok (.aload_n 1, 1) := by decide +kernel
theorem dL_law_217 : decode cL_law 217 = .ok (.aload_n 0, 1) := by decide +kernel
theorem dL_law_218 : decode cL_law 218 = .ok (.iload 4, 2) := by decide +kernel
theorem dL_law_220 : decode cL_law 220 = .ok (.iconst 1, 1) := by decide +kernel
theorem dL_law_221 : decode cL_law 221 = .ok (.iadd, 1) := by decide +kernel
theorem dL_law_222 : decode cL_law 222 = .ok (.iaload, 1) := by decide +kernel
theorem dL_law_223 : decode cL_law 223 = .ok (.aload_n 0, 1) := by decide +kernel
theorem dL_law_224 : decode cL_law 224 = .ok (.iload 4, 2) := by decide +kernel
theorem dL_law_226 : decode cL_law 226 = .ok (.iconst 2, 1) := by decide +kernel
theorem dL_law_227 : decode cL_law 227 = .ok (.iadd, 1) := by decide +kernel
theorem dL_law_228 : decode cL_law 228 = .ok (.iaload, 1) := by decide +kernel
theorem dL_law_229 : decode cL_law 229 = .ok (.aload_n 3, 1) := by decide +kernel
theorem dL_law_230 : decode cL_law 230 = .ok (.invokestatic 103, 3) := by decide +kernel
theorem dL_law_233 : decode cL_law 233 = .ok (.istore 5, 2) := by decide +kernel
theorem dL_law_235 : decode cL_law 235 = .ok (.aload_n 2, 1) := by decide +kernel
theorem dL_law_236 : decode cL_law 236 = .ok (.aload_n 0, 1) := by decide +kernel
theorem dL_law_237 : decode cL_law 237 = .ok (.iload 4, 2) := by decide +kernel
theorem dL_law_239 : decode cL_law 239 = .ok (.iconst 1, 1) := by decide +kernel
theorem dL_law_240 : decode cL_law 240 = .ok (.iadd, 1) := by decide +kernel
theorem dL_law_241 : decode cL_law 241 = .ok (.iaload, 1) := by decide +kernel
theorem dL_law_242 : decode cL_law 242 = .ok (.aload_n 0, 1) := by decide +kernel
theorem dL_law_243 : decode cL_law 243 = .ok (.iload 4, 2) := by decide +kernel
theorem dL_law_245 : decode cL_law 245 = .ok (.iconst 2, 1) := by decide +kernel
theorem dL_law_246 : decode cL_law 246 = .ok (.iadd, 1) := by decide +kernel
theorem dL_law_247 : decode cL_law 247 = .ok (.iaload, 1) := by decide +kernel
theorem dL_law_248 : decode cL_law 248 = .ok (.invokevirtual 105, 3) := by decide +kernel
theorem dL_law_251 : decode cL_law 251 = .ok (.istore 6, 2) := by decide +kernel
theorem dL_law_253 : decode cL_law 253 = .ok (.aload_n 2, 1) := by decide +kernel
theorem dL_law_254 : decode cL_law 254 = .ok (.invokevirtual 99, 3) := by decide +kernel
theorem dL_law_257 : decode cL_law 257 = .ok (.iload 5, 2) := by decide +kernel
theorem dL_law_259 : decode cL_law 259 = .ok (.if_icmp .eq 5, 3) := by decide +kernel
theorem dL_law_262 : decode cL_law 262 = .ok (.iconst 0, 1) := by decide +kernel
theorem dL_law_263 : decode cL_law 263 = .ok (.ireturn, 1) := by decide +kernel
theorem dL_law_264 : decode cL_law 264 = .ok (.iload 5, 2) := by decide +kernel
theorem dL_law_266 : decode cL_law 266 = .ok (.ifCond .ne 15, 3) := by decide +kernel
theorem dL_law_269 : decode cL_law 269 = .ok (.aload_n 3, 1) := by decide +kernel
theorem dL_law_270 : decode cL_law 270 = .ok (.iconst 0, 1) := by decide +kernel
theorem dL_law_271 : decode cL_law 271 = .ok (.laload, 1) := by decide +kernel
theorem dL_law_272 : decode cL_law 272 = .ok (.iload 6, 2) := by decide +kernel
theorem dL_law_274 : decode cL_law 274 = .ok (.i2l, 1) := by decide +kernel
theorem dL_law_275 : decode cL_law 275 = .ok (.lcmp, 1) := by decide +kernel
theorem dL_law_276 : decode cL_law 276 = .ok (.ifCond .eq 5, 3) := by decide +kernel
theorem dL_law_279 : decode cL_law 279 = .ok (.iconst 0, 1) := by decide +kernel
theorem dL_law_280 : decode cL_law 280 = .ok (.ireturn, 1) := by decide +kernel
theorem dL_law_281 : decode cL_law 281 = .ok (.goto 1318, 3) := by decide +kernel
theorem dL_law_284 : decode cL_law 284 = .ok (.aload_n 1, 1) := by decide +kernel
theorem dL_law_285 : decode cL_law 285 = .ok (.aload_n 0, 1) := by decide +kernel
theorem dL_law_286 : decode cL_law 286 = .ok (.iload 4, 2) := by decide +kernel
theorem dL_law_288 : decode cL_law 288 = .ok (.iconst 1, 1) := by decide +kernel
theorem dL_law_289 : decode cL_law 289 = .ok (.iadd, 1) := by decide +kernel
theorem dL_law_290 : decode cL_law 290 = .ok (.iaload, 1) := by decide +kernel
theorem dL_law_291 : decode cL_law 291 = .ok (.aload_n 0, 1) := by decide +kernel
theorem dL_law_292 : decode cL_law 292 = .ok (.iload 4, 2) := by decide +kernel
theorem dL_law_294 : decode cL_law 294 = .ok (.iconst 2, 1) := by decide +kernel
theorem dL_law_295 : decode cL_law 295 = .ok (.iadd, 1) := by decide +kernel
theorem dL_law_296 : decode cL_law 296 = .ok (.iaload, 1) := by decide +kernel
theorem dL_law_297 : decode cL_law 297 = .ok (.aload_n 0, 1) := by decide +kernel
theorem dL_law_298 : decode cL_law 298 = .ok (.iload 4, 2) := by decide +kernel
theorem dL_law_300 : decode cL_law 300 = .ok (.iconst 3, 1) := by decide +kernel
theorem dL_law_301 : decode cL_law 301 = .ok (.iadd, 1) := by decide +kernel
theorem dL_law_302 : decode cL_law 302 = .ok (.iaload, 1) := by decide +kernel
theorem dL_law_303 : decode cL_law 303 = .ok (.aload_n 3, 1) := by decide +kernel
theorem dL_law_304 : decode cL_law 304 = .ok (.invokestatic 106, 3) := by decide +kernel
theorem dL_law_307 : decode cL_law 307 = .ok (.istore 5, 2) := by decide +kernel
theorem dL_law_309 : decode cL_law 309 = .ok (.aload_n 2, 1) := by decide +kernel
theorem dL_law_310 : decode cL_law 310 = .ok (.aload_n 0, 1) := by decide +kernel
theorem dL_law_311 : decode cL_law 311 = .ok (.iload 4, 2) := by decide +kernel
theorem dL_law_313 : decode cL_law 313 = .ok (.iconst 1, 1) := by decide +kernel
theorem dL_law_314 : decode cL_law 314 = .ok (.iadd, 1) := by decide +kernel
theorem dL_law_315 : decode cL_law 315 = .ok (.iaload, 1) := by decide +kernel
theorem dL_law_316 : decode cL_law 316 = .ok (.aload_n 0, 1) := by decide +kernel
theorem dL_law_317 : decode cL_law 317 = .ok (.iload 4, 2) := by decide +kernel
theorem dL_law_319 : decode cL_law 319 = .ok (.iconst 2, 1) := by decide +kernel
theorem dL_law_320 : decode cL_law 320 = .ok (.iadd, 1) := by decide +kernel
theorem dL_law_321 : decode cL_law 321 = .ok (.iaload, 1) := by decide +kernel
theorem dL_law_322 : decode cL_law 322 = .ok (.aload_n 0, 1) := by decide +kernel
theorem dL_law_323 : decode cL_law 323 = .ok (.iload 4, 2) := by decide +kernel
theorem dL_law_325 : decode cL_law 325 = .ok (.iconst 3, 1) := by decide +kernel
theorem dL_law_326 : decode cL_law 326 = .ok (.iadd, 1) := by decide +kernel
theorem dL_law_327 : decode cL_law 327 = .ok (.iaload, 1) := by decide +kernel
theorem dL_law_328 : decode cL_law 328 = .ok (.invokevirtual 109, 3) := by decide +kernel
theorem dL_law_331 : decode cL_law 331 = .ok (.istore 6, 2) := by decide +kernel
theorem dL_law_333 : decode cL_law 333 = .ok (.aload_n 2, 1) := by decide +kernel
theorem dL_law_334 : decode cL_law 334 = .ok (.invokevirtual 99, 3) := by decide +kernel
theorem dL_law_337 : decode cL_law 337 = .ok (.iload 5, 2) := by decide +kernel
theorem dL_law_339 : decode cL_law 339 = .ok (.if_icmp .eq 5, 3) := by decide +kernel
theorem dL_law_342 : decode cL_law 342 = .ok (.iconst 0, 1) := by decide +kernel
theorem dL_law_343 : decode cL_law 343 = .ok (.ireturn, 1) := by decide +kernel
theorem dL_law_344 : decode cL_law 344 = .ok (.iload 5, 2) := by decide +kernel
theorem dL_law_346 : decode cL_law 346 = .ok (.ifCond .ne 15, 3) := by decide +kernel
theorem dL_law_349 : decode cL_law 349 = .ok (.aload_n 3, 1) := by decide +kernel
theorem dL_law_350 : decode cL_law 350 = .ok (.iconst 0, 1) := by decide +kernel
theorem dL_law_351 : decode cL_law 351 = .ok (.laload, 1) := by decide +kernel
theorem dL_law_352 : decode cL_law 352 = .ok (.iload 6, 2) := by decide +kernel
theorem dL_law_354 : decode cL_law 354 = .ok (.i2l, 1) := by decide +kernel
theorem dL_law_355 : decode cL_law 355 = .ok (.lcmp, 1) := by decide +kernel
theorem dL_law_356 : decode cL_law 356 = .ok (.ifCond .eq 5, 3) := by decide +kernel
theorem dL_law_359 : decode cL_law 359 = .ok (.iconst 0, 1) := by decide +kernel
theorem dL_law_360 : decode cL_law 360 = .ok (.ireturn, 1) := by decide +kernel
theorem dL_law_361 : decode cL_law 361 = .ok (.goto 1238, 3) := by decide +kernel
theorem dL_law_364 : decode cL_law 364 = .ok (.aload_n 1, 1) := by decide +kernel
theorem dL_law_365 : decode cL_law 365 = .ok (.aload_n 0, 1) := by decide +kernel
theorem dL_law_366 : decode cL_law 366 = .ok (.iload 4, 2) := by decide +kernel
theorem dL_law_368 : decode cL_law 368 = .ok (.iconst 1, 1) := by decide +kernel
theorem dL_law_369 : decode cL_law 369 = .ok (.iadd, 1) := by decide +kernel
theorem dL_law_370 : decode cL_law 370 = .ok (.iaload, 1) := by decide +kernel
theorem dL_law_371 : decode cL_law 371 = .ok (.aload_n 0, 1) := by decide +kernel
theorem dL_law_372 : decode cL_law 372 = .ok (.iload 4, 2) := by decide +kernel
theorem dL_law_374 : decode cL_law 374 = .ok (.iconst 2, 1) := by decide +kernel
theorem dL_law_375 : decode cL_law 375 = .ok (.iadd, 1) := by decide +kernel
theorem dL_law_376 : decode cL_law 376 = .ok (.iaload, 1) := by decide +kernel
theorem dL_law_377 : decode cL_law 377 = .ok (.aload_n 3, 1) := by decide +kernel
theorem dL_law_378 : decode cL_law 378 = .ok (.invokestatic 110, 3) := by decide +kernel
theorem dL_law_381 : decode cL_law 381 = .ok (.istore 5, 2) := by decide +kernel
theorem dL_law_383 : decode cL_law 383 = .ok (.aload_n 2, 1) := by decide +kernel
theorem dL_law_384 : decode cL_law 384 = .ok (.aload_n 0, 1) := by decide +kernel
theorem dL_law_385 : decode cL_law 385 = .ok (.iload 4, 2) := by decide +kernel
theorem dL_law_387 : decode cL_law 387 = .ok (.iconst 1, 1) := by decide +kernel
theorem dL_law_388 : decode cL_law 388 = .ok (.iadd, 1) := by decide +kernel
theorem dL_law_389 : decode cL_law 389 = .ok (.iaload, 1) := by decide +kernel
theorem dL_law_390 : decode cL_law 390 = .ok (.aload_n 0, 1) := by decide +kernel
theorem dL_law_391 : decode cL_law 391 = .ok (.iload 4, 2) := by decide +kernel
theorem dL_law_393 : decode cL_law 393 = .ok (.iconst 2, 1) := by decide +kernel
theorem dL_law_394 : decode cL_law 394 = .ok (.iadd, 1) := by decide +kernel
theorem dL_law_395 : decode cL_law 395 = .ok (.iaload, 1) := by decide +kernel
theorem dL_law_396 : decode cL_law 396 = .ok (.invokevirtual 112, 3) := by decide +kernel
theorem dL_law_399 : decode cL_law 399 = .ok (.istore 6, 2) := by decide +kernel
theorem dL_law_401 : decode cL_law 401 = .ok (.aload_n 2, 1) := by decide +kernel
theorem dL_law_402 : decode cL_law 402 = .ok (.invokevirtual 99, 3) := by decide +kernel
theorem dL_law_405 : decode cL_law 405 = .ok (.iload 5, 2) := by decide +kernel
theorem dL_law_407 : decode cL_law 407 = .ok (.if_icmp .eq 5, 3) := by decide +kernel
theorem dL_law_410 : decode cL_law 410 = .ok (.iconst 0, 1) := by decide +kernel
theorem dL_law_411 : decode cL_law 411 = .ok (.ireturn, 1) := by decide +kernel
theorem dL_law_412 : decode cL_law 412 = .ok (.iload 5, 2) := by decide +kernel
theorem dL_law_414 : decode cL_law 414 = .ok (.ifCond .ne 15, 3) := by decide +kernel
theorem dL_law_417 : decode cL_law 417 = .ok (.aload_n 3, 1) := by decide +kernel
theorem dL_law_418 : decode cL_law 418 = .ok (.iconst 0, 1) := by decide +kernel
theorem dL_law_419 : decode cL_law 419 = .ok (.laload, 1) := by decide +kernel
theorem dL_law_420 : decode cL_law 420 = .ok (.iload 6, 2) := by decide +kernel
theorem dL_law_422 : decode cL_law 422 = .ok (.i2l, 1) := by decide +kernel
theorem dL_law_423 : decode cL_law 423 = .ok (.lcmp, 1) := by decide +kernel
theorem dL_law_424 : decode cL_law 424 = .ok (.ifCond .eq 5, 3) := by decide +kernel
theorem dL_law_427 : decode cL_law 427 = .ok (.iconst 0, 1) := by decide +kernel
theorem dL_law_428 : decode cL_law 428 = .ok (.ireturn, 1) := by decide +kernel
theorem dL_law_429 : decode cL_law 429 = .ok (.goto 1170, 3) := by decide +kernel
theorem dL_law_432 : decode cL_law 432 = .ok (.aload_n 1, 1) := by decide +kernel
theorem dL_law_433 : decode cL_law 433 = .ok (.aload_n 0, 1) := by decide +kernel
theorem dL_law_434 : decode cL_law 434 = .ok (.iload 4, 2) := by decide +kernel
theorem dL_law_436 : decode cL_law 436 = .ok (.iconst 1, 1) := by decide +kernel
theorem dL_law_437 : decode cL_law 437 = .ok (.iadd, 1) := by decide +kernel
theorem dL_law_438 : decode cL_law 438 = .ok (.iaload, 1) := by decide +kernel
theorem dL_law_439 : decode cL_law 439 = .ok (.aload_n 0, 1) := by decide +kernel
theorem dL_law_440 : decode cL_law 440 = .ok (.iload 4, 2) := by decide +kernel
theorem dL_law_442 : decode cL_law 442 = .ok (.iconst 2, 1) := by decide +kernel
theorem dL_law_443 : decode cL_law 443 = .ok (.iadd, 1) := by decide +kernel
theorem dL_law_444 : decode cL_law 444 = .ok (.iaload, 1) := by decide +kernel
theorem dL_law_445 : decode cL_law 445 = .ok (.aload_n 3, 1) := by decide +kernel
theorem dL_law_446 : decode cL_law 446 = .ok (.invokestatic 113, 3) := by decide +kernel
theorem dL_law_449 : decode cL_law 449 = .ok (.istore 5, 2) := by decide +kernel
theorem dL_law_451 : decode cL_law 451 = .ok (.aload_n 2, 1) := by decide +kernel
theorem dL_law_452 : decode cL_law 452 = .ok (.aload_n 0, 1) := by decide +kernel
theorem dL_law_453 : decode cL_law 453 = .ok (.iload 4, 2) := by decide +kernel
theorem dL_law_455 : decode cL_law 455 = .ok (.iconst 1, 1) := by decide +kernel
theorem dL_law_456 : decode cL_law 456 = .ok (.iadd, 1) := by decide +kernel
theorem dL_law_457 : decode cL_law 457 = .ok (.iaload, 1) := by decide +kernel
theorem dL_law_458 : decode cL_law 458 = .ok (.aload_n 0, 1) := by decide +kernel
theorem dL_law_459 : decode cL_law 459 = .ok (.iload 4, 2) := by decide +kernel
theorem dL_law_461 : decode cL_law 461 = .ok (.iconst 2, 1) := by decide +kernel
theorem dL_law_462 : decode cL_law 462 = .ok (.iadd, 1) := by decide +kernel
theorem dL_law_463 : decode cL_law 463 = .ok (.iaload, 1) := by decide +kernel
theorem dL_law_464 : decode cL_law 464 = .ok (.invokevirtual 115, 3) := by decide +kernel
theorem dL_law_467 : decode cL_law 467 = .ok (.istore 6, 2) := by decide +kernel
theorem dL_law_469 : decode cL_law 469 = .ok (.aload_n 2, 1) := by decide +kernel
theorem dL_law_470 : decode cL_law 470 = .ok (.invokevirtual 99, 3) := by decide +kernel
theorem dL_law_473 : decode cL_law 473 = .ok (.iload 5, 2) := by decide +kernel
theorem dL_law_475 : decode cL_law 475 = .ok (.if_icmp .eq 5, 3) := by decide +kernel
theorem dL_law_478 : decode cL_law 478 = .ok (.iconst 0, 1) := by decide +kernel
theorem dL_law_479 : decode cL_law 479 = .ok (.ireturn, 1) := by decide +kernel
theorem dL_law_480 : decode cL_law 480 = .ok (.iload 5, 2) := by decide +kernel
theorem dL_law_482 : decode cL_law 482 = .ok (.ifCond .ne 15, 3) := by decide +kernel
theorem dL_law_485 : decode cL_law 485 = .ok (.aload_n 3, 1) := by decide +kernel
theorem dL_law_486 : decode cL_law 486 = .ok (.iconst 0, 1) := by decide +kernel
theorem dL_law_487 : decode cL_law 487 = .ok (.laload, 1) := by decide +kernel
theorem dL_law_488 : decode cL_law 488 = .ok (.iload 6, 2) := by decide +kernel
theorem dL_law_490 : decode cL_law 490 = .ok (.i2l, 1) := by decide +kernel
theorem dL_law_491 : decode cL_law 491 = .ok (.lcmp, 1) := by decide +kernel
theorem dL_law_492 : decode cL_law 492 = .ok (.ifCond .eq 5, 3) := by decide +kernel
theorem dL_law_495 : decode cL_law 495 = .ok (.iconst 0, 1) := by decide +kernel
theorem dL_law_496 : decode cL_law 496 = .ok (.ireturn, 1) := by decide +kernel
theorem dL_law_497 : decode cL_law 497 = .ok (.goto 1102, 3) := by decide +kernel
theorem dL_law_500 : decode cL_law 500 = .ok (.aload_n 1, 1) := by decide +kernel
theorem dL_law_501 : decode cL_law 501 = .ok (.aload_n 0, 1) := by decide +kernel
theorem dL_law_502 : decode cL_law 502 = .ok (.iload 4, 2) := by decide +kernel
theorem dL_law_504 : decode cL_law 504 = .ok (.iconst 1, 1) := by decide +kernel
theorem dL_law_505 : decode cL_law 505 = .ok (.iadd, 1) := by decide +kernel
theorem dL_law_506 : decode cL_law 506 = .ok (.iaload, 1) := by decide +kernel
theorem dL_law_507 : decode cL_law 507 = .ok (.aload_n 0, 1) := by decide +kernel
theorem dL_law_508 : decode cL_law 508 = .ok (.iload 4, 2) := by decide +kernel
theorem dL_law_510 : decode cL_law 510 = .ok (.iconst 2, 1) := by decide +kernel
theorem dL_law_511 : decode cL_law 511 = .ok (.iadd, 1) := by decide +kernel
theorem dL_law_512 : decode cL_law 512 = .ok (.iaload, 1) := by decide +kernel
theorem dL_law_513 : decode cL_law 513 = .ok (.aload_n 3, 1) := by decide +kernel
theorem dL_law_514 : decode cL_law 514 = .ok (.invokestatic 116, 3) := by decide +kernel
theorem dL_law_517 : decode cL_law 517 = .ok (.istore 5, 2) := by decide +kernel
theorem dL_law_519 : decode cL_law 519 = .ok (.aload_n 2, 1) := by decide +kernel
theorem dL_law_520 : decode cL_law 520 = .ok (.aload_n 0, 1) := by decide +kernel
theorem dL_law_521 : decode cL_law 521 = .ok (.iload 4, 2) := by decide +kernel
theorem dL_law_523 : decode cL_law 523 = .ok (.iconst 1, 1) := by decide +kernel
theorem dL_law_524 : decode cL_law 524 = .ok (.iadd, 1) := by decide +kernel
theorem dL_law_525 : decode cL_law 525 = .ok (.iaload, 1) := by decide +kernel
theorem dL_law_526 : decode cL_law 526 = .ok (.aload_n 0, 1) := by decide +kernel
theorem dL_law_527 : decode cL_law 527 = .ok (.iload 4, 2) := by decide +kernel
theorem dL_law_529 : decode cL_law 529 = .ok (.iconst 2, 1) := by decide +kernel
theorem dL_law_530 : decode cL_law 530 = .ok (.iadd, 1) := by decide +kernel
theorem dL_law_531 : decode cL_law 531 = .ok (.iaload, 1) := by decide +kernel
theorem dL_law_532 : decode cL_law 532 = .ok (.invokevirtual 118, 3) := by decide +kernel
theorem dL_law_535 : decode cL_law 535 = .ok (.istore 6, 2) := by decide +kernel
theorem dL_law_537 : decode cL_law 537 = .ok (.aload_n 2, 1) := by decide +kernel
theorem dL_law_538 : decode cL_law 538 = .ok (.invokevirtual 99, 3) := by decide +kernel
theorem dL_law_541 : decode cL_law 541 = .ok (.iload 5, 2) := by decide +kernel
theorem dL_law_543 : decode cL_law 543 = .ok (.if_icmp .eq 5, 3) := by decide +kernel
theorem dL_law_546 : decode cL_law 546 = .ok (.iconst 0, 1) := by decide +kernel
theorem dL_law_547 : decode cL_law 547 = .ok (.ireturn, 1) := by decide +kernel
theorem dL_law_548 : decode cL_law 548 = .ok (.iload 5, 2) := by decide +kernel
theorem dL_law_550 : decode cL_law 550 = .ok (.ifCond .ne 15, 3) := by decide +kernel
theorem dL_law_553 : decode cL_law 553 = .ok (.aload_n 3, 1) := by decide +kernel
theorem dL_law_554 : decode cL_law 554 = .ok (.iconst 0, 1) := by decide +kernel
theorem dL_law_555 : decode cL_law 555 = .ok (.laload, 1) := by decide +kernel
theorem dL_law_556 : decode cL_law 556 = .ok (.iload 6, 2) := by decide +kernel
theorem dL_law_558 : decode cL_law 558 = .ok (.i2l, 1) := by decide +kernel
theorem dL_law_559 : decode cL_law 559 = .ok (.lcmp, 1) := by decide +kernel
theorem dL_law_560 : decode cL_law 560 = .ok (.ifCond .eq 5, 3) := by decide +kernel
theorem dL_law_563 : decode cL_law 563 = .ok (.iconst 0, 1) := by decide +kernel
theorem dL_law_564 : decode cL_law 564 = .ok (.ireturn, 1) := by decide +kernel
theorem dL_law_565 : decode cL_law 565 = .ok (.goto 1034, 3) := by decide +kernel
theorem dL_law_568 : decode cL_law 568 = .ok (.aload_n 1, 1) := by decide +kernel
theorem dL_law_569 : decode cL_law 569 = .ok (.aload_n 0, 1) := by decide +kernel
theorem dL_law_570 : decode cL_law 570 = .ok (.iload 4, 2) := by decide +kernel
theorem dL_law_572 : decode cL_law 572 = .ok (.iconst 1, 1) := by decide +kernel
theorem dL_law_573 : decode cL_law 573 = .ok (.iadd, 1) := by decide +kernel
theorem dL_law_574 : decode cL_law 574 = .ok (.iaload, 1) := by decide +kernel
theorem dL_law_575 : decode cL_law 575 = .ok (.aload_n 0, 1) := by decide +kernel
theorem dL_law_576 : decode cL_law 576 = .ok (.iload 4, 2) := by decide +kernel
theorem dL_law_578 : decode cL_law 578 = .ok (.iconst 2, 1) := by decide +kernel
theorem dL_law_579 : decode cL_law 579 = .ok (.iadd, 1) := by decide +kernel
theorem dL_law_580 : decode cL_law 580 = .ok (.iaload, 1) := by decide +kernel
theorem dL_law_581 : decode cL_law 581 = .ok (.aload_n 3, 1) := by decide +kernel
theorem dL_law_582 : decode cL_law 582 = .ok (.invokestatic 119, 3) := by decide +kernel
theorem dL_law_585 : decode cL_law 585 = .ok (.istore 5, 2) := by decide +kernel
theorem dL_law_587 : decode cL_law 587 = .ok (.aload_n 2, 1) := by decide +kernel
theorem dL_law_588 : decode cL_law 588 = .ok (.aload_n 0, 1) := by decide +kernel
theorem dL_law_589 : decode cL_law 589 = .ok (.iload 4, 2) := by decide +kernel
theorem dL_law_591 : decode cL_law 591 = .ok (.iconst 1, 1) := by decide +kernel
theorem dL_law_592 : decode cL_law 592 = .ok (.iadd, 1) := by decide +kernel
theorem dL_law_593 : decode cL_law 593 = .ok (.iaload, 1) := by decide +kernel
theorem dL_law_594 : decode cL_law 594 = .ok (.aload_n 0, 1) := by decide +kernel
theorem dL_law_595 : decode cL_law 595 = .ok (.iload 4, 2) := by decide +kernel
theorem dL_law_597 : decode cL_law 597 = .ok (.iconst 2, 1) := by decide +kernel
theorem dL_law_598 : decode cL_law 598 = .ok (.iadd, 1) := by decide +kernel
theorem dL_law_599 : decode cL_law 599 = .ok (.iaload, 1) := by decide +kernel
theorem dL_law_600 : decode cL_law 600 = .ok (.invokevirtual 121, 3) := by decide +kernel
theorem dL_law_603 : decode cL_law 603 = .ok (.istore 6, 2) := by decide +kernel
theorem dL_law_605 : decode cL_law 605 = .ok (.aload_n 2, 1) := by decide +kernel
theorem dL_law_606 : decode cL_law 606 = .ok (.invokevirtual 99, 3) := by decide +kernel
theorem dL_law_609 : decode cL_law 609 = .ok (.iload 5, 2) := by decide +kernel
theorem dL_law_611 : decode cL_law 611 = .ok (.if_icmp .eq 5, 3) := by decide +kernel
theorem dL_law_614 : decode cL_law 614 = .ok (.iconst 0, 1) := by decide +kernel
theorem dL_law_615 : decode cL_law 615 = .ok (.ireturn, 1) := by decide +kernel
theorem dL_law_616 : decode cL_law 616 = .ok (.iload 5, 2) := by decide +kernel
theorem dL_law_618 : decode cL_law 618 = .ok (.ifCond .ne 15, 3) := by decide +kernel
theorem dL_law_621 : decode cL_law 621 = .ok (.aload_n 3, 1) := by decide +kernel
theorem dL_law_622 : decode cL_law 622 = .ok (.iconst 0, 1) := by decide +kernel
theorem dL_law_623 : decode cL_law 623 = .ok (.laload, 1) := by decide +kernel
theorem dL_law_624 : decode cL_law 624 = .ok (.iload 6, 2) := by decide +kernel
theorem dL_law_626 : decode cL_law 626 = .ok (.i2l, 1) := by decide +kernel
theorem dL_law_627 : decode cL_law 627 = .ok (.lcmp, 1) := by decide +kernel
theorem dL_law_628 : decode cL_law 628 = .ok (.ifCond .eq 5, 3) := by decide +kernel
theorem dL_law_631 : decode cL_law 631 = .ok (.iconst 0, 1) := by decide +kernel
theorem dL_law_632 : decode cL_law 632 = .ok (.ireturn, 1) := by decide +kernel
theorem dL_law_633 : decode cL_law 633 = .ok (.goto 966, 3) := by decide +kernel
theorem dL_law_636 : decode cL_law 636 = .ok (.aload_n 1, 1) := by decide +kernel
theorem dL_law_637 : decode cL_law 637 = .ok (.aload_n 0, 1) := by decide +kernel
theorem dL_law_638 : decode cL_law 638 = .ok (.iload 4, 2) := by decide +kernel
theorem dL_law_640 : decode cL_law 640 = .ok (.iconst 1, 1) := by decide +kernel
theorem dL_law_641 : decode cL_law 641 = .ok (.iadd, 1) := by decide +kernel
theorem dL_law_642 : decode cL_law 642 = .ok (.iaload, 1) := by decide +kernel
theorem dL_law_643 : decode cL_law 643 = .ok (.aload_n 0, 1) := by decide +kernel
theorem dL_law_644 : decode cL_law 644 = .ok (.iload 4, 2) := by decide +kernel
theorem dL_law_646 : decode cL_law 646 = .ok (.iconst 2, 1) := by decide +kernel
theorem dL_law_647 : decode cL_law 647 = .ok (.iadd, 1) := by decide +kernel
theorem dL_law_648 : decode cL_law 648 = .ok (.iaload, 1) := by decide +kernel
theorem dL_law_649 : decode cL_law 649 = .ok (.aload_n 0, 1) := by decide +kernel
theorem dL_law_650 : decode cL_law 650 = .ok (.iload 4, 2) := by decide +kernel
theorem dL_law_652 : decode cL_law 652 = .ok (.iconst 3, 1) := by decide +kernel
theorem dL_law_653 : decode cL_law 653 = .ok (.iadd, 1) := by decide +kernel
theorem dL_law_654 : decode cL_law 654 = .ok (.iaload, 1) := by decide +kernel
theorem dL_law_655 : decode cL_law 655 = .ok (.invokestatic 122, 3) := by decide +kernel
theorem dL_law_658 : decode cL_law 658 = .ok (.istore 5, 2) := by decide +kernel
theorem dL_law_660 : decode cL_law 660 = .ok (.aload_n 2, 1) := by decide +kernel
theorem dL_law_661 : decode cL_law 661 = .ok (.aload_n 0, 1) := by decide +kernel
theorem dL_law_662 : decode cL_law 662 = .ok (.iload 4, 2) := by decide +kernel
theorem dL_law_664 : decode cL_law 664 = .ok (.iconst 1, 1) := by decide +kernel
theorem dL_law_665 : decode cL_law 665 = .ok (.iadd, 1) := by decide +kernel
theorem dL_law_666 : decode cL_law 666 = .ok (.iaload, 1) := by decide +kernel
theorem dL_law_667 : decode cL_law 667 = .ok (.aload_n 0, 1) := by decide +kernel
theorem dL_law_668 : decode cL_law 668 = .ok (.iload 4, 2) := by decide +kernel
theorem dL_law_670 : decode cL_law 670 = .ok (.iconst 2, 1) := by decide +kernel
theorem dL_law_671 : decode cL_law 671 = .ok (.iadd, 1) := by decide +kernel
theorem dL_law_672 : decode cL_law 672 = .ok (.iaload, 1) := by decide +kernel
theorem dL_law_673 : decode cL_law 673 = .ok (.aload_n 0, 1) := by decide +kernel
theorem dL_law_674 : decode cL_law 674 = .ok (.iload 4, 2) := by decide +kernel
theorem dL_law_676 : decode cL_law 676 = .ok (.iconst 3, 1) := by decide +kernel
theorem dL_law_677 : decode cL_law 677 = .ok (.iadd, 1) := by decide +kernel
theorem dL_law_678 : decode cL_law 678 = .ok (.iaload, 1) := by decide +kernel
theorem dL_law_679 : decode cL_law 679 = .ok (.invokevirtual 125, 3) := by decide +kernel
theorem dL_law_682 : decode cL_law 682 = .ok (.aload_n 2, 1) := by decide +kernel
theorem dL_law_683 : decode cL_law 683 = .ok (.invokevirtual 99, 3) := by decide +kernel
theorem dL_law_686 : decode cL_law 686 = .ok (.iload 5, 2) := by decide +kernel
theorem dL_law_688 : decode cL_law 688 = .ok (.if_icmp .eq 5, 3) := by decide +kernel
theorem dL_law_691 : decode cL_law 691 = .ok (.iconst 0, 1) := by decide +kernel
theorem dL_law_692 : decode cL_law 692 = .ok (.ireturn, 1) := by decide +kernel
theorem dL_law_693 : decode cL_law 693 = .ok (.goto 906, 3) := by decide +kernel
theorem dL_law_696 : decode cL_law 696 = .ok (.aload_n 1, 1) := by decide +kernel
theorem dL_law_697 : decode cL_law 697 = .ok (.aload_n 0, 1) := by decide +kernel
theorem dL_law_698 : decode cL_law 698 = .ok (.iload 4, 2) := by decide +kernel
theorem dL_law_700 : decode cL_law 700 = .ok (.iconst 1, 1) := by decide +kernel
theorem dL_law_701 : decode cL_law 701 = .ok (.iadd, 1) := by decide +kernel
theorem dL_law_702 : decode cL_law 702 = .ok (.iaload, 1) := by decide +kernel
theorem dL_law_703 : decode cL_law 703 = .ok (.aload_n 0, 1) := by decide +kernel
theorem dL_law_704 : decode cL_law 704 = .ok (.iload 4, 2) := by decide +kernel
theorem dL_law_706 : decode cL_law 706 = .ok (.iconst 2, 1) := by decide +kernel
theorem dL_law_707 : decode cL_law 707 = .ok (.iadd, 1) := by decide +kernel
theorem dL_law_708 : decode cL_law 708 = .ok (.iaload, 1) := by decide +kernel
theorem dL_law_709 : decode cL_law 709 = .ok (.ifCond .eq 7, 3) := by decide +kernel
theorem dL_law_712 : decode cL_law 712 = .ok (.iconst 1, 1) := by decide +kernel
theorem dL_law_713 : decode cL_law 713 = .ok (.goto 4, 3) := by decide +kernel
theorem dL_law_716 : decode cL_law 716 = .ok (.iconst 0, 1) := by decide +kernel
theorem dL_law_717 : decode cL_law 717 = .ok (.aload_n 3, 1) := by decide +kernel
theorem dL_law_718 : decode cL_law 718 = .ok (.invokestatic 126, 3) := by decide +kernel
theorem dL_law_721 : decode cL_law 721 = .ok (.istore 5, 2) := by decide +kernel
theorem dL_law_723 : decode cL_law 723 = .ok (.aload_n 2, 1) := by decide +kernel
theorem dL_law_724 : decode cL_law 724 = .ok (.aload_n 0, 1) := by decide +kernel
theorem dL_law_725 : decode cL_law 725 = .ok (.iload 4, 2) := by decide +kernel
theorem dL_law_727 : decode cL_law 727 = .ok (.iconst 1, 1) := by decide +kernel
theorem dL_law_728 : decode cL_law 728 = .ok (.iadd, 1) := by decide +kernel
theorem dL_law_729 : decode cL_law 729 = .ok (.iaload, 1) := by decide +kernel
theorem dL_law_730 : decode cL_law 730 = .ok (.aload_n 0, 1) := by decide +kernel
theorem dL_law_731 : decode cL_law 731 = .ok (.iload 4, 2) := by decide +kernel
theorem dL_law_733 : decode cL_law 733 = .ok (.iconst 2, 1) := by decide +kernel
theorem dL_law_734 : decode cL_law 734 = .ok (.iadd, 1) := by decide +kernel
theorem dL_law_735 : decode cL_law 735 = .ok (.iaload, 1) := by decide +kernel
theorem dL_law_736 : decode cL_law 736 = .ok (.ifCond .eq 7, 3) := by decide +kernel
theorem dL_law_739 : decode cL_law 739 = .ok (.iconst 1, 1) := by decide +kernel
theorem dL_law_740 : decode cL_law 740 = .ok (.goto 4, 3) := by decide +kernel
theorem dL_law_743 : decode cL_law 743 = .ok (.iconst 0, 1) := by decide +kernel
theorem dL_law_744 : decode cL_law 744 = .ok (.invokevirtual 129, 3) := by decide +kernel
theorem dL_law_747 : decode cL_law 747 = .ok (.istore 6, 2) := by decide +kernel
theorem dL_law_749 : decode cL_law 749 = .ok (.aload_n 2, 1) := by decide +kernel
theorem dL_law_750 : decode cL_law 750 = .ok (.invokevirtual 99, 3) := by decide +kernel
theorem dL_law_753 : decode cL_law 753 = .ok (.iload 5, 2) := by decide +kernel
theorem dL_law_755 : decode cL_law 755 = .ok (.if_icmp .eq 5, 3) := by decide +kernel
theorem dL_law_758 : decode cL_law 758 = .ok (.iconst 0, 1) := by decide +kernel
theorem dL_law_759 : decode cL_law 759 = .ok (.ireturn, 1) := by decide +kernel
theorem dL_law_760 : decode cL_law 760 = .ok (.iload 5, 2) := by decide +kernel
theorem dL_law_762 : decode cL_law 762 = .ok (.ifCond .ne 15, 3) := by decide +kernel
theorem dL_law_765 : decode cL_law 765 = .ok (.aload_n 3, 1) := by decide +kernel
theorem dL_law_766 : decode cL_law 766 = .ok (.iconst 0, 1) := by decide +kernel
theorem dL_law_767 : decode cL_law 767 = .ok (.laload, 1) := by decide +kernel
theorem dL_law_768 : decode cL_law 768 = .ok (.iload 6, 2) := by decide +kernel
theorem dL_law_770 : decode cL_law 770 = .ok (.i2l, 1) := by decide +kernel
theorem dL_law_771 : decode cL_law 771 = .ok (.lcmp, 1) := by decide +kernel
theorem dL_law_772 : decode cL_law 772 = .ok (.ifCond .eq 5, 3) := by decide +kernel
theorem dL_law_775 : decode cL_law 775 = .ok (.iconst 0, 1) := by decide +kernel
theorem dL_law_776 : decode cL_law 776 = .ok (.ireturn, 1) := by decide +kernel
theorem dL_law_777 : decode cL_law 777 = .ok (.goto 822, 3) := by decide +kernel
theorem dL_law_780 : decode cL_law 780 = .ok (.aload_n 1, 1) := by decide +kernel
theorem dL_law_781 : decode cL_law 781 = .ok (.invokevirtual 130, 3) := by decide +kernel
theorem dL_law_784 : decode cL_law 784 = .ok (.aload_n 2, 1) := by decide +kernel
theorem dL_law_785 : decode cL_law 785 = .ok (.invokevirtual 133, 3) := by decide +kernel
theorem dL_law_788 : decode cL_law 788 = .ok (.if_icmp .eq 811, 3) := by decide +kernel
theorem dL_law_791 : decode cL_law 791 = .ok (.iconst 0, 1) := by decide +kernel
theorem dL_law_792 : decode cL_law 792 = .ok (.ireturn, 1) := by decide +kernel
theorem dL_law_793 : decode cL_law 793 = .ok (.aload_n 1, 1) := by decide +kernel
theorem dL_law_794 : decode cL_law 794 = .ok (.aload_n 0, 1) := by decide +kernel
theorem dL_law_795 : decode cL_law 795 = .ok (.iload 4, 2) := by decide +kernel
theorem dL_law_797 : decode cL_law 797 = .ok (.iconst 1, 1) := by decide +kernel
theorem dL_law_798 : decode cL_law 798 = .ok (.iadd, 1) := by decide +kernel
theorem dL_law_799 : decode cL_law 799 = .ok (.iaload, 1) := by decide +kernel
theorem dL_law_800 : decode cL_law 800 = .ok (.aload_n 3, 1) := by decide +kernel
theorem dL_law_801 : decode cL_law 801 = .ok (.invokestatic 134, 3) := by decide +kernel
theorem dL_law_804 : decode cL_law 804 = .ok (.istore 5, 2) := by decide +kernel
theorem dL_law_806 : decode cL_law 806 = .ok (.aload_n 2, 1) := by decide +kernel
theorem dL_law_807 : decode cL_law 807 = .ok (.aload_n 0, 1) := by decide +kernel
theorem dL_law_808 : decode cL_law 808 = .ok (.iload 4, 2) := by decide +kernel
theorem dL_law_810 : decode cL_law 810 = .ok (.iconst 1, 1) := by decide +kernel
theorem dL_law_811 : decode cL_law 811 = .ok (.iadd, 1) := by decide +kernel
theorem dL_law_812 : decode cL_law 812 = .ok (.iaload, 1) := by decide +kernel
theorem dL_law_813 : decode cL_law 813 = .ok (.invokevirtual 137, 3) := by decide +kernel
theorem dL_law_816 : decode cL_law 816 = .ok (.istore 6, 2) := by decide +kernel
theorem dL_law_818 : decode cL_law 818 = .ok (.aload_n 2, 1) := by decide +kernel
theorem dL_law_819 : decode cL_law 819 = .ok (.invokevirtual 99, 3) := by decide +kernel
theorem dL_law_822 : decode cL_law 822 = .ok (.iload 5, 2) := by decide +kernel
theorem dL_law_824 : decode cL_law 824 = .ok (.if_icmp .eq 5, 3) := by decide +kernel
theorem dL_law_827 : decode cL_law 827 = .ok (.iconst 0, 1) := by decide +kernel
theorem dL_law_828 : decode cL_law 828 = .ok (.ireturn, 1) := by decide +kernel
theorem dL_law_829 : decode cL_law 829 = .ok (.iload 5, 2) := by decide +kernel
theorem dL_law_831 : decode cL_law 831 = .ok (.ifCond .ne 15, 3) := by decide +kernel
theorem dL_law_834 : decode cL_law 834 = .ok (.aload_n 3, 1) := by decide +kernel
theorem dL_law_835 : decode cL_law 835 = .ok (.iconst 0, 1) := by decide +kernel
theorem dL_law_836 : decode cL_law 836 = .ok (.laload, 1) := by decide +kernel
theorem dL_law_837 : decode cL_law 837 = .ok (.iload 6, 2) := by decide +kernel
theorem dL_law_839 : decode cL_law 839 = .ok (.i2l, 1) := by decide +kernel
theorem dL_law_840 : decode cL_law 840 = .ok (.lcmp, 1) := by decide +kernel
theorem dL_law_841 : decode cL_law 841 = .ok (.ifCond .eq 5, 3) := by decide +kernel
theorem dL_law_844 : decode cL_law 844 = .ok (.iconst 0, 1) := by decide +kernel
theorem dL_law_845 : decode cL_law 845 = .ok (.ireturn, 1) := by decide +kernel
theorem dL_law_846 : decode cL_law 846 = .ok (.goto 753, 3) := by decide +kernel
theorem dL_law_849 : decode cL_law 849 = .ok (.aload_n 1, 1) := by decide +kernel
theorem dL_law_850 : decode cL_law 850 = .ok (.aload_n 0, 1) := by decide +kernel
theorem dL_law_851 : decode cL_law 851 = .ok (.iload 4, 2) := by decide +kernel
theorem dL_law_853 : decode cL_law 853 = .ok (.iconst 1, 1) := by decide +kernel
theorem dL_law_854 : decode cL_law 854 = .ok (.iadd, 1) := by decide +kernel
theorem dL_law_855 : decode cL_law 855 = .ok (.iaload, 1) := by decide +kernel
theorem dL_law_856 : decode cL_law 856 = .ok (.aload_n 3, 1) := by decide +kernel
theorem dL_law_857 : decode cL_law 857 = .ok (.invokestatic 138, 3) := by decide +kernel
theorem dL_law_860 : decode cL_law 860 = .ok (.istore 5, 2) := by decide +kernel
theorem dL_law_862 : decode cL_law 862 = .ok (.aload_n 2, 1) := by decide +kernel
theorem dL_law_863 : decode cL_law 863 = .ok (.aload_n 0, 1) := by decide +kernel
theorem dL_law_864 : decode cL_law 864 = .ok (.iload 4, 2) := by decide +kernel
theorem dL_law_866 : decode cL_law 866 = .ok (.iconst 1, 1) := by decide +kernel
theorem dL_law_867 : decode cL_law 867 = .ok (.iadd, 1) := by decide +kernel
theorem dL_law_868 : decode cL_law 868 = .ok (.iaload, 1) := by decide +kernel
theorem dL_law_869 : decode cL_law 869 = .ok (.invokevirtual 140, 3) := by decide +kernel
theorem dL_law_872 : decode cL_law 872 = .ok (.istore 6, 2) := by decide +kernel
theorem dL_law_874 : decode cL_law 874 = .ok (.aload_n 2, 1) := by decide +kernel
theorem dL_law_875 : decode cL_law 875 = .ok (.invokevirtual 99, 3) := by decide +kernel
theorem dL_law_878 : decode cL_law 878 = .ok (.iload 5, 2) := by decide +kernel
theorem dL_law_880 : decode cL_law 880 = .ok (.if_icmp .eq 5, 3) := by decide +kernel
theorem dL_law_883 : decode cL_law 883 = .ok (.iconst 0, 1) := by decide +kernel
theorem dL_law_884 : decode cL_law 884 = .ok (.ireturn, 1) := by decide +kernel
theorem dL_law_885 : decode cL_law 885 = .ok (.iload 5, 2) := by decide +kernel
theorem dL_law_887 : decode cL_law 887 = .ok (.ifCond .ne 15, 3) := by decide +kernel
theorem dL_law_890 : decode cL_law 890 = .ok (.aload_n 3, 1) := by decide +kernel
theorem dL_law_891 : decode cL_law 891 = .ok (.iconst 0, 1) := by decide +kernel
theorem dL_law_892 : decode cL_law 892 = .ok (.laload, 1) := by decide +kernel
theorem dL_law_893 : decode cL_law 893 = .ok (.iload 6, 2) := by decide +kernel
theorem dL_law_895 : decode cL_law 895 = .ok (.i2l, 1) := by decide +kernel
theorem dL_law_896 : decode cL_law 896 = .ok (.lcmp, 1) := by decide +kernel
theorem dL_law_897 : decode cL_law 897 = .ok (.ifCond .eq 5, 3) := by decide +kernel
theorem dL_law_900 : decode cL_law 900 = .ok (.iconst 0, 1) := by decide +kernel
theorem dL_law_901 : decode cL_law 901 = .ok (.ireturn, 1) := by decide +kernel
theorem dL_law_902 : decode cL_law 902 = .ok (.goto 697, 3) := by decide +kernel
theorem dL_law_905 : decode cL_law 905 = .ok (.aload_n 1, 1) := by decide +kernel
theorem dL_law_906 : decode cL_law 906 = .ok (.aload_n 0, 1) := by decide +kernel
theorem dL_law_907 : decode cL_law 907 = .ok (.iload 4, 2) := by decide +kernel
theorem dL_law_909 : decode cL_law 909 = .ok (.iconst 1, 1) := by decide +kernel
theorem dL_law_910 : decode cL_law 910 = .ok (.iadd, 1) := by decide +kernel
theorem dL_law_911 : decode cL_law 911 = .ok (.iaload, 1) := by decide +kernel
theorem dL_law_912 : decode cL_law 912 = .ok (.aload_n 3, 1) := by decide +kernel
theorem dL_law_913 : decode cL_law 913 = .ok (.invokestatic 141, 3) := by decide +kernel
theorem dL_law_916 : decode cL_law 916 = .ok (.istore 5, 2) := by decide +kernel
theorem dL_law_918 : decode cL_law 918 = .ok (.aload_n 2, 1) := by decide +kernel
theorem dL_law_919 : decode cL_law 919 = .ok (.aload_n 0, 1) := by decide +kernel
theorem dL_law_920 : decode cL_law 920 = .ok (.iload 4, 2) := by decide +kernel
theorem dL_law_922 : decode cL_law 922 = .ok (.iconst 1, 1) := by decide +kernel
theorem dL_law_923 : decode cL_law 923 = .ok (.iadd, 1) := by decide +kernel
theorem dL_law_924 : decode cL_law 924 = .ok (.iaload, 1) := by decide +kernel
theorem dL_law_925 : decode cL_law 925 = .ok (.invokevirtual 143, 3) := by decide +kernel
theorem dL_law_928 : decode cL_law 928 = .ok (.istore 6, 2) := by decide +kernel
theorem dL_law_930 : decode cL_law 930 = .ok (.aload_n 2, 1) := by decide +kernel
theorem dL_law_931 : decode cL_law 931 = .ok (.invokevirtual 99, 3) := by decide +kernel
theorem dL_law_934 : decode cL_law 934 = .ok (.iload 5, 2) := by decide +kernel
theorem dL_law_936 : decode cL_law 936 = .ok (.if_icmp .eq 5, 3) := by decide +kernel
theorem dL_law_939 : decode cL_law 939 = .ok (.iconst 0, 1) := by decide +kernel
theorem dL_law_940 : decode cL_law 940 = .ok (.ireturn, 1) := by decide +kernel
theorem dL_law_941 : decode cL_law 941 = .ok (.iload 5, 2) := by decide +kernel
theorem dL_law_943 : decode cL_law 943 = .ok (.ifCond .ne 15, 3) := by decide +kernel
theorem dL_law_946 : decode cL_law 946 = .ok (.aload_n 3, 1) := by decide +kernel
theorem dL_law_947 : decode cL_law 947 = .ok (.iconst 0, 1) := by decide +kernel
theorem dL_law_948 : decode cL_law 948 = .ok (.laload, 1) := by decide +kernel
theorem dL_law_949 : decode cL_law 949 = .ok (.iload 6, 2) := by decide +kernel
theorem dL_law_951 : decode cL_law 951 = .ok (.i2l, 1) := by decide +kernel
theorem dL_law_952 : decode cL_law 952 = .ok (.lcmp, 1) := by decide +kernel
theorem dL_law_953 : decode cL_law 953 = .ok (.ifCond .eq 5, 3) := by decide +kernel
theorem dL_law_956 : decode cL_law 956 = .ok (.iconst 0, 1) := by decide +kernel
theorem dL_law_957 : decode cL_law 957 = .ok (.ireturn, 1) := by decide +kernel
theorem dL_law_958 : decode cL_law 958 = .ok (.goto 641, 3) := by decide +kernel
theorem dL_law_961 : decode cL_law 961 = .ok (.aload_n 1, 1) := by decide +kernel
theorem dL_law_962 : decode cL_law 962 = .ok (.aload_n 0, 1) := by decide +kernel
theorem dL_law_963 : decode cL_law 963 = .ok (.iload 4, 2) := by decide +kernel
theorem dL_law_965 : decode cL_law 965 = .ok (.iconst 1, 1) := by decide +kernel
theorem dL_law_966 : decode cL_law 966 = .ok (.iadd, 1) := by decide +kernel
theorem dL_law_967 : decode cL_law 967 = .ok (.iaload, 1) := by decide +kernel
theorem dL_law_968 : decode cL_law 968 = .ok (.aload_n 3, 1) := by decide +kernel
theorem dL_law_969 : decode cL_law 969 = .ok (.invokestatic 144, 3) := by decide +kernel
theorem dL_law_972 : decode cL_law 972 = .ok (.istore 5, 2) := by decide +kernel
theorem dL_law_974 : decode cL_law 974 = .ok (.aload_n 2, 1) := by decide +kernel
theorem dL_law_975 : decode cL_law 975 = .ok (.aload_n 0, 1) := by decide +kernel
theorem dL_law_976 : decode cL_law 976 = .ok (.iload 4, 2) := by decide +kernel
theorem dL_law_978 : decode cL_law 978 = .ok (.iconst 1, 1) := by decide +kernel
theorem dL_law_979 : decode cL_law 979 = .ok (.iadd, 1) := by decide +kernel
theorem dL_law_980 : decode cL_law 980 = .ok (.iaload, 1) := by decide +kernel
theorem dL_law_981 : decode cL_law 981 = .ok (.invokevirtual 146, 3) := by decide +kernel
theorem dL_law_984 : decode cL_law 984 = .ok (.istore 6, 2) := by decide +kernel
theorem dL_law_986 : decode cL_law 986 = .ok (.aload_n 2, 1) := by decide +kernel
theorem dL_law_987 : decode cL_law 987 = .ok (.invokevirtual 99, 3) := by decide +kernel
theorem dL_law_990 : decode cL_law 990 = .ok (.iload 5, 2) := by decide +kernel
theorem dL_law_992 : decode cL_law 992 = .ok (.if_icmp .eq 5, 3) := by decide +kernel
theorem dL_law_995 : decode cL_law 995 = .ok (.iconst 0, 1) := by decide +kernel
theorem dL_law_996 : decode cL_law 996 = .ok (.ireturn, 1) := by decide +kernel
theorem dL_law_997 : decode cL_law 997 = .ok (.iload 5, 2) := by decide +kernel
theorem dL_law_999 : decode cL_law 999 = .ok (.ifCond .ne 15, 3) := by decide +kernel
theorem dL_law_1002 : decode cL_law 1002 = .ok (.aload_n 3, 1) := by decide +kernel
theorem dL_law_1003 : decode cL_law 1003 = .ok (.iconst 0, 1) := by decide +kernel
theorem dL_law_1004 : decode cL_law 1004 = .ok (.laload, 1) := by decide +kernel
theorem dL_law_1005 : decode cL_law 1005 = .ok (.iload 6, 2) := by decide +kernel
theorem dL_law_1007 : decode cL_law 1007 = .ok (.i2l, 1) := by decide +kernel
theorem dL_law_1008 : decode cL_law 1008 = .ok (.lcmp, 1) := by decide +kernel
theorem dL_law_1009 : decode cL_law 1009 = .ok (.ifCond .eq 5, 3) := by decide +kernel
theorem dL_law_1012 : decode cL_law 1012 = .ok (.iconst 0, 1) := by decide +kernel
theorem dL_law_1013 : decode cL_law 1013 = .ok (.ireturn, 1) := by decide +kernel
theorem dL_law_1014 : decode cL_law 1014 = .ok (.goto 585, 3) := by decide +kernel
theorem dL_law_1017 : decode cL_law 1017 = .ok (.aload_n 1, 1) := by decide +kernel
theorem dL_law_1018 : decode cL_law 1018 = .ok (.aload_n 0, 1) := by decide +kernel
theorem dL_law_1019 : decode cL_law 1019 = .ok (.iload 4, 2) := by decide +kernel
theorem dL_law_1021 : decode cL_law 1021 = .ok (.iconst 1, 1) := by decide +kernel
theorem dL_law_1022 : decode cL_law 1022 = .ok (.iadd, 1) := by decide +kernel
theorem dL_law_1023 : decode cL_law 1023 = .ok (.iaload, 1) := by decide +kernel
theorem dL_law_1024 : decode cL_law 1024 = .ok (.aload_n 3, 1) := by decide +kernel
theorem dL_law_1025 : decode cL_law 1025 = .ok (.invokestatic 147, 3) := by decide +kernel
theorem dL_law_1028 : decode cL_law 1028 = .ok (.istore 5, 2) := by decide +kernel
theorem dL_law_1030 : decode cL_law 1030 = .ok (.aload_n 2, 1) := by decide +kernel
theorem dL_law_1031 : decode cL_law 1031 = .ok (.aload_n 0, 1) := by decide +kernel
theorem dL_law_1032 : decode cL_law 1032 = .ok (.iload 4, 2) := by decide +kernel
theorem dL_law_1034 : decode cL_law 1034 = .ok (.iconst 1, 1) := by decide +kernel
theorem dL_law_1035 : decode cL_law 1035 = .ok (.iadd, 1) := by decide +kernel
theorem dL_law_1036 : decode cL_law 1036 = .ok (.iaload, 1) := by decide +kernel
theorem dL_law_1037 : decode cL_law 1037 = .ok (.invokevirtual 149, 3) := by decide +kernel
theorem dL_law_1040 : decode cL_law 1040 = .ok (.istore 6, 2) := by decide +kernel
theorem dL_law_1042 : decode cL_law 1042 = .ok (.aload_n 2, 1) := by decide +kernel
theorem dL_law_1043 : decode cL_law 1043 = .ok (.invokevirtual 99, 3) := by decide +kernel
theorem dL_law_1046 : decode cL_law 1046 = .ok (.iload 5, 2) := by decide +kernel
theorem dL_law_1048 : decode cL_law 1048 = .ok (.if_icmp .eq 5, 3) := by decide +kernel
theorem dL_law_1051 : decode cL_law 1051 = .ok (.iconst 0, 1) := by decide +kernel
theorem dL_law_1052 : decode cL_law 1052 = .ok (.ireturn, 1) := by decide +kernel
theorem dL_law_1053 : decode cL_law 1053 = .ok (.iload 5, 2) := by decide +kernel
theorem dL_law_1055 : decode cL_law 1055 = .ok (.ifCond .ne 15, 3) := by decide +kernel
theorem dL_law_1058 : decode cL_law 1058 = .ok (.aload_n 3, 1) := by decide +kernel
theorem dL_law_1059 : decode cL_law 1059 = .ok (.iconst 0, 1) := by decide +kernel
theorem dL_law_1060 : decode cL_law 1060 = .ok (.laload, 1) := by decide +kernel
theorem dL_law_1061 : decode cL_law 1061 = .ok (.iload 6, 2) := by decide +kernel
theorem dL_law_1063 : decode cL_law 1063 = .ok (.i2l, 1) := by decide +kernel
theorem dL_law_1064 : decode cL_law 1064 = .ok (.lcmp, 1) := by decide +kernel
theorem dL_law_1065 : decode cL_law 1065 = .ok (.ifCond .eq 5, 3) := by decide +kernel
theorem dL_law_1068 : decode cL_law 1068 = .ok (.iconst 0, 1) := by decide +kernel
theorem dL_law_1069 : decode cL_law 1069 = .ok (.ireturn, 1) := by decide +kernel
theorem dL_law_1070 : decode cL_law 1070 = .ok (.goto 529, 3) := by decide +kernel
theorem dL_law_1073 : decode cL_law 1073 = .ok (.aload_n 1, 1) := by decide +kernel
theorem dL_law_1074 : decode cL_law 1074 = .ok (.aload_n 0, 1) := by decide +kernel
theorem dL_law_1075 : decode cL_law 1075 = .ok (.iload 4, 2) := by decide +kernel
theorem dL_law_1077 : decode cL_law 1077 = .ok (.iconst 1, 1) := by decide +kernel
theorem dL_law_1078 : decode cL_law 1078 = .ok (.iadd, 1) := by decide +kernel
theorem dL_law_1079 : decode cL_law 1079 = .ok (.iaload, 1) := by decide +kernel
theorem dL_law_1080 : decode cL_law 1080 = .ok (.aload_n 0, 1) := by decide +kernel
theorem dL_law_1081 : decode cL_law 1081 = .ok (.iload 4, 2) := by decide +kernel
theorem dL_law_1083 : decode cL_law 1083 = .ok (.iconst 2, 1) := by decide +kernel
theorem dL_law_1084 : decode cL_law 1084 = .ok (.iadd, 1) := by decide +kernel
theorem dL_law_1085 : decode cL_law 1085 = .ok (.iaload, 1) := by decide +kernel
theorem dL_law_1086 : decode cL_law 1086 = .ok (.aload_n 0, 1) := by decide +kernel
theorem dL_law_1087 : decode cL_law 1087 = .ok (.iload 4, 2) := by decide +kernel
theorem dL_law_1089 : decode cL_law 1089 = .ok (.iconst 3, 1) := by decide +kernel
theorem dL_law_1090 : decode cL_law 1090 = .ok (.iadd, 1) := by decide +kernel
theorem dL_law_1091 : decode cL_law 1091 = .ok (.iaload, 1) := by decide +kernel
theorem dL_law_1092 : decode cL_law 1092 = .ok (.aload_n 0, 1) := by decide +kernel
theorem dL_law_1093 : decode cL_law 1093 = .ok (.iload 4, 2) := by decide +kernel
theorem dL_law_1095 : decode cL_law 1095 = .ok (.iconst 4, 1) := by decide +kernel
theorem dL_law_1096 : decode cL_law 1096 = .ok (.iadd, 1) := by decide +kernel
theorem dL_law_1097 : decode cL_law 1097 = .ok (.iaload, 1) := by decide +kernel
theorem dL_law_1098 : decode cL_law 1098 = .ok (.aload_n 3, 1) := by decide +kernel
theorem dL_law_1099 : decode cL_law 1099 = .ok (.invokestatic 150, 3) := by decide +kernel
theorem dL_law_1102 : decode cL_law 1102 = .ok (.istore 5, 2) := by decide +kernel
theorem dL_law_1104 : decode cL_law 1104 = .ok (.aload_n 2, 1) := by decide +kernel
theorem dL_law_1105 : decode cL_law 1105 = .ok (.aload_n 0, 1) := by decide +kernel
theorem dL_law_1106 : decode cL_law 1106 = .ok (.iload 4, 2) := by decide +kernel
theorem dL_law_1108 : decode cL_law 1108 = .ok (.iconst 1, 1) := by decide +kernel
theorem dL_law_1109 : decode cL_law 1109 = .ok (.iadd, 1) := by decide +kernel
theorem dL_law_1110 : decode cL_law 1110 = .ok (.iaload, 1) := by decide +kernel
theorem dL_law_1111 : decode cL_law 1111 = .ok (.aload_n 0, 1) := by decide +kernel
theorem dL_law_1112 : decode cL_law 1112 = .ok (.iload 4, 2) := by decide +kernel
theorem dL_law_1114 : decode cL_law 1114 = .ok (.iconst 2, 1) := by decide +kernel
theorem dL_law_1115 : decode cL_law 1115 = .ok (.iadd, 1) := by decide +kernel
theorem dL_law_1116 : decode cL_law 1116 = .ok (.iaload, 1) := by decide +kernel
theorem dL_law_1117 : decode cL_law 1117 = .ok (.aload_n 0, 1) := by decide +kernel
theorem dL_law_1118 : decode cL_law 1118 = .ok (.iload 4, 2) := by decide +kernel
theorem dL_law_1120 : decode cL_law 1120 = .ok (.iconst 3, 1) := by decide +kernel
theorem dL_law_1121 : decode cL_law 1121 = .ok (.iadd, 1) := by decide +kernel
theorem dL_law_1122 : decode cL_law 1122 = .ok (.iaload, 1) := by decide +kernel
theorem dL_law_1123 : decode cL_law 1123 = .ok (.aload_n 0, 1) := by decide +kernel
theorem dL_law_1124 : decode cL_law 1124 = .ok (.iload 4, 2) := by decide +kernel
theorem dL_law_1126 : decode cL_law 1126 = .ok (.iconst 4, 1) := by decide +kernel
theorem dL_law_1127 : decode cL_law 1127 = .ok (.iadd, 1) := by decide +kernel
theorem dL_law_1128 : decode cL_law 1128 = .ok (.iaload, 1) := by decide +kernel
theorem dL_law_1129 : decode cL_law 1129 = .ok (.invokevirtual 153, 3) := by decide +kernel
theorem dL_law_1132 : decode cL_law 1132 = .ok (.istore 6, 2) := by decide +kernel
theorem dL_law_1134 : decode cL_law 1134 = .ok (.aload_n 2, 1) := by decide +kernel
theorem dL_law_1135 : decode cL_law 1135 = .ok (.invokevirtual 99, 3) := by decide +kernel
theorem dL_law_1138 : decode cL_law 1138 = .ok (.iload 5, 2) := by decide +kernel
theorem dL_law_1140 : decode cL_law 1140 = .ok (.if_icmp .eq 5, 3) := by decide +kernel
theorem dL_law_1143 : decode cL_law 1143 = .ok (.iconst 0, 1) := by decide +kernel
theorem dL_law_1144 : decode cL_law 1144 = .ok (.ireturn, 1) := by decide +kernel
theorem dL_law_1145 : decode cL_law 1145 = .ok (.iload 5, 2) := by decide +kernel
theorem dL_law_1147 : decode cL_law 1147 = .ok (.ifCond .ne 15, 3) := by decide +kernel
theorem dL_law_1150 : decode cL_law 1150 = .ok (.aload_n 3, 1) := by decide +kernel
theorem dL_law_1151 : decode cL_law 1151 = .ok (.iconst 0, 1) := by decide +kernel
theorem dL_law_1152 : decode cL_law 1152 = .ok (.laload, 1) := by decide +kernel
theorem dL_law_1153 : decode cL_law 1153 = .ok (.iload 6, 2) := by decide +kernel
theorem dL_law_1155 : decode cL_law 1155 = .ok (.i2l, 1) := by decide +kernel
theorem dL_law_1156 : decode cL_law 1156 = .ok (.lcmp, 1) := by decide +kernel
theorem dL_law_1157 : decode cL_law 1157 = .ok (.ifCond .eq 5, 3) := by decide +kernel
theorem dL_law_1160 : decode cL_law 1160 = .ok (.iconst 0, 1) := by decide +kernel
theorem dL_law_1161 : decode cL_law 1161 = .ok (.ireturn, 1) := by decide +kernel
theorem dL_law_1162 : decode cL_law 1162 = .ok (.goto 437, 3) := by decide +kernel
theorem dL_law_1165 : decode cL_law 1165 = .ok (.aload_n 1, 1) := by decide +kernel
theorem dL_law_1166 : decode cL_law 1166 = .ok (.aload_n 0, 1) := by decide +kernel
theorem dL_law_1167 : decode cL_law 1167 = .ok (.iload 4, 2) := by decide +kernel
theorem dL_law_1169 : decode cL_law 1169 = .ok (.iconst 1, 1) := by decide +kernel
theorem dL_law_1170 : decode cL_law 1170 = .ok (.iadd, 1) := by decide +kernel
theorem dL_law_1171 : decode cL_law 1171 = .ok (.iaload, 1) := by decide +kernel
theorem dL_law_1172 : decode cL_law 1172 = .ok (.aload_n 0, 1) := by decide +kernel
theorem dL_law_1173 : decode cL_law 1173 = .ok (.iload 4, 2) := by decide +kernel
theorem dL_law_1175 : decode cL_law 1175 = .ok (.iconst 2, 1) := by decide +kernel
theorem dL_law_1176 : decode cL_law 1176 = .ok (.iadd, 1) := by decide +kernel
theorem dL_law_1177 : decode cL_law 1177 = .ok (.iaload, 1) := by decide +kernel
theorem dL_law_1178 : decode cL_law 1178 = .ok (.aload_n 0, 1) := by decide +kernel
theorem dL_law_1179 : decode cL_law 1179 = .ok (.iload 4, 2) := by decide +kernel
theorem dL_law_1181 : decode cL_law 1181 = .ok (.iconst 3, 1) := by decide +kernel
theorem dL_law_1182 : decode cL_law 1182 = .ok (.iadd, 1) := by decide +kernel
theorem dL_law_1183 : decode cL_law 1183 = .ok (.iaload, 1) := by decide +kernel
theorem dL_law_1184 : decode cL_law 1184 = .ok (.aload_n 0, 1) := by decide +kernel
theorem dL_law_1185 : decode cL_law 1185 = .ok (.iload 4, 2) := by decide +kernel
theorem dL_law_1187 : decode cL_law 1187 = .ok (.iconst 4, 1) := by decide +kernel
theorem dL_law_1188 : decode cL_law 1188 = .ok (.iadd, 1) := by decide +kernel
theorem dL_law_1189 : decode cL_law 1189 = .ok (.iaload, 1) := by decide +kernel
theorem dL_law_1190 : decode cL_law 1190 = .ok (.aload_n 0, 1) := by decide +kernel
theorem dL_law_1191 : decode cL_law 1191 = .ok (.iload 4, 2) := by decide +kernel
theorem dL_law_1193 : decode cL_law 1193 = .ok (.iconst 5, 1) := by decide +kernel
theorem dL_law_1194 : decode cL_law 1194 = .ok (.iadd, 1) := by decide +kernel
theorem dL_law_1195 : decode cL_law 1195 = .ok (.iaload, 1) := by decide +kernel
theorem dL_law_1196 : decode cL_law 1196 = .ok (.invokestatic 154, 3) := by decide +kernel
theorem dL_law_1199 : decode cL_law 1199 = .ok (.istore 5, 2) := by decide +kernel
theorem dL_law_1201 : decode cL_law 1201 = .ok (.aload_n 2, 1) := by decide +kernel
theorem dL_law_1202 : decode cL_law 1202 = .ok (.aload_n 0, 1) := by decide +kernel
theorem dL_law_1203 : decode cL_law 1203 = .ok (.iload 4, 2) := by decide +kernel
theorem dL_law_1205 : decode cL_law 1205 = .ok (.iconst 1, 1) := by decide +kernel
theorem dL_law_1206 : decode cL_law 1206 = .ok (.iadd, 1) := by decide +kernel
theorem dL_law_1207 : decode cL_law 1207 = .ok (.iaload, 1) := by decide +kernel
theorem dL_law_1208 : decode cL_law 1208 = .ok (.aload_n 0, 1) := by decide +kernel
theorem dL_law_1209 : decode cL_law 1209 = .ok (.iload 4, 2) := by decide +kernel
theorem dL_law_1211 : decode cL_law 1211 = .ok (.iconst 2, 1) := by decide +kernel
theorem dL_law_1212 : decode cL_law 1212 = .ok (.iadd, 1) := by decide +kernel
theorem dL_law_1213 : decode cL_law 1213 = .ok (.iaload, 1) := by decide +kernel
theorem dL_law_1214 : decode cL_law 1214 = .ok (.aload_n 0, 1) := by decide +kernel
theorem dL_law_1215 : decode cL_law 1215 = .ok (.iload 4, 2) := by decide +kernel
theorem dL_law_1217 : decode cL_law 1217 = .ok (.iconst 3, 1) := by decide +kernel
theorem dL_law_1218 : decode cL_law 1218 = .ok (.iadd, 1) := by decide +kernel
theorem dL_law_1219 : decode cL_law 1219 = .ok (.iaload, 1) := by decide +kernel
theorem dL_law_1220 : decode cL_law 1220 = .ok (.aload_n 0, 1) := by decide +kernel
theorem dL_law_1221 : decode cL_law 1221 = .ok (.iload 4, 2) := by decide +kernel
theorem dL_law_1223 : decode cL_law 1223 = .ok (.iconst 4, 1) := by decide +kernel
theorem dL_law_1224 : decode cL_law 1224 = .ok (.iadd, 1) := by decide +kernel
theorem dL_law_1225 : decode cL_law 1225 = .ok (.iaload, 1) := by decide +kernel
theorem dL_law_1226 : decode cL_law 1226 = .ok (.aload_n 0, 1) := by decide +kernel
theorem dL_law_1227 : decode cL_law 1227 = .ok (.iload 4, 2) := by decide +kernel
theorem dL_law_1229 : decode cL_law 1229 = .ok (.iconst 5, 1) := by decide +kernel
theorem dL_law_1230 : decode cL_law 1230 = .ok (.iadd, 1) := by decide +kernel
theorem dL_law_1231 : decode cL_law 1231 = .ok (.iaload, 1) := by decide +kernel
theorem dL_law_1232 : decode cL_law 1232 = .ok (.invokevirtual 157, 3) := by decide +kernel
theorem dL_law_1235 : decode cL_law 1235 = .ok (.aload_n 2, 1) := by decide +kernel
theorem dL_law_1236 : decode cL_law 1236 = .ok (.invokevirtual 99, 3) := by decide +kernel
theorem dL_law_1239 : decode cL_law 1239 = .ok (.iload 5, 2) := by decide +kernel
theorem dL_law_1241 : decode cL_law 1241 = .ok (.if_icmp .eq 5, 3) := by decide +kernel
theorem dL_law_1244 : decode cL_law 1244 = .ok (.iconst 0, 1) := by decide +kernel
theorem dL_law_1245 : decode cL_law 1245 = .ok (.ireturn, 1) := by decide +kernel
theorem dL_law_1246 : decode cL_law 1246 = .ok (.goto 353, 3) := by decide +kernel
theorem dL_law_1249 : decode cL_law 1249 = .ok (.aload_n 1, 1) := by decide +kernel
theorem dL_law_1250 : decode cL_law 1250 = .ok (.aload_n 0, 1) := by decide +kernel
theorem dL_law_1251 : decode cL_law 1251 = .ok (.iload 4, 2) := by decide +kernel
theorem dL_law_1253 : decode cL_law 1253 = .ok (.iconst 1, 1) := by decide +kernel
theorem dL_law_1254 : decode cL_law 1254 = .ok (.iadd, 1) := by decide +kernel
theorem dL_law_1255 : decode cL_law 1255 = .ok (.iaload, 1) := by decide +kernel
theorem dL_law_1256 : decode cL_law 1256 = .ok (.aload_n 3, 1) := by decide +kernel
theorem dL_law_1257 : decode cL_law 1257 = .ok (.invokestatic 158, 3) := by decide +kernel
theorem dL_law_1260 : decode cL_law 1260 = .ok (.istore 5, 2) := by decide +kernel
theorem dL_law_1262 : decode cL_law 1262 = .ok (.aload_n 2, 1) := by decide +kernel
theorem dL_law_1263 : decode cL_law 1263 = .ok (.aload_n 0, 1) := by decide +kernel
theorem dL_law_1264 : decode cL_law 1264 = .ok (.iload 4, 2) := by decide +kernel
theorem dL_law_1266 : decode cL_law 1266 = .ok (.iconst 1, 1) := by decide +kernel
theorem dL_law_1267 : decode cL_law 1267 = .ok (.iadd, 1) := by decide +kernel
theorem dL_law_1268 : decode cL_law 1268 = .ok (.iaload, 1) := by decide +kernel
theorem dL_law_1269 : decode cL_law 1269 = .ok (.invokevirtual 160, 3) := by decide +kernel
theorem dL_law_1272 : decode cL_law 1272 = .ok (.istore 6, 2) := by decide +kernel
theorem dL_law_1274 : decode cL_law 1274 = .ok (.aload_n 2, 1) := by decide +kernel
theorem dL_law_1275 : decode cL_law 1275 = .ok (.invokevirtual 99, 3) := by decide +kernel
theorem dL_law_1278 : decode cL_law 1278 = .ok (.iload 5, 2) := by decide +kernel
theorem dL_law_1280 : decode cL_law 1280 = .ok (.if_icmp .eq 5, 3) := by decide +kernel
theorem dL_law_1283 : decode cL_law 1283 = .ok (.iconst 0, 1) := by decide +kernel
theorem dL_law_1284 : decode cL_law 1284 = .ok (.ireturn, 1) := by decide +kernel
theorem dL_law_1285 : decode cL_law 1285 = .ok (.iload 5, 2) := by decide +kernel
theorem dL_law_1287 : decode cL_law 1287 = .ok (.ifCond .ne 22, 3) := by decide +kernel
theorem dL_law_1290 : decode cL_law 1290 = .ok (.aload_n 3, 1) := by decide +kernel
theorem dL_law_1291 : decode cL_law 1291 = .ok (.iconst 0, 1) := by decide +kernel
theorem dL_law_1292 : decode cL_law 1292 = .ok (.laload, 1) := by decide +kernel
theorem dL_law_1293 : decode cL_law 1293 = .ok (.iload 6, 2) := by decide +kernel
theorem dL_law_1295 : decode cL_law 1295 = .ok (.ifCond .eq 7, 3) := by decide +kernel
theorem dL_law_1298 : decode cL_law 1298 = .ok (.lconst 1, 1) := by decide +kernel
theorem dL_law_1299 : decode cL_law 1299 = .ok (.goto 4, 3) := by decide +kernel
theorem dL_law_1302 : decode cL_law 1302 = .ok (.lconst 0, 1) := by decide +kernel
theorem dL_law_1303 : decode cL_law 1303 = .ok (.lcmp, 1) := by decide +kernel
theorem dL_law_1304 : decode cL_law 1304 = .ok (.ifCond .eq 5, 3) := by decide +kernel
theorem dL_law_1307 : decode cL_law 1307 = .ok (.iconst 0, 1) := by decide +kernel
theorem dL_law_1308 : decode cL_law 1308 = .ok (.ireturn, 1) := by decide +kernel
theorem dL_law_1309 : decode cL_law 1309 = .ok (.goto 290, 3) := by decide +kernel
theorem dL_law_1312 : decode cL_law 1312 = .ok (.aload_n 1, 1) := by decide +kernel
theorem dL_law_1313 : decode cL_law 1313 = .ok (.aload_n 0, 1) := by decide +kernel
theorem dL_law_1314 : decode cL_law 1314 = .ok (.iload 4, 2) := by decide +kernel
theorem dL_law_1316 : decode cL_law 1316 = .ok (.iconst 1, 1) := by decide +kernel
theorem dL_law_1317 : decode cL_law 1317 = .ok (.iadd, 1) := by decide +kernel
theorem dL_law_1318 : decode cL_law 1318 = .ok (.iaload, 1) := by decide +kernel
theorem dL_law_1319 : decode cL_law 1319 = .ok (.aload_n 3, 1) := by decide +kernel
theorem dL_law_1320 : decode cL_law 1320 = .ok (.invokestatic 161, 3) := by decide +kernel
theorem dL_law_1323 : decode cL_law 1323 = .ok (.istore 5, 2) := by decide +kernel
theorem dL_law_1325 : decode cL_law 1325 = .ok (.aload_n 2, 1) := by decide +kernel
theorem dL_law_1326 : decode cL_law 1326 = .ok (.aload_n 0, 1) := by decide +kernel
theorem dL_law_1327 : decode cL_law 1327 = .ok (.iload 4, 2) := by decide +kernel
theorem dL_law_1329 : decode cL_law 1329 = .ok (.iconst 1, 1) := by decide +kernel
theorem dL_law_1330 : decode cL_law 1330 = .ok (.iadd, 1) := by decide +kernel
theorem dL_law_1331 : decode cL_law 1331 = .ok (.iaload, 1) := by decide +kernel
theorem dL_law_1332 : decode cL_law 1332 = .ok (.invokevirtual 163, 3) := by decide +kernel
theorem dL_law_1335 : decode cL_law 1335 = .ok (.istore 6, 2) := by decide +kernel
theorem dL_law_1337 : decode cL_law 1337 = .ok (.aload_n 2, 1) := by decide +kernel
theorem dL_law_1338 : decode cL_law 1338 = .ok (.invokevirtual 99, 3) := by decide +kernel
theorem dL_law_1341 : decode cL_law 1341 = .ok (.iload 5, 2) := by decide +kernel
theorem dL_law_1343 : decode cL_law 1343 = .ok (.if_icmp .eq 5, 3) := by decide +kernel
theorem dL_law_1346 : decode cL_law 1346 = .ok (.iconst 0, 1) := by decide +kernel
theorem dL_law_1347 : decode cL_law 1347 = .ok (.ireturn, 1) := by decide +kernel
theorem dL_law_1348 : decode cL_law 1348 = .ok (.iload 5, 2) := by decide +kernel
theorem dL_law_1350 : decode cL_law 1350 = .ok (.ifCond .ne 22, 3) := by decide +kernel
theorem dL_law_1353 : decode cL_law 1353 = .ok (.aload_n 3, 1) := by decide +kernel
theorem dL_law_1354 : decode cL_law 1354 = .ok (.iconst 0, 1) := by decide +kernel
theorem dL_law_1355 : decode cL_law 1355 = .ok (.laload, 1) := by decide +kernel
theorem dL_law_1356 : decode cL_law 1356 = .ok (.iload 6, 2) := by decide +kernel
theorem dL_law_1358 : decode cL_law 1358 = .ok (.ifCond .eq 7, 3) := by decide +kernel
theorem dL_law_1361 : decode cL_law 1361 = .ok (.lconst 1, 1) := by decide +kernel
theorem dL_law_1362 : decode cL_law 1362 = .ok (.goto 4, 3) := by decide +kernel
theorem dL_law_1365 : decode cL_law 1365 = .ok (.lconst 0, 1) := by decide +kernel
theorem dL_law_1366 : decode cL_law 1366 = .ok (.lcmp, 1) := by decide +kernel
theorem dL_law_1367 : decode cL_law 1367 = .ok (.ifCond .eq 5, 3) := by decide +kernel
theorem dL_law_1370 : decode cL_law 1370 = .ok (.iconst 0, 1) := by decide +kernel
theorem dL_law_1371 : decode cL_law 1371 = .ok (.ireturn, 1) := by decide +kernel
theorem dL_law_1372 : decode cL_law 1372 = .ok (.goto 227, 3) := by decide +kernel
theorem dL_law_1375 : decode cL_law 1375 = .ok (.aload_n 1, 1) := by decide +kernel
theorem dL_law_1376 : decode cL_law 1376 = .ok (.aload_n 0, 1) := by decide +kernel
theorem dL_law_1377 : decode cL_law 1377 = .ok (.iload 4, 2) := by decide +kernel
theorem dL_law_1379 : decode cL_law 1379 = .ok (.iconst 1, 1) := by decide +kernel
theorem dL_law_1380 : decode cL_law 1380 = .ok (.iadd, 1) := by decide +kernel
theorem dL_law_1381 : decode cL_law 1381 = .ok (.iaload, 1) := by decide +kernel
theorem dL_law_1382 : decode cL_law 1382 = .ok (.aload_n 3, 1) := by decide +kernel
theorem dL_law_1383 : decode cL_law 1383 = .ok (.invokestatic 164, 3) := by decide +kernel
theorem dL_law_1386 : decode cL_law 1386 = .ok (.istore 5, 2) := by decide +kernel
theorem dL_law_1388 : decode cL_law 1388 = .ok (.aload_n 2, 1) := by decide +kernel
theorem dL_law_1389 : decode cL_law 1389 = .ok (.aload_n 0, 1) := by decide +kernel
theorem dL_law_1390 : decode cL_law 1390 = .ok (.iload 4, 2) := by decide +kernel
theorem dL_law_1392 : decode cL_law 1392 = .ok (.iconst 1, 1) := by decide +kernel
theorem dL_law_1393 : decode cL_law 1393 = .ok (.iadd, 1) := by decide +kernel
theorem dL_law_1394 : decode cL_law 1394 = .ok (.iaload, 1) := by decide +kernel
theorem dL_law_1395 : decode cL_law 1395 = .ok (.invokevirtual 166, 3) := by decide +kernel
theorem dL_law_1398 : decode cL_law 1398 = .ok (.istore 6, 2) := by decide +kernel
theorem dL_law_1400 : decode cL_law 1400 = .ok (.aload_n 2, 1) := by decide +kernel
theorem dL_law_1401 : decode cL_law 1401 = .ok (.invokevirtual 99, 3) := by decide +kernel
theorem dL_law_1404 : decode cL_law 1404 = .ok (.iload 5, 2) := by decide +kernel
theorem dL_law_1406 : decode cL_law 1406 = .ok (.if_icmp .eq 5, 3) := by decide +kernel
theorem dL_law_1409 : decode cL_law 1409 = .ok (.iconst 0, 1) := by decide +kernel
theorem dL_law_1410 : decode cL_law 1410 = .ok (.ireturn, 1) := by decide +kernel
theorem dL_law_1411 : decode cL_law 1411 = .ok (.iload 5, 2) := by decide +kernel
theorem dL_law_1413 : decode cL_law 1413 = .ok (.ifCond .ne 15, 3) := by decide +kernel
theorem dL_law_1416 : decode cL_law 1416 = .ok (.aload_n 3, 1) := by decide +kernel
theorem dL_law_1417 : decode cL_law 1417 = .ok (.iconst 0, 1) := by decide +kernel
theorem dL_law_1418 : decode cL_law 1418 = .ok (.laload, 1) := by decide +kernel
theorem dL_law_1419 : decode cL_law 1419 = .ok (.iload 6, 2) := by decide +kernel
theorem dL_law_1421 : decode cL_law 1421 = .ok (.i2l, 1) := by decide +kernel
theorem dL_law_1422 : decode cL_law 1422 = .ok (.lcmp, 1) := by decide +kernel
theorem dL_law_1423 : decode cL_law 1423 = .ok (.ifCond .eq 5, 3) := by decide +kernel
theorem dL_law_1426 : decode cL_law 1426 = .ok (.iconst 0, 1) := by decide +kernel
theorem dL_law_1427 : decode cL_law 1427 = .ok (.ireturn, 1) := by decide +kernel
theorem dL_law_1428 : decode cL_law 1428 = .ok (.goto 171, 3) := by decide +kernel
theorem dL_law_1431 : decode cL_law 1431 = .ok (.aload_n 1, 1) := by decide +kernel
theorem dL_law_1432 : decode cL_law 1432 = .ok (.aload_n 0, 1) := by decide +kernel
theorem dL_law_1433 : decode cL_law 1433 = .ok (.iload 4, 2) := by decide +kernel
theorem dL_law_1435 : decode cL_law 1435 = .ok (.iconst 1, 1) := by decide +kernel
theorem dL_law_1436 : decode cL_law 1436 = .ok (.iadd, 1) := by decide +kernel
theorem dL_law_1437 : decode cL_law 1437 = .ok (.iaload, 1) := by decide +kernel
theorem dL_law_1438 : decode cL_law 1438 = .ok (.aload_n 3, 1) := by decide +kernel
theorem dL_law_1439 : decode cL_law 1439 = .ok (.invokestatic 167, 3) := by decide +kernel
theorem dL_law_1442 : decode cL_law 1442 = .ok (.istore 5, 2) := by decide +kernel
theorem dL_law_1444 : decode cL_law 1444 = .ok (.aload_n 2, 1) := by decide +kernel
theorem dL_law_1445 : decode cL_law 1445 = .ok (.aload_n 0, 1) := by decide +kernel
theorem dL_law_1446 : decode cL_law 1446 = .ok (.iload 4, 2) := by decide +kernel
theorem dL_law_1448 : decode cL_law 1448 = .ok (.iconst 1, 1) := by decide +kernel
theorem dL_law_1449 : decode cL_law 1449 = .ok (.iadd, 1) := by decide +kernel
theorem dL_law_1450 : decode cL_law 1450 = .ok (.iaload, 1) := by decide +kernel
theorem dL_law_1451 : decode cL_law 1451 = .ok (.invokevirtual 169, 3) := by decide +kernel
theorem dL_law_1454 : decode cL_law 1454 = .ok (.istore 6, 2) := by decide +kernel
theorem dL_law_1456 : decode cL_law 1456 = .ok (.aload_n 2, 1) := by decide +kernel
theorem dL_law_1457 : decode cL_law 1457 = .ok (.invokevirtual 99, 3) := by decide +kernel
theorem dL_law_1460 : decode cL_law 1460 = .ok (.iload 5, 2) := by decide +kernel
theorem dL_law_1462 : decode cL_law 1462 = .ok (.if_icmp .eq 5, 3) := by decide +kernel
theorem dL_law_1465 : decode cL_law 1465 = .ok (.iconst 0, 1) := by decide +kernel
theorem dL_law_1466 : decode cL_law 1466 = .ok (.ireturn, 1) := by decide +kernel
theorem dL_law_1467 : decode cL_law 1467 = .ok (.iload 5, 2) := by decide +kernel
theorem dL_law_1469 : decode cL_law 1469 = .ok (.ifCond .ne 15, 3) := by decide +kernel
theorem dL_law_1472 : decode cL_law 1472 = .ok (.aload_n 3, 1) := by decide +kernel
theorem dL_law_1473 : decode cL_law 1473 = .ok (.iconst 0, 1) := by decide +kernel
theorem dL_law_1474 : decode cL_law 1474 = .ok (.laload, 1) := by decide +kernel
theorem dL_law_1475 : decode cL_law 1475 = .ok (.iload 6, 2) := by decide +kernel
theorem dL_law_1477 : decode cL_law 1477 = .ok (.i2l, 1) := by decide +kernel
theorem dL_law_1478 : decode cL_law 1478 = .ok (.lcmp, 1) := by decide +kernel
theorem dL_law_1479 : decode cL_law 1479 = .ok (.ifCond .eq 5, 3) := by decide +kernel
theorem dL_law_1482 : decode cL_law 1482 = .ok (.iconst 0, 1) := by decide +kernel
theorem dL_law_1483 : decode cL_law 1483 = .ok (.ireturn, 1) := by decide +kernel
theorem dL_law_1484 : decode cL_law 1484 = .ok (.goto 115, 3) := by decide +kernel
theorem dL_law_1487 : decode cL_law 1487 = .ok (.aload_n 1, 1) := by decide +kernel
theorem dL_law_1488 : decode cL_law 1488 = .ok (.aload_n 0, 1) := by decide +kernel
theorem dL_law_1489 : decode cL_law 1489 = .ok (.iload 4, 2) := by decide +kernel
theorem dL_law_1491 : decode cL_law 1491 = .ok (.iconst 1, 1) := by decide +kernel
theorem dL_law_1492 : decode cL_law 1492 = .ok (.iadd, 1) := by decide +kernel
theorem dL_law_1493 : decode cL_law 1493 = .ok (.iaload, 1) := by decide +kernel
theorem dL_law_1494 : decode cL_law 1494 = .ok (.aload_n 3, 1) := by decide +kernel
theorem dL_law_1495 : decode cL_law 1495 = .ok (.invokestatic 170, 3) := by decide +kernel
theorem dL_law_1498 : decode cL_law 1498 = .ok (.istore 5, 2) := by decide +kernel
theorem dL_law_1500 : decode cL_law 1500 = .ok (.aload_n 2, 1) := by decide +kernel
theorem dL_law_1501 : decode cL_law 1501 = .ok (.aload_n 0, 1) := by decide +kernel
theorem dL_law_1502 : decode cL_law 1502 = .ok (.iload 4, 2) := by decide +kernel
theorem dL_law_1504 : decode cL_law 1504 = .ok (.iconst 1, 1) := by decide +kernel
theorem dL_law_1505 : decode cL_law 1505 = .ok (.iadd, 1) := by decide +kernel
theorem dL_law_1506 : decode cL_law 1506 = .ok (.iaload, 1) := by decide +kernel
theorem dL_law_1507 : decode cL_law 1507 = .ok (.invokevirtual 172, 3) := by decide +kernel
theorem dL_law_1510 : decode cL_law 1510 = .ok (.istore 6, 2) := by decide +kernel
theorem dL_law_1512 : decode cL_law 1512 = .ok (.aload_n 2, 1) := by decide +kernel
theorem dL_law_1513 : decode cL_law 1513 = .ok (.invokevirtual 99, 3) := by decide +kernel
theorem dL_law_1516 : decode cL_law 1516 = .ok (.iload 5, 2) := by decide +kernel
theorem dL_law_1518 : decode cL_law 1518 = .ok (.if_icmp .eq 5, 3) := by decide +kernel
theorem dL_law_1521 : decode cL_law 1521 = .ok (.iconst 0, 1) := by decide +kernel
theorem dL_law_1522 : decode cL_law 1522 = .ok (.ireturn, 1) := by decide +kernel
theorem dL_law_1523 : decode cL_law 1523 = .ok (.iload 5, 2) := by decide +kernel
theorem dL_law_1525 : decode cL_law 1525 = .ok (.ifCond .ne 15, 3) := by decide +kernel
theorem dL_law_1528 : decode cL_law 1528 = .ok (.aload_n 3, 1) := by decide +kernel
theorem dL_law_1529 : decode cL_law 1529 = .ok (.iconst 0, 1) := by decide +kernel
theorem dL_law_1530 : decode cL_law 1530 = .ok (.laload, 1) := by decide +kernel
theorem dL_law_1531 : decode cL_law 1531 = .ok (.iload 6, 2) := by decide +kernel
theorem dL_law_1533 : decode cL_law 1533 = .ok (.i2l, 1) := by decide +kernel
theorem dL_law_1534 : decode cL_law 1534 = .ok (.lcmp, 1) := by decide +kernel
theorem dL_law_1535 : decode cL_law 1535 = .ok (.ifCond .eq 5, 3) := by decide +kernel
theorem dL_law_1538 : decode cL_law 1538 = .ok (.iconst 0, 1) := by decide +kernel
theorem dL_law_1539 : decode cL_law 1539 = .ok (.ireturn, 1) := by decide +kernel
theorem dL_law_1540 : decode cL_law 1540 = .ok (.goto 59, 3) := by decide +kernel
theorem dL_law_1543 : decode cL_law 1543 = .ok (.aload_n 1, 1) := by decide +kernel
theorem dL_law_1544 : decode cL_law 1544 = .ok (.aload_n 0, 1) := by decide +kernel
theorem dL_law_1545 : decode cL_law 1545 = .ok (.iload 4, 2) := by decide +kernel
theorem dL_law_1547 : decode cL_law 1547 = .ok (.iconst 1, 1) := by decide +kernel
theorem dL_law_1548 : decode cL_law 1548 = .ok (.iadd, 1) := by decide +kernel
theorem dL_law_1549 : decode cL_law 1549 = .ok (.iaload, 1) := by decide +kernel
theorem dL_law_1550 : decode cL_law 1550 = .ok (.aload_n 3, 1) := by decide +kernel
theorem dL_law_1551 : decode cL_law 1551 = .ok (.invokestatic 173, 3) := by decide +kernel
theorem dL_law_1554 : decode cL_law 1554 = .ok (.istore 5, 2) := by decide +kernel
theorem dL_law_1556 : decode cL_law 1556 = .ok (.aload_n 2, 1) := by decide +kernel
theorem dL_law_1557 : decode cL_law 1557 = .ok (.aload_n 0, 1) := by decide +kernel
theorem dL_law_1558 : decode cL_law 1558 = .ok (.iload 4, 2) := by decide +kernel
theorem dL_law_1560 : decode cL_law 1560 = .ok (.iconst 1, 1) := by decide +kernel
theorem dL_law_1561 : decode cL_law 1561 = .ok (.iadd, 1) := by decide +kernel
theorem dL_law_1562 : decode cL_law 1562 = .ok (.iaload, 1) := by decide +kernel
theorem dL_law_1563 : decode cL_law 1563 = .ok (.invokevirtual 175, 3) := by decide +kernel
theorem dL_law_1566 : decode cL_law 1566 = .ok (.istore 6, 2) := by decide +kernel
theorem dL_law_1568 : decode cL_law 1568 = .ok (.aload_n 2, 1) := by decide +kernel
theorem dL_law_1569 : decode cL_law 1569 = .ok (.invokevirtual 99, 3) := by decide +kernel
theorem dL_law_1572 : decode cL_law 1572 = .ok (.iload 5, 2) := by decide +kernel
theorem dL_law_1574 : decode cL_law 1574 = .ok (.if_icmp .eq 5, 3) := by decide +kernel
theorem dL_law_1577 : decode cL_law 1577 = .ok (.iconst 0, 1) := by decide +kernel
theorem dL_law_1578 : decode cL_law 1578 = .ok (.ireturn, 1) := by decide +kernel
theorem dL_law_1579 : decode cL_law 1579 = .ok (.iload 5, 2) := by decide +kernel
theorem dL_law_1581 : decode cL_law 1581 = .ok (.ifCond .ne 15, 3) := by decide +kernel
theorem dL_law_1584 : decode cL_law 1584 = .ok (.aload_n 3, 1) := by decide +kernel
theorem dL_law_1585 : decode cL_law 1585 = .ok (.iconst 0, 1) := by decide +kernel
theorem dL_law_1586 : decode cL_law 1586 = .ok (.laload, 1) := by decide +kernel
theorem dL_law_1587 : decode cL_law 1587 = .ok (.iload 6, 2) := by decide +kernel
theorem dL_law_1589 : decode cL_law 1589 = .ok (.i2l, 1) := by decide +kernel
theorem dL_law_1590 : decode cL_law 1590 = .ok (.lcmp, 1) := by decide +kernel
theorem dL_law_1591 : decode cL_law 1591 = .ok (.ifCond .eq 5, 3) := by decide +kernel
theorem dL_law_1594 : decode cL_law 1594 = .ok (.iconst 0, 1) := by decide +kernel
theorem dL_law_1595 : decode cL_law 1595 = .ok (.ireturn, 1) := by decide +kernel
theorem dL_law_1596 : decode cL_law 1596 = .ok (.goto 3, 3) := by decide +kernel
theorem dL_law_1599 : decode cL_law 1599 = .ok (.iinc 4 6, 3) := by decide +kernel
theorem dL_law_1602 : decode cL_law 1602 = .ok (.goto (-1579), 3) := by decide +kernel
theorem dL_law_1605 : decode cL_law 1605 = .ok (.iconst 1, 1) := by decide +kernel
theorem dL_law_1606 : decode cL_law 1606 = .ok (.ireturn, 1) := by decide +kernel
end
section
set_option maxRecDepth 20000 in
theorem wsL_law0_r1_in : ∀ w ∈ wsL_law0_r1, w ∈ lw_tbl := fun w h => (goodIn_p wsL_law0_r1 [41, 44] (by decide +kernel) (by decide +kernel) w h).1
set_option maxRecDepth 20000 in
theorem wsL_law0_r2_in : ∀ w ∈ wsL_law0_r2, w ∈ lw_tbl := fun w h => (goodIn_p wsL_law0_r2 [49, 55, 59] (by decide +kernel) (by decide +kernel) w h).1
set_option maxRecDepth 20000 in
theorem wsL_law0_r3_in : ∀ w ∈ wsL_law0_r3, w ∈ lw_tbl := fun w h => (goodIn_p wsL_law0_r3 [70, 62, 67, 93] (by decide +kernel) (by decide +kernel) w h).1
set_option maxRecDepth 20000 in
theorem wsL_law0_r4_in : ∀ w ∈ wsL_law0_r4, w ∈ lw_tbl := fun w h => (goodIn_p wsL_law0_r4 [138, 591] (by decide +kernel) (by decide +kernel) w h).1
set_option maxRecDepth 20000 in
theorem wsL_law0_r5_in : ∀ w ∈ wsL_law0_r5, w ∈ lw_tbl := fun w h => (goodIn_p wsL_law0_r5 [] (by decide +kernel) (by decide +kernel) w h).1
set_option maxRecDepth 20000 in
theorem wsL_law0_r6_in : ∀ w ∈ wsL_law0_r6, w ∈ lw_tbl := fun w h => (goodIn_p wsL_law0_r6 [226, 229, 300, 683] (by decide +kernel) (by decide +kernel) w h).1
set_option maxRecDepth 20000 in
theorem wsL_law0_r7_in : ∀ w ∈ wsL_law0_r7, w ∈ lw_tbl := fun w h => (goodIn_p wsL_law0_r7 [686, 689, 693, 679, 323, 326] (by decide +kernel) (by decide +kernel) w h).1
set_option maxRecDepth 20000 in
theorem wsL_law0_r8_in : ∀ w ∈ wsL_law0_r8, w ∈ lw_tbl := fun w h => (goodIn_p wsL_law0_r8 [331, 697, 700, 338, 343] (by decide +kernel) (by decide +kernel) w h).1
set_option maxRecDepth 20000 in
theorem wsL_law0_r9_in : ∀ w ∈ wsL_law0_r9, w ∈ lw_tbl := fun w h => (goodIn_p wsL_law0_r9 [705, 350, 354, 357, 709] (by decide +kernel) (by decide +kernel) w h).1
set_option maxRecDepth 20000 in
theorem wsL_law0_r10_in : ∀ w ∈ wsL_law0_r10, w ∈ lw_tbl := fun w h => (goodIn_p wsL_law0_r10 [713, 364, 368, 371, 374, 718] (by decide +kernel) (by decide +kernel) w h).1
set_option maxRecDepth 20000 in
theorem wsL_law0_r11_in : ∀ w ∈ wsL_law0_r11, w ∈ lw_tbl := fun w h => (goodIn_p wsL_law0_r11 [382, 723] (by decide +kernel) (by decide +kernel) w h).1
set_option maxRecDepth 20000 in
theorem wsL_law0_r12_in : ∀ w ∈ wsL_law0_r12, w ∈ lw_tbl := fun w h => (goodIn_p wsL_law0_r12 [408, 412, 727, 731, 420] (by decide +kernel) (by decide +kernel) w h).1
set_option maxRecDepth 20000 in
theorem wsL_law0_r13_in : ∀ w ∈ wsL_law0_r13, w ∈ lw_tbl := fun w h => (goodIn_p wsL_law0_r13 [735, 427, 432, 436] (by decide +kernel) (by decide +kernel) w h).1
set_option maxRecDepth 20000 in
theorem wsL_law0_r14_in : ∀ w ∈ wsL_law0_r14, w ∈ lw_tbl := fun w h => (goodIn_p wsL_law0_r14 [441, 445, 449, 739, 743, 217] (by decide +kernel) (by decide +kernel) w h).1
set_option maxRecDepth 20000 in
theorem wsL_law0_r15_in : ∀ w ∈ wsL_law0_r15, w ∈ lw_tbl := fun w h => (goodIn_p wsL_law0_r15 [747, 751, 456, 755, 759] (by decide +kernel) (by decide +kernel) w h).1
set_option maxRecDepth 20000 in
theorem wsL_law0_r16_in : ∀ w ∈ wsL_law0_r16, w ∈ lw_tbl := fun w h => (goodIn_p wsL_law0_r16 [463, 763, 470, 767] (by decide +kernel) (by decide +kernel) w h).1
set_option maxRecDepth 20000 in
theorem wsL_law0_r17_in : ∀ w ∈ wsL_law0_r17, w ∈ lw_tbl := fun w h => (goodIn_p wsL_law0_r17 [477, 771, 484, 775] (by decide +kernel) (by decide +kernel) w h).1
set_option maxRecDepth 20000 in
theorem wsL_law0_r18_in : ∀ w ∈ wsL_law0_r18, w ∈ lw_tbl := fun w h => (goodIn_p wsL_law0_r18 [491, 779, 783, 499] (by decide +kernel) (by decide +kernel) w h).1
set_option maxRecDepth 20000 in
theorem wsL_law0_r19_in : ∀ w ∈ wsL_law0_r19, w ∈ lw_tbl := fun w h => (goodIn_p wsL_law0_r19 [787, 506, 791, 795] (by decide +kernel) (by decide +kernel) w h).1
set_option maxRecDepth 20000 in
theorem wsL_law0_r20_in : ∀ w ∈ wsL_law0_r20, w ∈ lw_tbl := fun w h => (goodIn_p wsL_law0_r20 [514, 799, 521, 803] (by decide +kernel) (by decide +kernel) w h).1
set_option maxRecDepth 20000 in
theorem wsL_law0_r21_in : ∀ w ∈ wsL_law0_r21, w ∈ lw_tbl := fun w h => (goodIn_p wsL_law0_r21 [528, 807, 535, 539, 543] (by decide +kernel) (by decide +kernel) w h).1
set_option maxRecDepth 20000 in
theorem wsL_law0_r22_in : ∀ w ∈ wsL_law0_r22, w ∈ lw_tbl := fun w h => (goodIn_p wsL_law0_r22 [548, 552, 811, 815, 559] (by decide +kernel) (by decide +kernel) w h).1
set_option maxRecDepth 20000 in
theorem wsL_law0_r23_in : ∀ w ∈ wsL_law0_r23, w ∈ lw_tbl := fun w h => (goodIn_p wsL_law0_r23 [563, 567, 571, 575, 579] (by decide +kernel) (by decide +kernel) w h).1
set_option maxRecDepth 20000 in
theorem wsL_law0_r24_in : ∀ w ∈ wsL_law0_r24, w ∈ lw_tbl := fun w h => (goodIn_p wsL_law0_r24 [583, 586, 819, 823, 827] (by decide +kernel) (by decide +kernel) w h).1
set_option maxRecDepth 20000 in
theorem wsX30_inT : ∀ w ∈ wsX30, w ∈ lw_tbl := fun w h => (goodIn_p wsX30 [] (by decide +kernel) (by decide +kernel) w h).1
set_option maxRecDepth 20000 in
theorem wsX40_inT : ∀ w ∈ wsX40, w ∈ lw_tbl := fun w h => (goodIn_p wsX40 [] (by decide +kernel) (by decide +kernel) w h).1
set_option maxRecDepth 20000 in
theorem wsX20_inT : ∀ w ∈ wsX20, w ∈ lw_tbl := fun w h => (goodIn_p wsX20 [] (by decide +kernel) (by decide +kernel) w h).1
set_option maxRecDepth 20000 in
theorem wsX10_inT : ∀ w ∈ wsX10, w ∈ lw_tbl := fun w h => (goodIn_p wsX10 [] (by decide +kernel) (by decide +kernel) w h).1
set_option maxRecDepth 20000 in
theorem wsX00_inT : ∀ w ∈ wsX00, w ∈ lw_tbl := fun w h => (goodIn_p wsX00 [] (by decide +kernel) (by decide +kernel) w h).1
theorem wsL_law_in0 : ∀ w ∈ wsL_law0, w ∈ lw_tbl := fun w h => (List.mem_append.mp h).elim (fun h => (List.mem_append.mp h).elim (fun h => (List.mem_append.mp h).elim (fun h => (List.mem_append.mp h).elim (fun h => (List.mem_append.mp h).elim (fun h => (List.mem_append.mp h).elim (fun h => (List.mem_append.mp h).elim (fun h => wsL_law0_r1_in w h) (fun h => (List.mem_append.mp h).elim (fun h => wsL_law0_r2_in w h) (fun h => (List.mem_append.mp h).elim (fun h => wsL_law0_r3_in w h) (fun h => (List.mem_append.mp h).elim (fun h => wsL_law0_r4_in w h) (fun h => (List.mem_append.mp h).elim (fun h => wsL_law0_r5_in w h) (fun h => (List.mem_append.mp h).elim (fun h => wsL_law0_r6_in w h) (fun h => (List.mem_append.mp h).elim (fun h => wsL_law0_r7_in w h) (fun h => (List.mem_append.mp h).elim (fun h => wsL_law0_r8_in w h) (fun h => (List.mem_append.mp h).elim (fun h => wsL_law0_r9_in w h) (fun h => (List.mem_append.mp h).elim (fun h => wsL_law0_r10_in w h) (fun h => (List.mem_append.mp h).elim (fun h => wsL_law0_r11_in w h) (fun h => (List.mem_append.mp h).elim (fun h => wsL_law0_r12_in w h) (fun h => (List.mem_append.mp h).elim (fun h => wsL_law0_r13_in w h) (fun h => (List.mem_append.mp h).elim (fun h => wsL_law0_r14_in w h) (fun h => (List.mem_append.mp h).elim (fun h => wsL_law0_r15_in w h) (fun h => (List.mem_append.mp h).elim (fun h => wsL_law0_r16_in w h) (fun h => (List.mem_append.mp h).elim (fun h => wsL_law0_r17_in w h) (fun h => (List.mem_append.mp h).elim (fun h => wsL_law0_r18_in w h) (fun h => (List.mem_append.mp h).elim (fun h => wsL_law0_r19_in w h) (fun h => (List.mem_append.mp h).elim (fun h => wsL_law0_r20_in w h) (fun h => (List.mem_append.mp h).elim (fun h => wsL_law0_r21_in w h) (fun h => (List.mem_append.mp h).elim (fun h => wsL_law0_r22_in w h) (fun h => (List.mem_append.mp h).elim (fun h => wsL_law0_r23_in w h) (fun h => wsL_law0_r24_in w h)))))))))))))))))))))))) (fun h => wsX30_inT w h)) (fun h => wsX40_inT w h)) (fun h => wsX20_inT w h)) (fun h => wsX10_inT w h)) (fun h => wsX00_inT w h)) (fun h => absurd h List.not_mem_nil)
theorem wsL_law_x0 : ∀ w ∈ (vx_atS RX3 87 "java/lang/IndexOutOfBoundsException" ["java/lang/RuntimeException", "java/lang/Exception"]).filter goodWord, w ∈ lw_tbl := by decide +kernel
theorem wsL_law_x1 : ∀ w ∈ (vx_atS RX3 70 "java/lang/IllegalArgumentException" ["java/lang/RuntimeException", "java/lang/Exception"]).filter goodWord, w ∈ lw_tbl := by decide +kernel
theorem wsL_law_x2 : ∀ w ∈ (vx_atS RX3 92 "java/lang/IllegalStateException" ["java/lang/RuntimeException", "java/lang/Exception"]).filter goodWord, w ∈ lw_tbl := by decide +kernel
theorem wsL_law_in : ∀ w ∈ wsL_law, w ∈ lw_tbl := fun w h => (List.mem_append.mp h).elim (fun h => (List.mem_append.mp h).elim (fun h => (List.mem_append.mp h).elim (fun h => wsL_law_in0 w h) (fun h => wsL_law_x0 w h)) (fun h => wsL_law_x1 w h)) (fun h => wsL_law_x2 w h)
theorem inlX0 : ∀ w ∈ wsX00, w ∈ wsL_law := fun _ h => List.mem_append_left _ (List.mem_append_left _ (List.mem_append_left _ (List.mem_append_left _ (List.mem_append_right _ h))))
theorem inX0 : ∀ w ∈ wsX00, w ∈ lw_tbl := fun w h => wsL_law_in w (inlX0 w h)
theorem inlX1 : ∀ w ∈ wsX10, w ∈ wsL_law := fun _ h => List.mem_append_left _ (List.mem_append_left _ (List.mem_append_left _ (List.mem_append_left _ (List.mem_append_left _ (List.mem_append_right _ h)))))
theorem inX1 : ∀ w ∈ wsX10, w ∈ lw_tbl := fun w h => wsL_law_in w (inlX1 w h)
theorem inlX2 : ∀ w ∈ wsX20, w ∈ wsL_law := fun _ h => List.mem_append_left _ (List.mem_append_left _ (List.mem_append_left _ (List.mem_append_left _ (List.mem_append_left _ (List.mem_append_left _ (List.mem_append_right _ h))))))
theorem inX2 : ∀ w ∈ wsX20, w ∈ lw_tbl := fun w h => wsL_law_in w (inlX2 w h)
theorem inlX3 : ∀ w ∈ wsX30, w ∈ wsL_law := fun _ h => List.mem_append_left _ (List.mem_append_left _ (List.mem_append_left _ (List.mem_append_left _ (List.mem_append_left _ (List.mem_append_left _ (List.mem_append_left _ (List.mem_append_left _ (List.mem_append_right _ h))))))))
theorem inX3 : ∀ w ∈ wsX30, w ∈ lw_tbl := fun w h => wsL_law_in w (inlX3 w h)
theorem inlX4 : ∀ w ∈ wsX40, w ∈ wsL_law := fun _ h => List.mem_append_left _ (List.mem_append_left _ (List.mem_append_left _ (List.mem_append_left _ (List.mem_append_left _ (List.mem_append_left _ (List.mem_append_left _ (List.mem_append_right _ h)))))))
theorem inX4 : ∀ w ∈ wsX40, w ∈ lw_tbl := fun w h => wsL_law_in w (inlX4 w h)
theorem inJx145de : ∀ w ∈ wsJx145de0, w ∈ lw_tbl := by decide +kernel
theorem inJ9 : ∀ w ∈ wsJ90, w ∈ lw_tbl := by decide +kernel
theorem inJ0 : ∀ w ∈ wsJ00, w ∈ lw_tbl := by decide +kernel
theorem inJ7 : ∀ w ∈ wsJ70, w ∈ lw_tbl := by decide +kernel
/-! ===== END printed: names ===== -/
end
section
/-! ===== BEGIN kernel: the packed goal xA (heap, written places, locals are bound inside), one row an instruction ===== -/
/-- contents of the cells, by cell and place -/
abbrev XV : Type := Nat → Nat → Int32
def xs (V : XV) (p k : Nat) (v : Int32) : XV := fun q => if q = p then upd (V p) k v else V q
theorem xs_at (V : XV) (p k : Nat) (v : Int32) : xs V p k v p = upd (V p) k v := if_pos rfl
theorem xs_off (V : XV) {p q : Nat} (k : Nat) (v : Int32) (h : q ≠ p) : xs V p k v q = V q := if_neg h
theorem xs_eq (V : XV) (p k : Nat) (v : Int32) (q j : Nat) : xs V p k v q j = if q = p ∧ j = k then v else V q j := by
  unfold xs
  by_cases h : q = p
  · subst h
    rw [if_pos rfl]
    unfold upd
    by_cases h2 : j = k
    · rw [if_pos h2, if_pos ⟨rfl, h2⟩]
    · rw [if_neg h2, if_neg (fun z => h2 z.2)]
  · rw [if_neg h, if_neg (fun z => h z.1)]
/-- n cells at the addresses a 0 .. a (n-1) -/
def xw (n : Nat) (a : Nat → Nat) (E : Nat → va_E) : va_W := (List.range n).map (fun p => (a p, E p))
theorem xw_len (n : Nat) (a : Nat → Nat) (E : Nat → va_E) : (xw n a E).length = n := by simp [xw]
theorem xw_get {n : Nat} {a : Nat → Nat} {E : Nat → va_E} {X : va_W} {p : Nat} (h : p < n) : (xw n a E ++ X)[p]? = some (a p, E p) := by
  rw [List.getElem?_append_left (by rw [xw_len]; exact h)]
  simp [xw, h]
theorem xw_set {n : Nat} {a : Nat → Nat} {E E' : Nat → va_E} {X : va_W} {p : Nat} {e : va_E} (h : p < n) (he : E' p = e) (ho : ∀ q, q ≠ p → E' q = E q) : (xw n a E ++ X).set p (a p, e) = xw n a E' ++ X := by
  rw [List.set_append_left _ _ (by rw [xw_len]; exact h)]
  congr 1
  apply List.ext_getElem?
  intro i
  by_cases hi : i = p
  · subst hi
    simp [xw, h, he]
  · by_cases hn : i < n
    · simp [xw, hn, List.getElem?_set, Ne.symm hi, ho i hi]
    · rw [List.getElem?_eq_none (by simp [xw]; omega), List.getElem?_eq_none (by simp [xw]; omega)]
/-- locals: the first row of i counts -/
def xl : List (Nat × Value) → Nat → Option Value
  | [], _ => none
  | q :: r, i => match Nat.beq q.1 i with
    | true => some q.2
    | false => xl r i
def lvx (ls : Array Slot) (nL : Nat) (lv : List (Nat × Value)) : Prop := ls.size = nL ∧ lv_wf ls ∧ ∀ i v, xl lv i = some v → ls[i]? = some (.val v) ∧ v.category = 1
theorem xl_mem : ∀ {lv : List (Nat × Value)} {i : Nat} {v : Value}, xl lv i = some v → (i, v) ∈ lv
  | [], _, _, h => by cases h
  | q :: r, i, v, h => by
    unfold xl at h
    cases hq : Nat.beq q.1 i with
    | true =>
      rw [hq] at h
      have e := Nat.eq_of_beq_eq_true hq
      cases h
      rw [← e]
      exact List.mem_cons_self
    | false =>
      rw [hq] at h
      exact List.mem_cons_of_mem _ (xl_mem h)
theorem xl_cons_self (lv : List (Nat × Value)) (i : Nat) (v : Value) : xl ((i, v) :: lv) i = some v := by
  simp [xl]
theorem xl_cons_ne (lv : List (Nat × Value)) {i j : Nat} (v : Value) (h : i ≠ j) : xl ((i, v) :: lv) j = xl lv j := by
  have hb : Nat.beq i j = false := by
    cases hq : Nat.beq i j with
    | true => exact absurd (Nat.eq_of_beq_eq_true hq) h
    | false => rfl
  conv => lhs; unfold xl
  simp only [hb]
theorem lvx.of {ls : Array Slot} {nL : Nat} {lv : List (Nat × Value)} (h : lv_has ls nL lv) (hc : lv.all (fun q => q.2.category == 1) = true) : lvx ls nL lv := by
  refine ⟨h.1, h.2.1, fun i v hv => ?_⟩
  have hm := xl_mem hv
  refine ⟨h.2.2 (i, v) hm, ?_⟩
  have := List.all_eq_true.mp hc _ hm
  simpa using this
/-- all that is known, as a list without double rows -/
def lvl (lv : List (Nat × Value)) (nL : Nat) : List (Nat × Value) := (List.range nL).filterMap (fun j => (xl lv j).map (fun v => (j, v)))
theorem lvl_has {ls : Array Slot} {nL : Nat} {lv : List (Nat × Value)} (h : lvx ls nL lv) : lv_has ls nL (lvl lv nL) := by
  refine ⟨h.1, h.2.1, fun q hq => ?_⟩
  obtain ⟨j, -, hj⟩ := List.mem_filterMap.mp hq
  cases hx : xl lv j with
  | none => rw [hx] at hj; cases hj
  | some v =>
    rw [hx] at hj
    cases hj
    exact (h.2.2 j v hx).1
theorem lvx.put {ls ls' : Array Slot} {nL : Nat} {lv : List (Nat × Value)} {i : Nat} {v : Value} (h : lvx ls nL lv) (hv : v.category = 1) (h2 : lv_has ls' nL ((i, v) :: (lvl lv nL).filter (fun q => !(q.1 == i) && !(q.1 + 1 == i && q.2.category == 2)))) : lvx ls' nL ((i, v) :: lv) := by
  refine ⟨h2.1, h2.2.1, fun j w hj => ?_⟩
  by_cases hij : i = j
  · subst hij
    rw [xl_cons_self] at hj
    cases hj
    exact ⟨h2.2.2 (i, v) List.mem_cons_self, hv⟩
  · rw [xl_cons_ne lv v hij] at hj
    obtain ⟨q1, q2⟩ := h.2.2 j w hj
    have hjn : j < nL := by
      have := (Array.getElem?_eq_some_iff.mp q1).1
      rw [h.1] at this
      exact this
    refine ⟨h2.2.2 (j, w) (List.mem_cons_of_mem _ (List.mem_filter.mpr ⟨List.mem_filterMap.mpr ⟨j, List.mem_range.mpr hjn, by rw [hj]; rfl⟩, ?_⟩)), q2⟩
    simp [q2, Ne.symm hij]
theorem lvx.sub {ls : Array Slot} {nL : Nat} {lv lv' : List (Nat × Value)} (h : lvx ls nL lv) (hs : ∀ q ∈ lv', xl lv q.1 = some q.2) : lvx ls nL lv' :=
  ⟨h.1, h.2.1, fun i v hv => h.2.2 i v (hs (i, v) (xl_mem hv))⟩
/-- what stands fast in a method's walk -/
def xC (p : Program) (s : State) (m : MethodId) (args : Array Value) (meth : Method) (c : Code) (cc : ByteArray) (nL : Nat) (own : String) (Ts : List Cond) (D : va_G) (tys : List (ClassId × FieldType)) (A : Nat → Prop) (ret : Option FieldType) : Prop :=
  p.tables.exec = Jvm.exec ∧ c.code = cc ∧ c.maxLocals = nL ∧ s.vm.findClass own = some m.cls ∧ (∀ w ∈ Ts, w.before args s = true) ∧ va_K D vwCl tys s ∧ (∀ q, s.heap.size ≤ q → A q) ∧ meth.locks = false ∧ meth.sig.returnType = ret
/-- the goal at a place of the code, over every heap that holds the world -/
def xA (p : Program) (l : Launch) (e : Env) (R : Room) (s : State) (m : MethodId) (args : Array Value) (below : List Frame) (meth : Method) (c : Code) (D : va_G) (A : Nat → Prop) (nL cells slots : Nat) (Q : State → Prop) (pc : Nat) (lv : List (Nat × Value)) (st : List Value) (ws : va_W) : Prop :=
  ∀ (H : Heap) (locs : List Loc) (ls : Array Slot), va_P D vwCl ws H → va_D A ws → va_S A s.heap H locs → lvx ls nL lv → W p l e R s m args below meth c H locs cells slots Q (F0 m pc ls st)
section XK
variable {p : Program} {l : Launch} {e : Env} {R : Room} {s : State} {m : MethodId} {args : Array Value} {below : List Frame} {meth : Method} {c : Code} {cells slots : Nat} {Q : State → Prop} {cc : ByteArray} {nL : Nat} {own : String} {Ts : List Cond} {D : va_G} {tys : List (ClassId × FieldType)} {A : Nat → Prop} {ret : Option FieldType} {pc : Nat} {lv : List (Nat × Value)} {st : List Value} {ws : va_W}

theorem x_sub {lv' : List (Nat × Value)} (k : xA p l e R s m args below meth c D A nL cells slots Q pc lv' st ws) (hs : ∀ q ∈ lv', xl lv q.1 = some q.2) : xA p l e R s m args below meth c D A nL cells slots Q pc lv st ws := fun H locs ls hP hD hS hl => k H locs ls hP hD hS (hl.sub hs)
theorem x_subm {lv' : List (Nat × Value)} (k : xA p l e R s m args below meth c D A nL cells slots Q pc lv' st ws) (hs : lv'.map (fun q => xl lv q.1) = lv'.map (fun q => some q.2)) : xA p l e R s m args below meth c D A nL cells slots Q pc lv st ws := x_sub k (fun q hq => List.map_inj_left.mp hs q hq)
theorem x_st {st' : List Value} (h : st = st') (k : xA p l e R s m args below meth c D A nL cells slots Q pc lv st' ws) : xA p l e R s m args below meth c D A nL cells slots Q pc lv st ws := h ▸ k
theorem x_ws {ws' : va_W} (h : ws = ws') (k : xA p l e R s m args below meth c D A nL cells slots Q pc lv st ws') : xA p l e R s m args below meth c D A nL cells slots Q pc lv st ws := h ▸ k
theorem x_widen {k n : Nat} (h1 : cells ≤ k) (h2 : slots ≤ n) (kk : xA p l e R s m args below meth c D A nL k n Q pc lv st ws) : xA p l e R s m args below meth c D A nL cells slots Q pc lv st ws := fun H locs ls hP hD hS hl => W.widen h1 h2 (kk H locs ls hP hD hS hl)

theorem x_iconst (C : xC p s m args meth c cc nL own Ts D tys A ret) {n : Int} {v : Int32} (hd : decode cc pc = .ok (.iconst n, 1)) (hv : Int32.ofInt n = v)
    (k : xA p l e R s m args below meth c D A nL cells slots Q (pc + 1) lv (.int v :: st) ws) : xA p l e R s m args below meth c D A nL cells slots Q pc lv st ws := fun H locs ls hP hD hS hl => lv_iconst C.1 C.2.1 hd hv (k H locs ls hP hD hS hl)
theorem x_bipush (C : xC p s m args meth c cc nL own Ts D tys A ret) {n : Int} {v : Int32} (hd : decode cc pc = .ok (.bipush n, 2)) (hv : (Int8.ofInt n).toInt32 = v)
    (k : xA p l e R s m args below meth c D A nL cells slots Q (pc + 2) lv (.int v :: st) ws) : xA p l e R s m args below meth c D A nL cells slots Q pc lv st ws := fun H locs ls hP hD hS hl => lv_bipush C.1 C.2.1 hd hv (k H locs ls hP hD hS hl)
theorem x_sipush (C : xC p s m args meth c cc nL own Ts D tys A ret) {n : Int} {v : Int32} (hd : decode cc pc = .ok (.sipush n, 3)) (hv : (Int16.ofInt n).toInt32 = v)
    (k : xA p l e R s m args below meth c D A nL cells slots Q (pc + 3) lv (.int v :: st) ws) : xA p l e R s m args below meth c D A nL cells slots Q pc lv st ws := fun H locs ls hP hD hS hl => lv_sipush C.1 C.2.1 hd hv (k H locs ls hP hD hS hl)
theorem x_iadd (C : xC p s m args meth c cc nL own Ts D tys A ret) {x y : Int32} (hd : decode cc pc = .ok (.iadd, 1)) 
    (k : xA p l e R s m args below meth c D A nL cells slots Q (pc + 1) lv (.int (x + y) :: st) ws) : xA p l e R s m args below meth c D A nL cells slots Q pc lv (.int y :: .int x :: st) ws := fun H locs ls hP hD hS hl => lv_iadd C.1 C.2.1 hd  (k H locs ls hP hD hS hl)
theorem x_isub (C : xC p s m args meth c cc nL own Ts D tys A ret) {x y : Int32} (hd : decode cc pc = .ok (.isub, 1)) 
    (k : xA p l e R s m args below meth c D A nL cells slots Q (pc + 1) lv (.int (x - y) :: st) ws) : xA p l e R s m args below meth c D A nL cells slots Q pc lv (.int y :: .int x :: st) ws := fun H locs ls hP hD hS hl => lv_isub C.1 C.2.1 hd  (k H locs ls hP hD hS hl)
theorem x_imul (C : xC p s m args meth c cc nL own Ts D tys A ret) {x y : Int32} (hd : decode cc pc = .ok (.imul, 1)) 
    (k : xA p l e R s m args below meth c D A nL cells slots Q (pc + 1) lv (.int (x * y) :: st) ws) : xA p l e R s m args below meth c D A nL cells slots Q pc lv (.int y :: .int x :: st) ws := fun H locs ls hP hD hS hl => lv_imul C.1 C.2.1 hd  (k H locs ls hP hD hS hl)
theorem x_iand (C : xC p s m args meth c cc nL own Ts D tys A ret) {x y : Int32} (hd : decode cc pc = .ok (.iand, 1)) 
    (k : xA p l e R s m args below meth c D A nL cells slots Q (pc + 1) lv (.int (x &&& y) :: st) ws) : xA p l e R s m args below meth c D A nL cells slots Q pc lv (.int y :: .int x :: st) ws := fun H locs ls hP hD hS hl => lv_iand C.1 C.2.1 hd  (k H locs ls hP hD hS hl)
theorem x_ior (C : xC p s m args meth c cc nL own Ts D tys A ret) {x y : Int32} (hd : decode cc pc = .ok (.ior, 1)) 
    (k : xA p l e R s m args below meth c D A nL cells slots Q (pc + 1) lv (.int (x ||| y) :: st) ws) : xA p l e R s m args below meth c D A nL cells slots Q pc lv (.int y :: .int x :: st) ws := fun H locs ls hP hD hS hl => lv_ior C.1 C.2.1 hd  (k H locs ls hP hD hS hl)
theorem x_ixor (C : xC p s m args meth c cc nL own Ts D tys A ret) {x y : Int32} (hd : decode cc pc = .ok (.ixor, 1)) 
    (k : xA p l e R s m args below meth c D A nL cells slots Q (pc + 1) lv (.int (x ^^^ y) :: st) ws) : xA p l e R s m args below meth c D A nL cells slots Q pc lv (.int y :: .int x :: st) ws := fun H locs ls hP hD hS hl => lv_ixor C.1 C.2.1 hd  (k H locs ls hP hD hS hl)
theorem x_ishl (C : xC p s m args meth c cc nL own Ts D tys A ret) {x y : Int32} (hd : decode cc pc = .ok (.ishl, 1)) 
    (k : xA p l e R s m args below meth c D A nL cells slots Q (pc + 1) lv (.int (x <<< (y &&& 31)) :: st) ws) : xA p l e R s m args below meth c D A nL cells slots Q pc lv (.int y :: .int x :: st) ws := fun H locs ls hP hD hS hl => lv_ishl C.1 C.2.1 hd  (k H locs ls hP hD hS hl)
theorem x_ishr (C : xC p s m args meth c cc nL own Ts D tys A ret) {x y : Int32} (hd : decode cc pc = .ok (.ishr, 1)) 
    (k : xA p l e R s m args below meth c D A nL cells slots Q (pc + 1) lv (.int (x >>> (y &&& 31)) :: st) ws) : xA p l e R s m args below meth c D A nL cells slots Q pc lv (.int y :: .int x :: st) ws := fun H locs ls hP hD hS hl => lv_ishr C.1 C.2.1 hd  (k H locs ls hP hD hS hl)
theorem x_idiv (C : xC p s m args meth c cc nL own Ts D tys A ret) {x y : Int32} (hd : decode cc pc = .ok (.idiv, 1)) (hne : ¬ y = 0)
    (k : xA p l e R s m args below meth c D A nL cells slots Q (pc + 1) lv (.int (x / y) :: st) ws) : xA p l e R s m args below meth c D A nL cells slots Q pc lv (.int y :: .int x :: st) ws := fun H locs ls hP hD hS hl => lv_idiv C.1 C.2.1 hd hne (k H locs ls hP hD hS hl)
theorem x_irem (C : xC p s m args meth c cc nL own Ts D tys A ret) {x y : Int32} (hd : decode cc pc = .ok (.irem, 1)) (hne : ¬ y = 0)
    (k : xA p l e R s m args below meth c D A nL cells slots Q (pc + 1) lv (.int (x - x / y * y) :: st) ws) : xA p l e R s m args below meth c D A nL cells slots Q pc lv (.int y :: .int x :: st) ws := fun H locs ls hP hD hS hl => lv_irem C.1 C.2.1 hd hne (k H locs ls hP hD hS hl)
theorem x_ineg (C : xC p s m args meth c cc nL own Ts D tys A ret) {x : Int32} (hd : decode cc pc = .ok (.ineg, 1)) 
    (k : xA p l e R s m args below meth c D A nL cells slots Q (pc + 1) lv (.int (-x) :: st) ws) : xA p l e R s m args below meth c D A nL cells slots Q pc lv (.int x :: st) ws := fun H locs ls hP hD hS hl => lv_ineg C.1 C.2.1 hd  (k H locs ls hP hD hS hl)
theorem x_i2l (C : xC p s m args meth c cc nL own Ts D tys A ret) {x : Int32} {v : Int64} (hd : decode cc pc = .ok (.i2l, 1)) (hv : x.toInt64 = v)
    (k : xA p l e R s m args below meth c D A nL cells slots Q (pc + 1) lv (.long v :: st) ws) : xA p l e R s m args below meth c D A nL cells slots Q pc lv (.int x :: st) ws := fun H locs ls hP hD hS hl => lv_i2l C.1 C.2.1 hd hv (k H locs ls hP hD hS hl)
theorem x_dup (C : xC p s m args meth c cc nL own Ts D tys A ret) {va : Value} (hd : decode cc pc = .ok (.dup, 1)) (hva : va.category = 1)
    (k : xA p l e R s m args below meth c D A nL cells slots Q (pc + 1) lv (va :: va :: st) ws) : xA p l e R s m args below meth c D A nL cells slots Q pc lv (va :: st) ws := fun H locs ls hP hD hS hl => lv_dup C.1 C.2.1 hd hva (k H locs ls hP hD hS hl)
theorem x_pop (C : xC p s m args meth c cc nL own Ts D tys A ret) {va : Value} (hd : decode cc pc = .ok (.pop, 1)) (hva : va.category = 1)
    (k : xA p l e R s m args below meth c D A nL cells slots Q (pc + 1) lv st ws) : xA p l e R s m args below meth c D A nL cells slots Q pc lv (va :: st) ws := fun H locs ls hP hD hS hl => lv_pop C.1 C.2.1 hd hva (k H locs ls hP hD hS hl)
theorem x_dup_x1 (C : xC p s m args meth c cc nL own Ts D tys A ret) {va vb : Value} (hd : decode cc pc = .ok (.dup_x1, 1)) (hva : va.category = 1) (hvb : vb.category = 1)
    (k : xA p l e R s m args below meth c D A nL cells slots Q (pc + 1) lv (va :: vb :: va :: st) ws) : xA p l e R s m args below meth c D A nL cells slots Q pc lv (va :: vb :: st) ws := fun H locs ls hP hD hS hl => lv_dup_x1 C.1 C.2.1 hd hva hvb (k H locs ls hP hD hS hl)
theorem x_dup2_11 (C : xC p s m args meth c cc nL own Ts D tys A ret) {va vb : Value} (hd : decode cc pc = .ok (.dup2, 1)) (hva : va.category = 1) (hvb : vb.category = 1)
    (k : xA p l e R s m args below meth c D A nL cells slots Q (pc + 1) lv (va :: vb :: va :: vb :: st) ws) : xA p l e R s m args below meth c D A nL cells slots Q pc lv (va :: vb :: st) ws := fun H locs ls hP hD hS hl => lv_dup2_11 C.1 C.2.1 hd hva hvb (k H locs ls hP hD hS hl)
theorem x_dup_x2 (C : xC p s m args meth c cc nL own Ts D tys A ret) {va vb vd : Value} (hd : decode cc pc = .ok (.dup_x2, 1)) (hva : va.category = 1) (hvb : vb.category = 1) (hvd : vd.category = 1)
    (k : xA p l e R s m args below meth c D A nL cells slots Q (pc + 1) lv (va :: vb :: vd :: va :: st) ws) : xA p l e R s m args below meth c D A nL cells slots Q pc lv (va :: vb :: vd :: st) ws := fun H locs ls hP hD hS hl => lv_dup_x2 C.1 C.2.1 hd hva hvb hvd (k H locs ls hP hD hS hl)
theorem x_topi {x y : Int32} (h : x = y) (k : xA p l e R s m args below meth c D A nL cells slots Q pc lv (.int y :: st) ws) : xA p l e R s m args below meth c D A nL cells slots Q pc lv (.int x :: st) ws := h ▸ k
theorem x_iload_n (C : xC p s m args meth c cc nL own Ts D tys A ret) {k : Fin 4} {i : Nat} {x : Int32} (hd : decode cc pc = .ok (.iload_n k, 1)) (hi : (k : Nat) = i) (hx : xl lv i = some (.int x))
    (kk : xA p l e R s m args below meth c D A nL cells slots Q (pc + 1) lv (.int x :: st) ws) : xA p l e R s m args below meth c D A nL cells slots Q pc lv st ws := fun H locs ls hP hD hS hl => lv_iload_n C.1 C.2.1 hd hi (hl.2.2 i _ hx).1 (kk H locs ls hP hD hS hl)
theorem x_iload (C : xC p s m args meth c cc nL own Ts D tys A ret) {i : Nat} {x : Int32} (hd : decode cc pc = .ok (.iload i, 2)) (hx : xl lv i = some (.int x))
    (kk : xA p l e R s m args below meth c D A nL cells slots Q (pc + 2) lv (.int x :: st) ws) : xA p l e R s m args below meth c D A nL cells slots Q pc lv st ws := fun H locs ls hP hD hS hl => lv_iload C.1 C.2.1 hd (hl.2.2 i _ hx).1 (kk H locs ls hP hD hS hl)
theorem x_aload_n (C : xC p s m args meth c cc nL own Ts D tys A ret) {k : Fin 4} {i : Nat} {x : Nat} (hd : decode cc pc = .ok (.aload_n k, 1)) (hi : (k : Nat) = i) (hx : xl lv i = some (.ref x))
    (kk : xA p l e R s m args below meth c D A nL cells slots Q (pc + 1) lv (.ref x :: st) ws) : xA p l e R s m args below meth c D A nL cells slots Q pc lv st ws := fun H locs ls hP hD hS hl => lv_aload_n C.1 C.2.1 hd hi (hl.2.2 i _ hx).1 (kk H locs ls hP hD hS hl)
theorem x_aload (C : xC p s m args meth c cc nL own Ts D tys A ret) {i : Nat} {x : Nat} (hd : decode cc pc = .ok (.aload i, 2)) (hx : xl lv i = some (.ref x))
    (kk : xA p l e R s m args below meth c D A nL cells slots Q (pc + 2) lv (.ref x :: st) ws) : xA p l e R s m args below meth c D A nL cells slots Q pc lv st ws := fun H locs ls hP hD hS hl => lv_aload C.1 C.2.1 hd (hl.2.2 i _ hx).1 (kk H locs ls hP hD hS hl)
theorem x_istore_n (C : xC p s m args meth c cc nL own Ts D tys A ret) {k : Fin 4} {i : Nat} {x : Int32} (hd : decode cc pc = .ok (.istore_n k, 1)) (hi : (k : Nat) = i) (hn : i < nL)
    (kk : xA p l e R s m args below meth c D A nL cells slots Q (pc + 1) ((i, .int x) :: lv) st ws) : xA p l e R s m args below meth c D A nL cells slots Q pc lv (.int x :: st) ws := fun H locs ls hP hD hS hl => lv_istore_n C.1 C.2.1 hd hi (lvl_has hl) hn rfl (fun ls' h' => kk H locs ls' hP hD hS (hl.put rfl h'))
theorem x_istore (C : xC p s m args meth c cc nL own Ts D tys A ret) {i : Nat} {x : Int32} (hd : decode cc pc = .ok (.istore i, 2)) (hn : i < nL)
    (kk : xA p l e R s m args below meth c D A nL cells slots Q (pc + 2) ((i, .int x) :: lv) st ws) : xA p l e R s m args below meth c D A nL cells slots Q pc lv (.int x :: st) ws := fun H locs ls hP hD hS hl => lv_istore C.1 C.2.1 hd (lvl_has hl) hn rfl (fun ls' h' => kk H locs ls' hP hD hS (hl.put rfl h'))
theorem x_astore_n (C : xC p s m args meth c cc nL own Ts D tys A ret) {k : Fin 4} {i : Nat} {x : Nat} (hd : decode cc pc = .ok (.astore_n k, 1)) (hi : (k : Nat) = i) (hn : i < nL)
    (kk : xA p l e R s m args below meth c D A nL cells slots Q (pc + 1) ((i, .ref x) :: lv) st ws) : xA p l e R s m args below meth c D A nL cells slots Q pc lv (.ref x :: st) ws := fun H locs ls hP hD hS hl => lv_astore_n C.1 C.2.1 hd hi (lvl_has hl) hn rfl (fun ls' h' => kk H locs ls' hP hD hS (hl.put rfl h'))
theorem x_astore (C : xC p s m args meth c cc nL own Ts D tys A ret) {i : Nat} {x : Nat} (hd : decode cc pc = .ok (.astore i, 2)) (hn : i < nL)
    (kk : xA p l e R s m args below meth c D A nL cells slots Q (pc + 2) ((i, .ref x) :: lv) st ws) : xA p l e R s m args below meth c D A nL cells slots Q pc lv (.ref x :: st) ws := fun H locs ls hP hD hS hl => lv_astore C.1 C.2.1 hd (lvl_has hl) hn rfl (fun ls' h' => kk H locs ls' hP hD hS (hl.put rfl h'))
theorem x_iinc (C : xC p s m args meth c cc nL own Ts D tys A ret) {i : Nat} {n : Int} {x v : Int32} (hd : decode cc pc = .ok (.iinc i n, 3)) (hx : xl lv i = some (.int x)) (hv : x + Int32.ofInt n = v)
    (kk : xA p l e R s m args below meth c D A nL cells slots Q (pc + 3) ((i, .int v) :: lv) st ws) : xA p l e R s m args below meth c D A nL cells slots Q pc lv st ws := by
  intro H locs ls hP hD hS hl
  have hm : (i, Value.int x) ∈ lvl lv nL := by
    have h1 := (hl.2.2 i _ hx).1
    have hn : i < nL := by
      have := (Array.getElem?_eq_some_iff.mp h1).1
      rw [hl.1] at this
      exact this
    exact List.mem_filterMap.mpr ⟨i, List.mem_range.mpr hn, by rw [hx]; rfl⟩
  have hn : i < nL := by
    have := (Array.getElem?_eq_some_iff.mp (hl.2.2 i _ hx).1).1
    rw [hl.1] at this
    exact this
  obtain ⟨k, hk⟩ := List.getElem?_of_mem hm
  exact lv_iinc C.1 C.2.1 hd (lvl_has hl) hk hv hn rfl (fun ls' h' => kk H locs ls' hP hD hS (hl.put rfl h'))
theorem x_if_eq (C : xC p s m args meth c cc nL own Ts D tys A ret) {x : Int32} {off : Int} (tgt : Nat) (hd : decode cc pc = .ok (.ifCond .eq off, 3)) (ht : (pc : Int) + off = (tgt : Int))
    (kt : x = 0 → xA p l e R s m args below meth c D A nL cells slots Q tgt lv st ws) (kf : ¬ x = 0 → xA p l e R s m args below meth c D A nL cells slots Q (pc + 3) lv st ws) : xA p l e R s m args below meth c D A nL cells slots Q pc lv (.int x :: st) ws := fun H locs ls hP hD hS hl => lv_if_eq C.1 C.2.1 hd ht (fun h => kt h H locs ls hP hD hS hl) (fun h => kf h H locs ls hP hD hS hl)
theorem x_icmp_eq (C : xC p s m args meth c cc nL own Ts D tys A ret) {x y : Int32} {off : Int} (tgt : Nat) (hd : decode cc pc = .ok (.if_icmp .eq off, 3)) (ht : (pc : Int) + off = (tgt : Int))
    (kt : x = y → xA p l e R s m args below meth c D A nL cells slots Q tgt lv st ws) (kf : ¬ x = y → xA p l e R s m args below meth c D A nL cells slots Q (pc + 3) lv st ws) : xA p l e R s m args below meth c D A nL cells slots Q pc lv (.int y :: .int x :: st) ws := fun H locs ls hP hD hS hl => lv_icmp_eq C.1 C.2.1 hd ht (fun h => kt h H locs ls hP hD hS hl) (fun h => kf h H locs ls hP hD hS hl)
theorem x_if_ne (C : xC p s m args meth c cc nL own Ts D tys A ret) {x : Int32} {off : Int} (tgt : Nat) (hd : decode cc pc = .ok (.ifCond .ne off, 3)) (ht : (pc : Int) + off = (tgt : Int))
    (kt : ¬ x = 0 → xA p l e R s m args below meth c D A nL cells slots Q tgt lv st ws) (kf : x = 0 → xA p l e R s m args below meth c D A nL cells slots Q (pc + 3) lv st ws) : xA p l e R s m args below meth c D A nL cells slots Q pc lv (.int x :: st) ws := fun H locs ls hP hD hS hl => lv_if_ne C.1 C.2.1 hd ht (fun h => kt h H locs ls hP hD hS hl) (fun h => kf h H locs ls hP hD hS hl)
theorem x_icmp_ne (C : xC p s m args meth c cc nL own Ts D tys A ret) {x y : Int32} {off : Int} (tgt : Nat) (hd : decode cc pc = .ok (.if_icmp .ne off, 3)) (ht : (pc : Int) + off = (tgt : Int))
    (kt : ¬ x = y → xA p l e R s m args below meth c D A nL cells slots Q tgt lv st ws) (kf : x = y → xA p l e R s m args below meth c D A nL cells slots Q (pc + 3) lv st ws) : xA p l e R s m args below meth c D A nL cells slots Q pc lv (.int y :: .int x :: st) ws := fun H locs ls hP hD hS hl => lv_icmp_ne C.1 C.2.1 hd ht (fun h => kt h H locs ls hP hD hS hl) (fun h => kf h H locs ls hP hD hS hl)
theorem x_if_lt (C : xC p s m args meth c cc nL own Ts D tys A ret) {x : Int32} {off : Int} (tgt : Nat) (hd : decode cc pc = .ok (.ifCond .lt off, 3)) (ht : (pc : Int) + off = (tgt : Int))
    (kt : x < 0 → xA p l e R s m args below meth c D A nL cells slots Q tgt lv st ws) (kf : ¬ x < 0 → xA p l e R s m args below meth c D A nL cells slots Q (pc + 3) lv st ws) : xA p l e R s m args below meth c D A nL cells slots Q pc lv (.int x :: st) ws := fun H locs ls hP hD hS hl => lv_if_lt C.1 C.2.1 hd ht (fun h => kt h H locs ls hP hD hS hl) (fun h => kf h H locs ls hP hD hS hl)
theorem x_icmp_lt (C : xC p s m args meth c cc nL own Ts D tys A ret) {x y : Int32} {off : Int} (tgt : Nat) (hd : decode cc pc = .ok (.if_icmp .lt off, 3)) (ht : (pc : Int) + off = (tgt : Int))
    (kt : x < y → xA p l e R s m args below meth c D A nL cells slots Q tgt lv st ws) (kf : ¬ x < y → xA p l e R s m args below meth c D A nL cells slots Q (pc + 3) lv st ws) : xA p l e R s m args below meth c D A nL cells slots Q pc lv (.int y :: .int x :: st) ws := fun H locs ls hP hD hS hl => lv_icmp_lt C.1 C.2.1 hd ht (fun h => kt h H locs ls hP hD hS hl) (fun h => kf h H locs ls hP hD hS hl)
theorem x_if_ge (C : xC p s m args meth c cc nL own Ts D tys A ret) {x : Int32} {off : Int} (tgt : Nat) (hd : decode cc pc = .ok (.ifCond .ge off, 3)) (ht : (pc : Int) + off = (tgt : Int))
    (kt : 0 ≤ x → xA p l e R s m args below meth c D A nL cells slots Q tgt lv st ws) (kf : ¬ 0 ≤ x → xA p l e R s m args below meth c D A nL cells slots Q (pc + 3) lv st ws) : xA p l e R s m args below meth c D A nL cells slots Q pc lv (.int x :: st) ws := fun H locs ls hP hD hS hl => lv_if_ge C.1 C.2.1 hd ht (fun h => kt h H locs ls hP hD hS hl) (fun h => kf h H locs ls hP hD hS hl)
theorem x_icmp_ge (C : xC p s m args meth c cc nL own Ts D tys A ret) {x y : Int32} {off : Int} (tgt : Nat) (hd : decode cc pc = .ok (.if_icmp .ge off, 3)) (ht : (pc : Int) + off = (tgt : Int))
    (kt : y ≤ x → xA p l e R s m args below meth c D A nL cells slots Q tgt lv st ws) (kf : ¬ y ≤ x → xA p l e R s m args below meth c D A nL cells slots Q (pc + 3) lv st ws) : xA p l e R s m args below meth c D A nL cells slots Q pc lv (.int y :: .int x :: st) ws := fun H locs ls hP hD hS hl => lv_icmp_ge C.1 C.2.1 hd ht (fun h => kt h H locs ls hP hD hS hl) (fun h => kf h H locs ls hP hD hS hl)
theorem x_if_gt (C : xC p s m args meth c cc nL own Ts D tys A ret) {x : Int32} {off : Int} (tgt : Nat) (hd : decode cc pc = .ok (.ifCond .gt off, 3)) (ht : (pc : Int) + off = (tgt : Int))
    (kt : 0 < x → xA p l e R s m args below meth c D A nL cells slots Q tgt lv st ws) (kf : ¬ 0 < x → xA p l e R s m args below meth c D A nL cells slots Q (pc + 3) lv st ws) : xA p l e R s m args below meth c D A nL cells slots Q pc lv (.int x :: st) ws := fun H locs ls hP hD hS hl => lv_if_gt C.1 C.2.1 hd ht (fun h => kt h H locs ls hP hD hS hl) (fun h => kf h H locs ls hP hD hS hl)
theorem x_icmp_gt (C : xC p s m args meth c cc nL own Ts D tys A ret) {x y : Int32} {off : Int} (tgt : Nat) (hd : decode cc pc = .ok (.if_icmp .gt off, 3)) (ht : (pc : Int) + off = (tgt : Int))
    (kt : y < x → xA p l e R s m args below meth c D A nL cells slots Q tgt lv st ws) (kf : ¬ y < x → xA p l e R s m args below meth c D A nL cells slots Q (pc + 3) lv st ws) : xA p l e R s m args below meth c D A nL cells slots Q pc lv (.int y :: .int x :: st) ws := fun H locs ls hP hD hS hl => lv_icmp_gt C.1 C.2.1 hd ht (fun h => kt h H locs ls hP hD hS hl) (fun h => kf h H locs ls hP hD hS hl)
theorem x_if_le (C : xC p s m args meth c cc nL own Ts D tys A ret) {x : Int32} {off : Int} (tgt : Nat) (hd : decode cc pc = .ok (.ifCond .le off, 3)) (ht : (pc : Int) + off = (tgt : Int))
    (kt : x ≤ 0 → xA p l e R s m args below meth c D A nL cells slots Q tgt lv st ws) (kf : ¬ x ≤ 0 → xA p l e R s m args below meth c D A nL cells slots Q (pc + 3) lv st ws) : xA p l e R s m args below meth c D A nL cells slots Q pc lv (.int x :: st) ws := fun H locs ls hP hD hS hl => lv_if_le C.1 C.2.1 hd ht (fun h => kt h H locs ls hP hD hS hl) (fun h => kf h H locs ls hP hD hS hl)
theorem x_icmp_le (C : xC p s m args meth c cc nL own Ts D tys A ret) {x y : Int32} {off : Int} (tgt : Nat) (hd : decode cc pc = .ok (.if_icmp .le off, 3)) (ht : (pc : Int) + off = (tgt : Int))
    (kt : x ≤ y → xA p l e R s m args below meth c D A nL cells slots Q tgt lv st ws) (kf : ¬ x ≤ y → xA p l e R s m args below meth c D A nL cells slots Q (pc + 3) lv st ws) : xA p l e R s m args below meth c D A nL cells slots Q pc lv (.int y :: .int x :: st) ws := fun H locs ls hP hD hS hl => lv_icmp_le C.1 C.2.1 hd ht (fun h => kt h H locs ls hP hD hS hl) (fun h => kf h H locs ls hP hD hS hl)
theorem x_goto (C : xC p s m args meth c cc nL own Ts D tys A ret) {off : Int} (tgt : Nat) (hd : decode cc pc = .ok (.goto off, 3)) (ht : (pc : Int) + off = (tgt : Int)) (k : xA p l e R s m args below meth c D A nL cells slots Q tgt lv st ws) : xA p l e R s m args below meth c D A nL cells slots Q pc lv st ws := fun H locs ls hP hD hS hl => lv_goto C.1 C.2.1 hd ht (k H locs ls hP hD hS hl)
theorem x_ldc (C : xC p s m args meth c cc nL own Ts D tys A ret) {index : Nat} {v : Int32} (hc : Cond.constant own index v ∈ Ts) (hd : decode cc pc = .ok (.ldc index, 2)) (k : xA p l e R s m args below meth c D A nL cells slots Q (pc + 2) lv (.int v :: st) ws) : xA p l e R s m args below meth c D A nL cells slots Q pc lv st ws := fun H locs ls hP hD hS hl => lv_ldc C.1 C.2.1 C.2.2.2.1 (C.2.2.2.2.1 _ hc) hd (k H locs ls hP hD hS hl)
theorem x_min (C : xC p s m args meth c cc nL own Ts D tys A ret) {index : Nat} {x y v : Int32} (h1 : Cond.methodLink own index Lib.Math.min.name ∈ Ts) (h2 : Cond.static Lib.Math.min.name ∈ Ts) (h3 : Cond.initialized "java/lang/Math" ∈ Ts) (h4 : Cond.code Lib.Math.min.name Lib.Math.min.code 2 (some .int) ∈ Ts)
    (hr : 1 ≤ R.frames ∧ (st.map fun v => v.category).sum + 13 ≤ R.locals ∧ cells ≤ R.cells ∧ slots ≤ R.slots) (hd : decode cc pc = .ok (.invokestatic index, 3)) (hv : (if y < x then y else x) = v)
    (k : xA p l e R s m args below meth c D A nL cells slots Q (pc + 3) lv (.int v :: st) ws) : xA p l e R s m args below meth c D A nL cells slots Q pc lv (.int y :: .int x :: st) ws := fun H locs ls hP hD hS hl => va_mmin C.1 C.2.1 (C.2.2.1.trans hl.1.symm) C.2.2.2.1 (C.2.2.2.2.1 _ h1) (C.2.2.2.2.1 _ h2) (C.2.2.2.2.1 _ h3) (C.2.2.2.2.1 _ h4) hr.1 hr.2.1 hr.2.2.1 hr.2.2.2 hd (hv ▸ k H locs ls hP hD hS hl)
theorem x_max (C : xC p s m args meth c cc nL own Ts D tys A ret) {index : Nat} {x y v : Int32} (h1 : Cond.methodLink own index Lib.Math.max.name ∈ Ts) (h2 : Cond.static Lib.Math.max.name ∈ Ts) (h3 : Cond.initialized "java/lang/Math" ∈ Ts) (h4 : Cond.code Lib.Math.max.name Lib.Math.max.code 2 (some .int) ∈ Ts)
    (hr : 1 ≤ R.frames ∧ (st.map fun v => v.category).sum + 13 ≤ R.locals ∧ cells ≤ R.cells ∧ slots ≤ R.slots) (hd : decode cc pc = .ok (.invokestatic index, 3)) (hv : (if x < y then y else x) = v)
    (k : xA p l e R s m args below meth c D A nL cells slots Q (pc + 3) lv (.int v :: st) ws) : xA p l e R s m args below meth c D A nL cells slots Q pc lv (.int y :: .int x :: st) ws := fun H locs ls hP hD hS hl => va_mmax C.1 C.2.1 (C.2.2.1.trans hl.1.symm) C.2.2.2.1 (C.2.2.2.2.1 _ h1) (C.2.2.2.2.1 _ h2) (C.2.2.2.2.1 _ h3) (C.2.2.2.2.1 _ h4) hr.1 hr.2.1 hr.2.2.1 hr.2.2.2 hd (hv ▸ k H locs ls hP hD hS hl)

theorem x_get (C : xC p s m args meth c cc nL own Ts D tys A ret) {n : Nat} {a : Nat → Nat} {E : Nat → va_E} {X : va_W} {p0 ci N index : Nat} {Cn ref : String} {T : u_T} {fs : List Value} {v : Value} (hp : p0 < n) (he : E p0 = .inr (ci, fs)) (hc : vwCl[ci]? = some (Cn, T, N)) (k : Nat) (hk : k < N) (hin : ∀ w ∈ u_ws Cn T N, w ∈ Ts) (hlink : Cond.fieldLink own index ref (T k).2.1 (T k).2.2.1 ∈ Ts) (hsame : (T k).1 = ref) (hv : fs[k]? = some v) (hd : decode cc pc = .ok (.getfield index, 3))
    (kk : xA p l e R s m args below meth c D A nL cells slots Q (pc + 3) lv (v :: st) (xw n a E ++ X)) : xA p l e R s m args below meth c D A nL cells slots Q pc lv (.ref (a p0) :: st) (xw n a E ++ X) :=
  fun H locs ls hP hD hS hl => va_get C.1 C.2.1 C.2.2.2.2.1 hin C.2.2.2.1 C.2.2.2.2.2.1 hP p0 ((xw_get hp).trans (by rw [he])) hc k hk (C.2.2.2.2.1 _ hlink) (by rw [← hsame]; exact fun _ h9 => h9) hv hd (kk H locs ls hP hD hS hl)
theorem x_put (C : xC p s m args meth c cc nL own Ts D tys A ret) {n : Nat} {a : Nat → Nat} {E E' : Nat → va_E} {X : va_W} {p0 ci N index : Nat} {Cn ref : String} {T : u_T} {fs : List Value} {v : Value} {ty : FieldType} (ty0 : Nat → FieldType) (hty : ∀ k, k < N → parseFieldDescriptor (T k).2.2.1 = some (ty0 k)) (hnm : ∀ a, a < N → ∀ b, b < N → a ≠ b → (T a).2.1 ≠ (T b).2.1) (hp : p0 < n) (he : E p0 = .inr (ci, fs)) (hc : vwCl[ci]? = some (Cn, T, N)) (k : Nat) (hk : k < N) (hin : ∀ w ∈ u_ws Cn T N, w ∈ Ts) (hlink : Cond.fieldLink own index ref (T k).2.1 (T k).2.2.1 ∈ Ts) (hsame : (T k).1 = ref) (hfin : (T k).2.2.2 = false) (htk : ty0 k = ty) (hn : narrow ty v = v) (hfit : fits ty v = true) (hlen : k < fs.length) (hd : decode cc pc = .ok (.putfield index, 3))
    (hE : E' p0 = .inr (ci, fs.set k v)) (ho : ∀ q, q ≠ p0 → E' q = E q)
    (kk : xA p l e R s m args below meth c D A nL cells slots Q (pc + 3) lv st (xw n a E' ++ X)) : xA p l e R s m args below meth c D A nL cells slots Q pc lv (v :: .ref (a p0) :: st) (xw n a E ++ X) :=
  fun H locs ls hP hD hS hl => va_put C.1 C.2.1 C.2.2.2.2.1 hin ty0 hty hnm C.2.2.2.1 C.2.2.2.2.2.1 hP hD hS p0 ((xw_get hp).trans (by rw [he])) hc k hk (C.2.2.2.2.1 _ hlink) (by rw [← hsame]; exact fun _ h9 => h9) hfin (by rw [hty k hk, htk]) hn hfit hlen hd (fun H1 locs1 hP1 hD1 hS1 => kk H1 locs1 ls (xw_set hp hE ho ▸ hP1) (xw_set hp hE ho ▸ hD1) hS1 hl)
theorem x_putF (C : xC p s m args meth c cc nL own Ts D tys A ret) {n : Nat} {a : Nat → Nat} {E E' : Nat → va_E} {X : va_W} {p0 ci N index : Nat} {Cn ref : String} {T : u_T} {fs : List Value} {v : Value} {ty : FieldType} (ty0 : Nat → FieldType) (hty : ∀ k, k < N → parseFieldDescriptor (T k).2.2.1 = some (ty0 k)) (hnm : ∀ a, a < N → ∀ b, b < N → a ≠ b → (T a).2.1 ≠ (T b).2.1) (hp : p0 < n) (he : E p0 = .inr (ci, fs)) (hc : vwCl[ci]? = some (Cn, T, N)) (k : Nat) (hk : k < N) (hin : ∀ w ∈ u_ws Cn T N, w ∈ Ts) (hlink : Cond.fieldLink own index ref (T k).2.1 (T k).2.2.1 ∈ Ts) (hsame : (T k).1 = ref) (hfin : (T k).2.2.2 = true) (hini : meth.name = "<init>") (hown : (T k).1 = own) (htk : ty0 k = ty) (hn : narrow ty v = v) (hfit : fits ty v = true) (hlen : k < fs.length) (hd : decode cc pc = .ok (.putfield index, 3))
    (hE : E' p0 = .inr (ci, fs.set k v)) (ho : ∀ q, q ≠ p0 → E' q = E q)
    (kk : xA p l e R s m args below meth c D A nL cells slots Q (pc + 3) lv st (xw n a E' ++ X)) : xA p l e R s m args below meth c D A nL cells slots Q pc lv (v :: .ref (a p0) :: st) (xw n a E ++ X) :=
  fun H locs ls hP hD hS hl => va_putF C.1 C.2.1 C.2.2.2.2.1 hin ty0 hty hnm C.2.2.2.1 C.2.2.2.2.2.1 hP hD hS p0 ((xw_get hp).trans (by rw [he])) hc k hk (C.2.2.2.2.1 _ hlink) (by rw [← hsame]; exact fun _ h9 => h9) hfin hini hown (by rw [hty k hk, htk]) hn hfit hlen hd (fun H1 locs1 hP1 hD1 hS1 => kk H1 locs1 ls (xw_set hp hE ho ▸ hP1) (xw_set hp hE ho ▸ hD1) hS1 hl)
theorem x_iald (C : xC p s m args meth c cc nL own Ts D tys A ret) {n : Nat} {a : Nat → Nat} {E : Nat → va_E} {X : va_W} {p0 t0 len : Nat} {cA : ClassId} {f : Nat → Int32} {i v : Int32} (hp : p0 < n) (he : E p0 = .inl (cA, len, .inl f)) (ht : tys[t0]? = some (cA, .int)) (hi : vp_in i len) (hv : f i.toNatClampNeg = v) (hd : decode cc pc = .ok (.iaload, 1))
    (kk : xA p l e R s m args below meth c D A nL cells slots Q (pc + 1) lv (.int v :: st) (xw n a E ++ X)) : xA p l e R s m args below meth c D A nL cells slots Q pc lv (.int i :: .ref (a p0) :: st) (xw n a E ++ X) :=
  fun H locs ls hP hD hS hl => va_iald C.1 C.2.1 C.2.2.2.2.2.1 hP p0 t0 ((xw_get hp).trans (by rw [he])) ht hi hd (hv ▸ kk H locs ls hP hD hS hl)
theorem x_zald (C : xC p s m args meth c cc nL own Ts D tys A ret) {n : Nat} {a : Nat → Nat} {E : Nat → va_E} {X : va_W} {p0 t0 len : Nat} {cA : ClassId} {f : Nat → Int32} {i v : Int32} (hp : p0 < n) (he : E p0 = .inl (cA, len, .inl f)) (ht : tys[t0]? = some (cA, .boolean)) (hi : vp_in i len) (hv : f i.toNatClampNeg = v) (hd : decode cc pc = .ok (.baload, 1))
    (kk : xA p l e R s m args below meth c D A nL cells slots Q (pc + 1) lv (.int v :: st) (xw n a E ++ X)) : xA p l e R s m args below meth c D A nL cells slots Q pc lv (.int i :: .ref (a p0) :: st) (xw n a E ++ X) :=
  fun H locs ls hP hD hS hl => va_zald C.1 C.2.1 C.2.2.2.2.2.1 hP p0 t0 ((xw_get hp).trans (by rw [he])) ht hi hd (hv ▸ kk H locs ls hP hD hS hl)
theorem x_iast (C : xC p s m args meth c cc nL own Ts D tys A ret) {n : Nat} {a : Nat → Nat} {E E' : Nat → va_E} {X : va_W} {p0 t0 len : Nat} {cA : ClassId} {f : Nat → Int32} {i x : Int32} (hp : p0 < n) (he : E p0 = .inl (cA, len, .inl f)) (ht : tys[t0]? = some (cA, .int)) (hi : vp_in i len) (hd : decode cc pc = .ok (.iastore, 1))
    (hE : E' p0 = .inl (cA, len, .inl (upd f i.toNatClampNeg x))) (ho : ∀ q, q ≠ p0 → E' q = E q)
    (kk : xA p l e R s m args below meth c D A nL cells slots Q (pc + 1) lv st (xw n a E' ++ X)) : xA p l e R s m args below meth c D A nL cells slots Q pc lv (.int x :: .int i :: .ref (a p0) :: st) (xw n a E ++ X) :=
  fun H locs ls hP hD hS hl => va_iast C.1 C.2.1 C.2.2.2.2.2.1 hP hD hS p0 t0 ((xw_get hp).trans (by rw [he])) ht hi hd (fun H1 locs1 hP1 hD1 hS1 => kk H1 locs1 ls (xw_set hp hE ho ▸ hP1) (xw_set hp hE ho ▸ hD1) hS1 hl)
theorem x_zast (C : xC p s m args meth c cc nL own Ts D tys A ret) {n : Nat} {a : Nat → Nat} {E E' : Nat → va_E} {X : va_W} {p0 t0 len : Nat} {cA : ClassId} {f : Nat → Int32} {i x : Int32} (hp : p0 < n) (he : E p0 = .inl (cA, len, .inl f)) (ht : tys[t0]? = some (cA, .boolean)) (hi : vp_in i len) (hx : vp_nar .boolean x = x) (hd : decode cc pc = .ok (.bastore, 1))
    (hE : E' p0 = .inl (cA, len, .inl (upd f i.toNatClampNeg x))) (ho : ∀ q, q ≠ p0 → E' q = E q)
    (kk : xA p l e R s m args below meth c D A nL cells slots Q (pc + 1) lv st (xw n a E' ++ X)) : xA p l e R s m args below meth c D A nL cells slots Q pc lv (.int x :: .int i :: .ref (a p0) :: st) (xw n a E ++ X) :=
  fun H locs ls hP hD hS hl => va_zast C.1 C.2.1 C.2.2.2.2.2.1 hP hD hS p0 t0 ((xw_get hp).trans (by rw [he])) ht hi hd (fun H1 locs1 hP1 hD1 hS1 => by rw [hx] at hP1 hD1; exact kk H1 locs1 ls (xw_set hp hE ho ▸ hP1) (xw_set hp hE ho ▸ hD1) hS1 hl)
theorem x_aald (C : xC p s m args meth c cc nL own Ts D tys A ret) {n : Nat} {a : Nat → Nat} {E : Nat → va_E} {X : va_W} {p0 t0 len v : Nat} {cA : ClassId} {f : Nat → Option Nat} {i : Int32} {ty : FieldType} (hp : p0 < n) (he : E p0 = .inl (cA, len, .inr (.inr (.inr (.inr f))))) (ht : tys[t0]? = some (cA, ty)) (hty : ty.isReference = true) (hi : vp_in i len) (hv : f i.toNatClampNeg = some v) (hd : decode cc pc = .ok (.aaload, 1))
    (kk : xA p l e R s m args below meth c D A nL cells slots Q (pc + 1) lv (.ref v :: st) (xw n a E ++ X)) : xA p l e R s m args below meth c D A nL cells slots Q pc lv (.int i :: .ref (a p0) :: st) (xw n a E ++ X) := by
  intro H locs ls hP hD hS hl
  have hlt : i.toNatClampNeg < len := Nat.not_le.mp fun q => hi (Or.inr q)
  have ha := hP p0 _ ((xw_get hp).trans (by rw [he]))
  exact W.aald (v := .ref v) (ty := ty) C.1 C.2.1 ha ((C.2.2.2.2.2.1.2 t0 _ ht).1 len (fun j => va_rf (f j))) hty (fun q => by cases q) (by show ¬ (i < 0 ∨ (arrV _ _ _).slots.size ≤ _); rw [arrV_size]; exact hi) (by show (arrV _ _ _).slots[_]? = _; rw [arrV_read _ _ hlt, hv]; rfl) rfl rfl hd (kk H locs ls hP hD hS hl)
end XK
/-! ===== END kernel ===== -/
end
section
/-! ===== BEGIN calls: the environment, contracts, ends, calls over the packed goal ===== -/
abbrev xIO : String := "java/lang/IndexOutOfBoundsException"
abbrev xIA : String := "java/lang/IllegalArgumentException"
abbrev xIS : String := "java/lang/IllegalStateException"
/-- words that no method's own list may carry, the class's and the catches' -/
def xEw : List Cond := [.methodLinkNest RX2 50 yX3_has "Ringroll", .methodLinkNest RX0 57 yX3_has "Ringroll", .castable xIO xIO, .castable xIA xIA, .castable xIS xIS, .declares (Bundle.initS "java/lang/RuntimeException"), .declares (Bundle.initS "java/lang/Exception"), .declares (Bundle.initS Bundle.tN)]
def xEn : List (String × String) := [(xIO, xIA), (xIO, xIS), (xIA, xIO), (xIA, xIS), (xIS, xIO), (xIS, xIA)]
def xEs : List (Nat × String) := [(124, "the device is not on trial"), (149, "no room for another campaign"), (210, "no such device"), (212, "no such campaign"), (214, "no such version"), (217, "a value is out of range"), (68, "a delta leads to another version"), (85, "no such kind"), (90, "no room for another device"), (97, "the version may not run on the kind")]
def xE (A : Nat → Prop) (U : State) : Prop := (∀ w ∈ xEw, va_Nw w U) ∧ (∀ q ∈ xEn, va_Nc q.1 q.2 U) ∧ (∀ q ∈ xEs, ∃ sa : Nat, vk_R RX3 q.1 q.2 sa U) ∧ vx_Zq Bundle.tN "UNASSIGNED_STACK" Bundle.steD A U U.heap ∧ vx_Zq Bundle.tN "SUPPRESSED_SENTINEL" Bundle.listD A U U.heap
theorem xE.at {A : Nat → Prop} {s U : State} {H : Heap} {locs : List Loc} (h : xE A s) (hS : va_S A s.heap H locs) (hU : U.heap = H) (hW : s.WarmedH U.vm) : xE A U := by
  obtain ⟨h1, h2, h3, h4, h5⟩ := h
  refine ⟨fun w hw => ?_, fun q hq => va_Nc.moved hW.alike (h2 q hq), fun q hq => ?_, ?_, ?_⟩
  · have h9 := h1 w hw
    simp only [xEw, List.mem_cons, List.not_mem_nil, or_false] at hw
    rcases hw with rfl | rfl | rfl | rfl | rfl | rfl | rfl | rfl
    · exact va_Nw.warmM hW h9
    · exact va_Nw.warmM hW h9
    · exact va_Nw.warmC hW h9
    · exact va_Nw.warmC hW h9
    · exact va_Nw.warmC hW h9
    · exact va_Nw.warmD hW h9
    · exact va_Nw.warmD hW h9
    · exact va_Nw.warmD hW h9
  · obtain ⟨sa, hs⟩ := h3 q hq
    exact ⟨sa, vk_R.warm hW hs⟩
  · rw [hU]; exact vx_Zq.moved hW.alike (h4.kept hS.2.1)
  · rw [hU]; exact vx_Zq.moved hW.alike (h5.kept hS.2.1)
theorem xE.calling {A : Nat → Prop} {U : State} {g : JFrame} {mk : MethodId} {a : Array Value} (h : xE A U) : xE A (U.calling g mk a) := by
  obtain ⟨h1, h2, h3, h4, h5⟩ := h
  refine ⟨fun w hw => ?_, fun q hq => va_Nc.moved (u := U) (U := U.calling g mk a) (Vm.Alike.refl U.vm) (h2 q hq), fun q hq => ?_, vx_Zq.moved (u := U) (U := U.calling g mk a) (Vm.Alike.refl U.vm) h4, vx_Zq.moved (u := U) (U := U.calling g mk a) (Vm.Alike.refl U.vm) h5⟩
  · have h9 := h1 w hw
    have ho : w.onTables = true := by
      simp only [xEw, List.mem_cons, List.not_mem_nil, or_false] at hw
      rcases hw with rfl | rfl | rfl | rfl | rfl | rfl | rfl | rfl <;> rfl
    exact va_Nw.same (u := U) (U := U.calling g mk a) ho rfl h9
  · obtain ⟨sa, hs⟩ := h3 q hq
    exact ⟨sa, vk_R.same (u := U) (U := U.calling g mk a) rfl hs⟩
def xPre (D : va_G) (tys : List (ClassId × FieldType)) (A : Nat → Prop) (ws : va_W) (U : State) : Prop := (∀ q, U.heap.size ≤ q → A q) ∧ va_P D vwCl ws U.heap ∧ va_K D vwCl tys U ∧ va_D A ws ∧ xE A U
def xPost (D : va_G) (tys : List (ClassId × FieldType)) (A : Nat → Prop) (ws : va_W) (t : State) : Prop := va_P D vwCl ws t.heap ∧ va_K D vwCl tys t ∧ va_D A ws
theorem xPre.blind {D : va_G} {tys : List (ClassId × FieldType)} {A : Nat → Prop} {ws : va_W} {av : List Value} : FrameBlind (va_Pc av (xPre D tys A ws)) := by
  intro a U g mk h
  obtain ⟨h0, h1, h2, h3, h4, h5⟩ := h
  exact ⟨h0, h1, h2, va_K.moved (u := U) (U := U.calling g mk a) (Vm.Alike.refl U.vm) h3, h4, h5.calling⟩
/-- thrown: which class, and the world as it was -/
def xX (D : va_G) (tys : List (ClassId × FieldType)) (A : Nat → Prop) (ws : va_W) (ex : Option String) : String → State → State → Prop := vx_X (fun _ : Unit => True) (fun E _ t => ex = some E ∧ xPost D tys A ws t) A
section VXR
variable {p : Program} {l : Launch} {e : Env} {R : Room} {s : State} {m : MethodId} {args : Array Value} {below : List Frame} {meth : Method} {c : Code} {H : Heap} {locs : List Loc} {cells slots : Nat} {Q : State → Prop}
variable {mc ms : Nat} {free : Addr → Prop} {A0 A1 : Nat → Prop} {H0 : Heap} {a : Array Value} {pc : Nat} {ls : Array Slot} {st0 rest : List Value}
/-- as vx_callv, the answer a cell -/
theorem vx_callr {S SX : Type} {post : S → Prop} {px : SX → Prop} {B : S → Nat → State → Prop} {BX : String → SX → State → Prop} {AX : Nat → Prop} (hr : vx_Run p l e R s m args below meth c H locs cells slots mc ms (F0 m pc ls st0) rest (va_Qr post B A1 a) (vx_X px BX AX) free) (hS : va_S A0 H0 H locs) (hA : ∀ q, q < H.size → A1 q → A0 q) (hf : ∀ q, free q → A0 q) (hAX : ∀ q, q < H.size → AX q → A0 q)
    (kx : ∀ (E : String) (ce : Cell) (q9 : Addr) (u : SX) (t : State) (H1 : Heap) (locs1 : List Loc), t.heap = H1 → s.vm.Alike t.vm → px u → BX E u t → H.size ≤ H1.size → (∀ q : Nat, q < H.size → ¬ AX q → H1[q]? = H[q]?) → va_S A0 H0 H1 locs1 → H1[q9]? = some ce → ce.vm = .none → s.vm.findClass E = some ce.cls → vx_W p l e R s m args below meth c H1 locs1 (cells + mc) (slots + ms) Q (F0 m pc ls rest) q9)
    (kk : ∀ (u : S) (ra : Nat) (t : State) (H1 : Heap) (locs1 : List Loc), t.heap = H1 → s.vm.Alike t.vm → post u → B u ra t → H.size ≤ H1.size → (∀ q : Nat, q < H.size → ¬ A1 q → H1[q]? = H[q]?) → va_S A0 H0 H1 locs1 → W p l e R s m args below meth c H1 locs1 (cells + mc) (slots + ms) Q (F0 m (pc + 3) ls (.ref ra :: rest))) : W p l e R s m args below meth c H locs cells slots Q (F0 m pc ls st0) := by
  intro T hT X
  rcases hr T hT X with ⟨v, st₀, t, T', L, h0, X', hL, e1, e2, ⟨⟨u, ra, hv, hp, hb⟩, hF⟩, st⟩ | ⟨q, st₀, t, T', L, E, ce, h0, X', hL, e1, e2, ⟨u, hp, hb, hF⟩, hce, hcv, hcl, st⟩
  · cases hv
    obtain ⟨k1, k2, k3⟩ := vx_keep h0 e1 hS hA hf hL hF
    obtain ⟨t2, a1, b1⟩ := kk u ra t T'.heap (locs ++ L) e1.symm (by rw [← e2]; exact X'.warmed.alike) hp hb k1 k2 k3 T' rfl X'
    exact ⟨t2, st t2 a1, b1⟩
  · obtain ⟨k1, k2, k3⟩ := vx_keep h0 e1 hS hAX hf hL hF
    obtain ⟨t2, a1, b1⟩ := kx E ce q u t T'.heap (locs ++ L) e1.symm (by rw [← e2]; exact X'.warmed.alike) hp hb k1 k2 k3 (by rw [e1]; exact hce) hcv hcl T' rfl X'
    exact ⟨t2, st.trans a1, b1⟩
end VXR
section XCALL
variable {p : Program} {l : Launch} {e : Env} {R : Room} {s : State} {m : MethodId} {args : Array Value} {below : List Frame} {meth : Method} {c : Code} {cells slots : Nat} {Q : State → Prop} {cc : ByteArray} {nL : Nat} {own : String} {Ts : List Cond} {D : va_G} {tys : List (ClassId × FieldType)} {A : Nat → Prop} {ret : Option FieldType} {pc : Nat} {lv : List (Nat × Value)} {st : List Value} {ws : va_W}
theorem xPre.at {H : Heap} {locs : List Loc} (C : xC p s m args meth c cc nL own Ts D tys A ret) (hE : xE A s) (hP : va_P D vwCl ws H) (hD : va_D A ws) (hS : va_S A s.heap H locs) : ∀ U : State, U.heap = H → s.WarmedH U.vm → xPre D tys A ws U := fun U hU hW =>
  ⟨fun q hq => C.2.2.2.2.2.2.1 q (Nat.le_trans hS.1 (hU ▸ hq)), hU ▸ hP, va_K.moved hW.alike C.2.2.2.2.2.1, hD, hE.at hS hU hW⟩
theorem xPost.at {H : Heap} (C : xC p s m args meth c cc nL own Ts D tys A ret) (hP : va_P D vwCl ws H) (hD : va_D A ws) {t : State} (ht : t.heap = H) (hW : s.vm.Alike t.vm) : xPost D tys A ws t := ⟨ht ▸ hP, va_K.moved hW C.2.2.2.2.2.1, hD⟩
/-- a method's contract out of its walk -/
theorem x_met {y : MethodName} {ws' : List Cond} {rm : Room} {av : List Value} {mc ms : Nat} {Qc : Array Value → State → Outcome → State → Prop} (hy : plainName y.cls = true) (hown : y.cls = own) (hw : Ts = Cond.code y cc nL ret :: ws') (hlen : (lg_sl av).length ≤ nL) (hcat : (lv_args 0 av).all (fun q => q.2.category == 1) = true)
    (body : ∀ p e s m below meth c, meth.name = y.name → xC p s m av.toArray meth c cc nL own Ts D tys A ret → xE A s → xA p l e rm s m av.toArray below meth c D A nL 0 0 (MQ below Qc av.toArray s mc ms A) 0 (lv_args 0 av) [] ws) : Met l y Ts rm (va_Pc av (xPre D tys A ws)) Qc mc ms A := by
  refine Met.ofW (cc := cc) (maxL := nL) (ret := ret) hy hw ?_
  intro p e s m args below meth c s₁ B hml hv
  obtain ⟨rfl, hA, hP, hK, hD, hE⟩ := hv
  have hl := lv_entry av (n := nL) hlen
  rw [lg_entry_eq]
  exact body p e s m below meth c (name_of_methodNamed B.named B.method).1 ⟨B.exec, B.bytes, hml, by rw [← hown]; exact findClass_of_methodNamed B.named, atoms_spec (ws := Ts) B.pre, hK, hA, B.notSynchronized, B.returns⟩ hE s.heap [] _ hP hD va_S.rf (lvx.of hl hcat)
theorem x_metX {y : MethodName} {ws' : List Cond} {rm : Room} {av : List Value} {mc ms : Nat} {Qc : Array Value → State → Outcome → State → Prop} {XC : String → State → State → Prop} (hy : plainName y.cls = true) (hown : y.cls = own) (hw : Ts = Cond.code y cc nL ret :: ws') (hlen : (lg_sl av).length ≤ nL) (hcat : (lv_args 0 av).all (fun q => q.2.category == 1) = true)
    (body : ∀ p e s m below meth c, (∀ x ∈ c.exceptionTable.toList, False) → xC p s m av.toArray meth c cc nL own Ts D tys A ret → xE A s → xA p l e rm s m av.toArray below meth c D A nL 0 0 (vx_MQ below Qc XC av.toArray s mc ms A) 0 (lv_args 0 av) [] ws) : vx_Met l y Ts rm (va_Pc av (xPre D tys A ws)) Qc XC mc ms A := by
  refine vx_ofW (cc := cc) (maxL := nL) (ret := ret) hy hw ?_
  intro p e s m args below meth c s₁ B hml hout hv
  obtain ⟨rfl, hA, hP, hK, hD, hE⟩ := hv
  have hl := lv_entry av (n := nL) hlen
  rw [lg_entry_eq]
  exact body p e s m below meth c hout ⟨B.exec, B.bytes, hml, by rw [← hown]; exact findClass_of_methodNamed B.named, atoms_spec (ws := Ts) B.pre, hK, hA, B.notSynchronized, B.returns⟩ hE s.heap [] _ hP hD va_S.rf (lvx.of hl hcat)

theorem x_iret {σ : Type} {Wf : σ → va_W} {post : Int32 → σ → Prop} {u : σ}  {v : Int32} {mc ms : Nat} (C : xC p s m args meth c cc nL own Ts D tys A (some .int)) (hd : decode cc pc = .ok (.ireturn, 1)) (hc : cells ≤ mc ∧ slots ≤ ms)  (hp : post v u) : xA p l e R s m args below meth c D A nL cells slots (MQ below (va_Qi post (fun u t => xPost D tys A (Wf u) t) A) args s mc ms A) pc lv [.int v] (Wf u) := fun H locs ls hP hD hS hl =>
  W.widen hc.1 hc.2 (W.iret (v := v) C.1 C.2.1 C.2.2.2.2.2.2.2.2 (fun t ht hW => ⟨⟨v, u, rfl, hp, xPost.at C hP hD ht hW.alike⟩, hS.F ht⟩) hS.2.2 hd C.2.2.2.2.2.2.2.1)
theorem x_iretX {σ : Type} {Wf : σ → va_W} {post : Int32 → σ → Prop} {u : σ}  {v : Int32} {mc ms : Nat} {XC : String → State → State → Prop} (C : xC p s m args meth c cc nL own Ts D tys A (some .int)) (hd : decode cc pc = .ok (.ireturn, 1)) (hc : cells ≤ mc ∧ slots ≤ ms)  (hp : post v u) : xA p l e R s m args below meth c D A nL cells slots (vx_MQ below (va_Qi post (fun u t => xPost D tys A (Wf u) t) A) XC args s mc ms A) pc lv [.int v] (Wf u) := fun H locs ls hP hD hS hl =>
  W.widen hc.1 hc.2 (vx_ret (W.iret (v := v) C.1 C.2.1 C.2.2.2.2.2.2.2.2 (fun t ht hW => ⟨⟨v, u, rfl, hp, xPost.at C hP hD ht hW.alike⟩, hS.F ht⟩) hS.2.2 hd C.2.2.2.2.2.2.2.1))
theorem x_zret {σ : Type} {Wf : σ → va_W} {post : Int32 → σ → Prop} {u : σ}  {v : Int32} {mc ms : Nat} (C : xC p s m args meth c cc nL own Ts D tys A (some .boolean)) (hd : decode cc pc = .ok (.ireturn, 1)) (hc : cells ≤ mc ∧ slots ≤ ms) (hn : narrow .boolean (.int v) = .int v) (hp : post v u) : xA p l e R s m args below meth c D A nL cells slots (MQ below (va_Qi post (fun u t => xPost D tys A (Wf u) t) A) args s mc ms A) pc lv [.int v] (Wf u) := fun H locs ls hP hD hS hl =>
  W.widen hc.1 hc.2 (W.zret (v := v) C.1 C.2.1 C.2.2.2.2.2.2.2.2 hn (fun t ht hW => ⟨⟨v, u, rfl, hp, xPost.at C hP hD ht hW.alike⟩, hS.F ht⟩) hS.2.2 hd C.2.2.2.2.2.2.2.1)
theorem x_zretX {σ : Type} {Wf : σ → va_W} {post : Int32 → σ → Prop} {u : σ}  {v : Int32} {mc ms : Nat} {XC : String → State → State → Prop} (C : xC p s m args meth c cc nL own Ts D tys A (some .boolean)) (hd : decode cc pc = .ok (.ireturn, 1)) (hc : cells ≤ mc ∧ slots ≤ ms) (hn : narrow .boolean (.int v) = .int v) (hp : post v u) : xA p l e R s m args below meth c D A nL cells slots (vx_MQ below (va_Qi post (fun u t => xPost D tys A (Wf u) t) A) XC args s mc ms A) pc lv [.int v] (Wf u) := fun H locs ls hP hD hS hl =>
  W.widen hc.1 hc.2 (vx_ret (W.zret (v := v) C.1 C.2.1 C.2.2.2.2.2.2.2.2 hn (fun t ht hW => ⟨⟨v, u, rfl, hp, xPost.at C hP hD ht hW.alike⟩, hS.F ht⟩) hS.2.2 hd C.2.2.2.2.2.2.2.1))
theorem x_vret {σ : Type} {Wf : σ → va_W} {post : σ → Prop} {u : σ}   {mc ms : Nat} (C : xC p s m args meth c cc nL own Ts D tys A none) (hd : decode cc pc = .ok (.return_, 1)) (hc : cells ≤ mc ∧ slots ≤ ms)  (hp : post u) : xA p l e R s m args below meth c D A nL cells slots (MQ below (va_Qv post (fun u t => xPost D tys A (Wf u) t) A) args s mc ms A) pc lv [] (Wf u) := fun H locs ls hP hD hS hl =>
  W.widen hc.1 hc.2 (W.vret C.1 C.2.1 C.2.2.2.2.2.2.2.2 (fun t ht hW => ⟨⟨u, rfl, hp, xPost.at C hP hD ht hW.alike⟩, hS.F ht⟩) hS.2.2 hd C.2.2.2.2.2.2.2.1)
theorem x_vretX {σ : Type} {Wf : σ → va_W} {post : σ → Prop} {u : σ}   {mc ms : Nat} {XC : String → State → State → Prop} (C : xC p s m args meth c cc nL own Ts D tys A none) (hd : decode cc pc = .ok (.return_, 1)) (hc : cells ≤ mc ∧ slots ≤ ms)  (hp : post u) : xA p l e R s m args below meth c D A nL cells slots (vx_MQ below (va_Qv post (fun u t => xPost D tys A (Wf u) t) A) XC args s mc ms A) pc lv [] (Wf u) := fun H locs ls hP hD hS hl =>
  W.widen hc.1 hc.2 (vx_ret (W.vret C.1 C.2.1 C.2.2.2.2.2.2.2.2 (fun t ht hW => ⟨⟨u, rfl, hp, xPost.at C hP hD ht hW.alike⟩, hS.F ht⟩) hS.2.2 hd C.2.2.2.2.2.2.2.1))
theorem x_rret {σ : Type} {Wf : σ → va_W} {post : σ → Prop} {u : σ} {B : σ → Nat → Prop} {v : Nat} {rt : FieldType} {mc ms : Nat} (C : xC p s m args meth c cc nL own Ts D tys A (some rt)) (hd : decode cc pc = .ok (.areturn, 1)) (hc : cells ≤ mc ∧ slots ≤ ms) (hrt : (∃ n, rt = .object n) ∨ ∃ t, rt = .array t) (hB : B u v) (hp : post u) : xA p l e R s m args below meth c D A nL cells slots (MQ below (va_Qr post (fun u v t => B u v ∧ xPost D tys A (Wf u) t) A) args s mc ms A) pc lv [.ref v] (Wf u) := fun H locs ls hP hD hS hl =>
  W.widen hc.1 hc.2 (W.aret (v := .ref v) C.1 C.2.1 C.2.2.2.2.2.2.2.2 hrt (Or.inr ⟨v, rfl⟩) (fun t ht hW => ⟨⟨u, v, rfl, hp, hB, xPost.at C hP hD ht hW.alike⟩, hS.F ht⟩) hS.2.2 hd C.2.2.2.2.2.2.2.1)
theorem x_rretX {σ : Type} {Wf : σ → va_W} {post : σ → Prop} {u : σ} {B : σ → Nat → Prop} {v : Nat} {rt : FieldType} {mc ms : Nat} {XC : String → State → State → Prop} (C : xC p s m args meth c cc nL own Ts D tys A (some rt)) (hd : decode cc pc = .ok (.areturn, 1)) (hc : cells ≤ mc ∧ slots ≤ ms) (hrt : (∃ n, rt = .object n) ∨ ∃ t, rt = .array t) (hB : B u v) (hp : post u) : xA p l e R s m args below meth c D A nL cells slots (vx_MQ below (va_Qr post (fun u v t => B u v ∧ xPost D tys A (Wf u) t) A) XC args s mc ms A) pc lv [.ref v] (Wf u) := fun H locs ls hP hD hS hl =>
  W.widen hc.1 hc.2 (vx_ret (W.aret (v := .ref v) C.1 C.2.1 C.2.2.2.2.2.2.2.2 hrt (Or.inr ⟨v, rfl⟩) (fun t ht hW => ⟨⟨u, v, rfl, hp, hB, xPost.at C hP hD ht hW.alike⟩, hS.F ht⟩) hS.2.2 hd C.2.2.2.2.2.2.2.1))
theorem x_callVi {σ : Type} {Wf : σ → va_W} {post : Int32 → σ → Prop}  {b : Nat}  {As : List Value} {Cn : String} {index n maxL' mc ms : Nat} {y : MethodName} {bytes : ByteArray} {ret' : Option FieldType} {ws' : List Cond} {rm : Room} {st0 : List Value} (C : xC p s m args meth c cc nL own Ts D tys A ret) (hE : xE A s) (hM : Met l y ws' rm (va_Pc (.ref b :: As) (xPre D tys A ws)) (va_Qi post (fun u t => xPost D tys A (Wf u) t) A) mc ms A) (cw : CallW R s args own Cn index y bytes maxL' ret' ws' rm mc ms n) {ci : Nat} {fs : List Value} {r0 : vw_C} (q0 : Nat) (he : ws[q0]? = some (b, .inr (ci, fs))) (hcl : vwCl[ci]? = some r0) (hr0 : r0.1 = Cn) (hn : As.length = n) (hst : st0 = As.reverse ++ .ref b :: st) (hW : (st.map fun v => v.category).sum ≤ 8) (hd : decode cc pc = .ok (.invokevirtual index, 3)) (hf : cells + mc ≤ R.cells ∧ slots + ms ≤ R.slots)
    (kk : ∀ (r : Int32) (u : σ), post r u → xA p l e R s m args below meth c D A nL (cells + mc) (slots + ms) Q (pc + 3) lv (.int r :: st) (Wf u)) : xA p l e R s m args below meth c D A nL cells slots Q pc lv st0 ws := by
  subst hst
  intro H locs ls hP hD hS hl
  exact va_calli (va_runV (As := As) (rest := st) ⟨C.1, C.2.1, C.2.2.1, C.2.2.2.1, C.2.2.2.2.1⟩ hM cw ⟨xPre.blind, by have h9 := va_recv C.2.2.2.2.2.1 hP hcl he; rw [hr0] at h9; exact h9, fun U hU hW => ⟨rfl, xPre.at C hE hP hD hS U hU hW⟩⟩ rfl hn hl.1 rfl (lv_room hW) hd hf) hS (fun q _ h => h) (fun q h => h) (fun r u t H1 locs1 ht hvm hp hB hz hk hS1 => kk r u hp H1 locs1 ls (ht ▸ hB.1) hB.2.2 hS1 hl)
theorem x_callVv {σ : Type} {Wf : σ → va_W} {post : σ → Prop}  {b : Nat}  {As : List Value} {Cn : String} {index n maxL' mc ms : Nat} {y : MethodName} {bytes : ByteArray} {ret' : Option FieldType} {ws' : List Cond} {rm : Room} {st0 : List Value} (C : xC p s m args meth c cc nL own Ts D tys A ret) (hE : xE A s) (hM : Met l y ws' rm (va_Pc (.ref b :: As) (xPre D tys A ws)) (va_Qv post (fun u t => xPost D tys A (Wf u) t) A) mc ms A) (cw : CallW R s args own Cn index y bytes maxL' ret' ws' rm mc ms n) {ci : Nat} {fs : List Value} {r0 : vw_C} (q0 : Nat) (he : ws[q0]? = some (b, .inr (ci, fs))) (hcl : vwCl[ci]? = some r0) (hr0 : r0.1 = Cn) (hn : As.length = n) (hst : st0 = As.reverse ++ .ref b :: st) (hW : (st.map fun v => v.category).sum ≤ 8) (hd : decode cc pc = .ok (.invokevirtual index, 3)) (hf : cells + mc ≤ R.cells ∧ slots + ms ≤ R.slots)
    (kk : ∀ (u : σ), post u → xA p l e R s m args below meth c D A nL (cells + mc) (slots + ms) Q (pc + 3) lv st (Wf u)) : xA p l e R s m args below meth c D A nL cells slots Q pc lv st0 ws := by
  subst hst
  intro H locs ls hP hD hS hl
  exact va_callv (va_runV (As := As) (rest := st) ⟨C.1, C.2.1, C.2.2.1, C.2.2.2.1, C.2.2.2.2.1⟩ hM cw ⟨xPre.blind, by have h9 := va_recv C.2.2.2.2.2.1 hP hcl he; rw [hr0] at h9; exact h9, fun U hU hW => ⟨rfl, xPre.at C hE hP hD hS U hU hW⟩⟩ rfl hn hl.1 rfl (lv_room hW) hd hf) hS (fun q _ h => h) (fun q h => h) (fun u t H1 locs1 ht hvm hp hB hz hk hS1 => kk u hp H1 locs1 ls (ht ▸ hB.1) hB.2.2 hS1 hl)
theorem x_callVr {σ : Type} {Wf : σ → va_W} {post : σ → Prop} {B : σ → Nat → Prop} {b : Nat}  {As : List Value} {Cn : String} {index n maxL' mc ms : Nat} {y : MethodName} {bytes : ByteArray} {ret' : Option FieldType} {ws' : List Cond} {rm : Room} {st0 : List Value} (C : xC p s m args meth c cc nL own Ts D tys A ret) (hE : xE A s) (hM : Met l y ws' rm (va_Pc (.ref b :: As) (xPre D tys A ws)) (va_Qr post (fun u v t => B u v ∧ xPost D tys A (Wf u) t) A) mc ms A) (cw : CallW R s args own Cn index y bytes maxL' ret' ws' rm mc ms n) {ci : Nat} {fs : List Value} {r0 : vw_C} (q0 : Nat) (he : ws[q0]? = some (b, .inr (ci, fs))) (hcl : vwCl[ci]? = some r0) (hr0 : r0.1 = Cn) (hn : As.length = n) (hst : st0 = As.reverse ++ .ref b :: st) (hW : (st.map fun v => v.category).sum ≤ 8) (hd : decode cc pc = .ok (.invokevirtual index, 3)) (hf : cells + mc ≤ R.cells ∧ slots + ms ≤ R.slots)
    (kk : ∀ (u : σ) (v : Nat), post u → B u v → xA p l e R s m args below meth c D A nL (cells + mc) (slots + ms) Q (pc + 3) lv (.ref v :: st) (Wf u)) : xA p l e R s m args below meth c D A nL cells slots Q pc lv st0 ws := by
  subst hst
  intro H locs ls hP hD hS hl
  exact va_callr (va_runV (As := As) (rest := st) ⟨C.1, C.2.1, C.2.2.1, C.2.2.2.1, C.2.2.2.2.1⟩ hM cw ⟨xPre.blind, by have h9 := va_recv C.2.2.2.2.2.1 hP hcl he; rw [hr0] at h9; exact h9, fun U hU hW => ⟨rfl, xPre.at C hE hP hD hS U hU hW⟩⟩ rfl hn hl.1 rfl (lv_room hW) hd hf) hS (fun q _ h => h) (fun q h => h) (fun u v t H1 locs1 ht hvm hp hB hz hk hS1 => kk u v hp hB.1 H1 locs1 ls (ht ▸ hB.2.1) hB.2.2.2 hS1 hl)
theorem x_callSi {σ : Type} {Wf : σ → va_W} {post : Int32 → σ → Prop}    {As : List Value}  {index n maxL' mc ms : Nat} {y : MethodName} {bytes : ByteArray} {ret' : Option FieldType} {ws' : List Cond} {rm : Room} {st0 : List Value} (C : xC p s m args meth c cc nL own Ts D tys A ret) (hE : xE A s) (hM : Met l y ws' rm (va_Pc (As) (xPre D tys A ws)) (va_Qi post (fun u t => xPost D tys A (Wf u) t) A) mc ms A) (cw : CallB R s args own index y bytes maxL' ret' ws' rm mc ms n ∧ (Cond.static y).before args s = true)  (hn : As.length = n) (hst : st0 = As.reverse ++ st) (hW : (st.map fun v => v.category).sum ≤ 8) (hd : decode cc pc = .ok (.invokestatic index, 3)) (hf : cells + mc ≤ R.cells ∧ slots + ms ≤ R.slots)
    (kk : ∀ (r : Int32) (u : σ), post r u → xA p l e R s m args below meth c D A nL (cells + mc) (slots + ms) Q (pc + 3) lv (.int r :: st) (Wf u)) : xA p l e R s m args below meth c D A nL cells slots Q pc lv st0 ws := by
  subst hst
  intro H locs ls hP hD hS hl
  exact va_calli (va_runS (As := As) (rest := st) ⟨C.1, C.2.1, C.2.2.1, C.2.2.2.1, C.2.2.2.2.1⟩ hM cw ⟨xPre.blind, fun U hU hW => ⟨rfl, xPre.at C hE hP hD hS U hU hW⟩⟩ rfl hn hl.1 rfl (lv_room hW) hd hf) hS (fun q _ h => h) (fun q h => h) (fun r u t H1 locs1 ht hvm hp hB hz hk hS1 => kk r u hp H1 locs1 ls (ht ▸ hB.1) hB.2.2 hS1 hl)
theorem x_callSv {σ : Type} {Wf : σ → va_W} {post : σ → Prop}    {As : List Value}  {index n maxL' mc ms : Nat} {y : MethodName} {bytes : ByteArray} {ret' : Option FieldType} {ws' : List Cond} {rm : Room} {st0 : List Value} (C : xC p s m args meth c cc nL own Ts D tys A ret) (hE : xE A s) (hM : Met l y ws' rm (va_Pc (As) (xPre D tys A ws)) (va_Qv post (fun u t => xPost D tys A (Wf u) t) A) mc ms A) (cw : CallB R s args own index y bytes maxL' ret' ws' rm mc ms n ∧ (Cond.static y).before args s = true)  (hn : As.length = n) (hst : st0 = As.reverse ++ st) (hW : (st.map fun v => v.category).sum ≤ 8) (hd : decode cc pc = .ok (.invokestatic index, 3)) (hf : cells + mc ≤ R.cells ∧ slots + ms ≤ R.slots)
    (kk : ∀ (u : σ), post u → xA p l e R s m args below meth c D A nL (cells + mc) (slots + ms) Q (pc + 3) lv st (Wf u)) : xA p l e R s m args below meth c D A nL cells slots Q pc lv st0 ws := by
  subst hst
  intro H locs ls hP hD hS hl
  exact va_callv (va_runS (As := As) (rest := st) ⟨C.1, C.2.1, C.2.2.1, C.2.2.2.1, C.2.2.2.2.1⟩ hM cw ⟨xPre.blind, fun U hU hW => ⟨rfl, xPre.at C hE hP hD hS U hU hW⟩⟩ rfl hn hl.1 rfl (lv_room hW) hd hf) hS (fun q _ h => h) (fun q h => h) (fun u t H1 locs1 ht hvm hp hB hz hk hS1 => kk u hp H1 locs1 ls (ht ▸ hB.1) hB.2.2 hS1 hl)
theorem x_callSr {σ : Type} {Wf : σ → va_W} {post : σ → Prop} {B : σ → Nat → Prop}   {As : List Value}  {index n maxL' mc ms : Nat} {y : MethodName} {bytes : ByteArray} {ret' : Option FieldType} {ws' : List Cond} {rm : Room} {st0 : List Value} (C : xC p s m args meth c cc nL own Ts D tys A ret) (hE : xE A s) (hM : Met l y ws' rm (va_Pc (As) (xPre D tys A ws)) (va_Qr post (fun u v t => B u v ∧ xPost D tys A (Wf u) t) A) mc ms A) (cw : CallB R s args own index y bytes maxL' ret' ws' rm mc ms n ∧ (Cond.static y).before args s = true)  (hn : As.length = n) (hst : st0 = As.reverse ++ st) (hW : (st.map fun v => v.category).sum ≤ 8) (hd : decode cc pc = .ok (.invokestatic index, 3)) (hf : cells + mc ≤ R.cells ∧ slots + ms ≤ R.slots)
    (kk : ∀ (u : σ) (v : Nat), post u → B u v → xA p l e R s m args below meth c D A nL (cells + mc) (slots + ms) Q (pc + 3) lv (.ref v :: st) (Wf u)) : xA p l e R s m args below meth c D A nL cells slots Q pc lv st0 ws := by
  subst hst
  intro H locs ls hP hD hS hl
  exact va_callr (va_runS (As := As) (rest := st) ⟨C.1, C.2.1, C.2.2.1, C.2.2.2.1, C.2.2.2.2.1⟩ hM cw ⟨xPre.blind, fun U hU hW => ⟨rfl, xPre.at C hE hP hD hS U hU hW⟩⟩ rfl hn hl.1 rfl (lv_room hW) hd hf) hS (fun q _ h => h) (fun q h => h) (fun u v t H1 locs1 ht hvm hp hB hz hk hS1 => kk u v hp hB.1 H1 locs1 ls (ht ▸ hB.2.1) hB.2.2.2 hS1 hl)
theorem x_callIv {σ : Type} {Wf : σ → va_W} {post : σ → Prop}  {b : Nat}  {As : List Value}  {index n maxL' mc ms : Nat} {y : MethodName} {bytes : ByteArray} {ret' : Option FieldType} {ws' : List Cond} {rm : Room} {st0 : List Value} (C : xC p s m args meth c cc nL own Ts D tys A ret) (hE : xE A s) (hM : Met l y ws' rm (va_Pc (.ref b :: As) (xPre D tys A ws)) (va_Qv post (fun u t => xPost D tys A (Wf u) t) A) mc ms A) (cw : CallB R s args own index y bytes maxL' none ws' rm mc ms n ∧ y.name = "<init>" ∧ (Cond.instanceMethod y).before args s = true)  (hn : As.length = n) (hst : st0 = As.reverse ++ .ref b :: st) (hW : (st.map fun v => v.category).sum ≤ 8) (hd : decode cc pc = .ok (.invokespecial index, 3)) (hf : cells + mc ≤ R.cells ∧ slots + ms ≤ R.slots)
    (kk : ∀ (u : σ), post u → xA p l e R s m args below meth c D A nL (cells + mc) (slots + ms) Q (pc + 3) lv st (Wf u)) : xA p l e R s m args below meth c D A nL cells slots Q pc lv st0 ws := by
  subst hst
  intro H locs ls hP hD hS hl
  exact va_callv (va_runI (As := As) (rest := st) ⟨C.1, C.2.1, C.2.2.1, C.2.2.2.1, C.2.2.2.2.1⟩ hM cw ⟨xPre.blind, fun U hU hW => ⟨rfl, xPre.at C hE hP hD hS U hU hW⟩⟩ rfl hn hl.1 rfl (lv_room hW) hd hf) hS (fun q _ h => h) (fun q h => h) (fun u t H1 locs1 ht hvm hp hB hz hk hS1 => kk u hp H1 locs1 ls (ht ▸ hB.1) hB.2.2 hS1 hl)
theorem x_callNi {σ : Type} {Wf : σ → va_W} {post : Int32 → σ → Prop}   {host : String} {As : List Value}  {index n maxL' mc ms : Nat} {y : MethodName} {bytes : ByteArray} {ret' : Option FieldType} {ws' : List Cond} {rm : Room} {st0 : List Value} (C : xC p s m args meth c cc nL own Ts D tys A ret) (hE : xE A s) (hM : Met l y ws' rm (va_Pc (As) (xPre D tys A ws)) (va_Qi post (fun u t => xPost D tys A (Wf u) t) A) mc ms A) (cw : va_CN R s args own index y host bytes maxL' ret' ws' rm mc ms n ∧ (Cond.static y).before args s = true ∧ True)  (hn : As.length = n) (hst : st0 = As.reverse ++ st) (hW : (st.map fun v => v.category).sum ≤ 8) (hd : decode cc pc = .ok (.invokestatic index, 3)) (hf : cells + mc ≤ R.cells ∧ slots + ms ≤ R.slots)
    (kk : ∀ (r : Int32) (u : σ), post r u → xA p l e R s m args below meth c D A nL (cells + mc) (slots + ms) Q (pc + 3) lv (.int r :: st) (Wf u)) : xA p l e R s m args below meth c D A nL cells slots Q pc lv st0 ws := by
  subst hst
  intro H locs ls hP hD hS hl
  exact va_calli (va_runSN (As := As) (rest := st) ⟨C.1, C.2.1, C.2.2.1, C.2.2.2.1, C.2.2.2.2.1⟩ hM cw ⟨xPre.blind, fun U hU hW => ⟨rfl, xPre.at C hE hP hD hS U hU hW⟩⟩ rfl hn hl.1 rfl (lv_room hW) hd hf) hS (fun q _ h => h) (fun q h => h) (fun r u t H1 locs1 ht hvm hp hB hz hk hS1 => kk r u hp H1 locs1 ls (ht ▸ hB.1) hB.2.2 hS1 hl)
theorem x_callViK {σ : Type} {Wf : σ → va_W} {post : Int32 → σ → Prop}  {b : Nat} {As : List Value} {Cn : String} {index n maxL' mc ms : Nat} {y : MethodName} {bytes : ByteArray} {ret' : Option FieldType} {ws' : List Cond} {rm : Room} {st0 : List Value} {ex : Option String} (C : xC p s m args meth c cc nL own Ts D tys A ret) (hE : xE A s) (hM : vx_Met l y ws' rm (va_Pc (.ref b :: As) (xPre D tys A ws)) (va_Qi post (fun u t => xPost D tys A (Wf u) t) A) (xX D tys A ws ex) mc ms A) (cw : CallW R s args own Cn index y bytes maxL' ret' ws' rm mc ms n) {ci : Nat} {fs : List Value} {r0 : vw_C} (q0 : Nat) (he : ws[q0]? = some (b, .inr (ci, fs))) (hcl : vwCl[ci]? = some r0) (hr0 : r0.1 = Cn) (hn : As.length = n) (hst : st0 = As.reverse ++ .ref b :: st) (hW : (st.map fun v => v.category).sum ≤ 8) (hd : decode cc pc = .ok (.invokevirtual index, 3)) (hf : cells + mc ≤ R.cells ∧ slots + ms ≤ R.slots)
    (kx : ∀ E, ex = some E → ∀ (H : Heap) (locs : List Loc) (ls : Array Slot) (q9 : Nat) (ce : Cell), va_P D vwCl ws H → va_D A ws → va_S A s.heap H locs → lvx ls nL lv → H[q9]? = some ce → ce.vm = .none → s.vm.findClass E = some ce.cls → vx_W p l e R s m args below meth c H locs (cells + mc) (slots + ms) Q (F0 m pc ls st) q9)
    (kk : ∀ (r : Int32) (u : σ), post r u → xA p l e R s m args below meth c D A nL (cells + mc) (slots + ms) Q (pc + 3) lv (.int r :: st) (Wf u)) : xA p l e R s m args below meth c D A nL cells slots Q pc lv st0 ws := by
  subst hst
  intro H locs ls hP hD hS hl
  exact vx_calli (vx_runV (As := As) (rest := st) ⟨C.1, C.2.1, C.2.2.1, C.2.2.2.1, C.2.2.2.2.1⟩ hM cw ⟨xPre.blind, by have h9 := va_recv C.2.2.2.2.2.1 hP hcl he; rw [hr0] at h9; exact h9, fun U hU hW => ⟨rfl, xPre.at C hE hP hD hS U hU hW⟩⟩ rfl hn hl.1 rfl (lv_room hW) hd hf) hS (fun q _ h => h) (fun q h => h) (fun q _ h => h)
    (fun E ce q9 _ t H1 locs1 ht hvm _ hB hz hk hS1 hce hcv hcl9 => kx E hB.1 H1 locs1 ls q9 ce (ht ▸ hB.2.1) hB.2.2.2 hS1 hl hce hcv hcl9) (fun r u t H1 locs1 ht hvm hp hB hz hk hS1 => kk r u hp H1 locs1 ls (ht ▸ hB.1) hB.2.2 hS1 hl)
theorem x_callViX {σ : Type} {Wf : σ → va_W} {post : Int32 → σ → Prop}  {b : Nat} {As : List Value} {Cn : String} {index n maxL' mc ms : Nat} {y : MethodName} {bytes : ByteArray} {ret' : Option FieldType} {ws' : List Cond} {rm : Room} {st0 : List Value} {ex ex' : Option String} {Qc : Array Value → State → Outcome → State → Prop} {mc' ms' : Nat} (hout : ∀ x ∈ c.exceptionTable.toList, False) (C : xC p s m args meth c cc nL own Ts D tys A ret) (hE : xE A s) (hM : vx_Met l y ws' rm (va_Pc (.ref b :: As) (xPre D tys A ws)) (va_Qi post (fun u t => xPost D tys A (Wf u) t) A) (xX D tys A ws ex) mc ms A) (cw : CallW R s args own Cn index y bytes maxL' ret' ws' rm mc ms n) {ci : Nat} {fs : List Value} {r0 : vw_C} (q0 : Nat) (he : ws[q0]? = some (b, .inr (ci, fs))) (hcl : vwCl[ci]? = some r0) (hr0 : r0.1 = Cn) (hn : As.length = n) (hst : st0 = As.reverse ++ .ref b :: st) (hW : (st.map fun v => v.category).sum ≤ 8) (hd : decode cc pc = .ok (.invokevirtual index, 3)) (hf : cells + mc ≤ R.cells ∧ slots + ms ≤ R.slots) (hm : cells + mc ≤ mc' ∧ slots + ms ≤ ms')
    (hx : ∀ E, ex = some E → ex' = some E)
    (kk : ∀ (r : Int32) (u : σ), post r u → xA p l e R s m args below meth c D A nL (cells + mc) (slots + ms) (vx_MQ below Qc (xX D tys A ws ex') args s mc' ms' A) (pc + 3) lv (.int r :: st) (Wf u)) : xA p l e R s m args below meth c D A nL cells slots (vx_MQ below Qc (xX D tys A ws ex') args s mc' ms' A) pc lv st0 ws :=
  x_callViK C hE hM cw q0 he hcl hr0 hn hst hW hd hf (fun E hex H locs ls q9 ce hP hD hS hl hce hcv hcl9 =>
    vx_out (fun x hx9 => (hout x hx9).elim) C.2.2.2.2.2.2.2.1 hce hcv hcl9 (fun t ht hvm => ⟨(), trivial, ⟨hx E hex, xPost.at C hP hD ht hvm⟩, hS.F ht⟩) hS.2.2 hm.1 hm.2) kk
theorem x_callVvK {σ : Type} {Wf : σ → va_W} {post : σ → Prop}  {b : Nat} {As : List Value} {Cn : String} {index n maxL' mc ms : Nat} {y : MethodName} {bytes : ByteArray} {ret' : Option FieldType} {ws' : List Cond} {rm : Room} {st0 : List Value} {ex : Option String} (C : xC p s m args meth c cc nL own Ts D tys A ret) (hE : xE A s) (hM : vx_Met l y ws' rm (va_Pc (.ref b :: As) (xPre D tys A ws)) (va_Qv post (fun u t => xPost D tys A (Wf u) t) A) (xX D tys A ws ex) mc ms A) (cw : CallW R s args own Cn index y bytes maxL' ret' ws' rm mc ms n) {ci : Nat} {fs : List Value} {r0 : vw_C} (q0 : Nat) (he : ws[q0]? = some (b, .inr (ci, fs))) (hcl : vwCl[ci]? = some r0) (hr0 : r0.1 = Cn) (hn : As.length = n) (hst : st0 = As.reverse ++ .ref b :: st) (hW : (st.map fun v => v.category).sum ≤ 8) (hd : decode cc pc = .ok (.invokevirtual index, 3)) (hf : cells + mc ≤ R.cells ∧ slots + ms ≤ R.slots)
    (kx : ∀ E, ex = some E → ∀ (H : Heap) (locs : List Loc) (ls : Array Slot) (q9 : Nat) (ce : Cell), va_P D vwCl ws H → va_D A ws → va_S A s.heap H locs → lvx ls nL lv → H[q9]? = some ce → ce.vm = .none → s.vm.findClass E = some ce.cls → vx_W p l e R s m args below meth c H locs (cells + mc) (slots + ms) Q (F0 m pc ls st) q9)
    (kk : ∀ (u : σ), post u → xA p l e R s m args below meth c D A nL (cells + mc) (slots + ms) Q (pc + 3) lv st (Wf u)) : xA p l e R s m args below meth c D A nL cells slots Q pc lv st0 ws := by
  subst hst
  intro H locs ls hP hD hS hl
  exact vx_callv (vx_runV (As := As) (rest := st) ⟨C.1, C.2.1, C.2.2.1, C.2.2.2.1, C.2.2.2.2.1⟩ hM cw ⟨xPre.blind, by have h9 := va_recv C.2.2.2.2.2.1 hP hcl he; rw [hr0] at h9; exact h9, fun U hU hW => ⟨rfl, xPre.at C hE hP hD hS U hU hW⟩⟩ rfl hn hl.1 rfl (lv_room hW) hd hf) hS (fun q _ h => h) (fun q h => h) (fun q _ h => h)
    (fun E ce q9 _ t H1 locs1 ht hvm _ hB hz hk hS1 hce hcv hcl9 => kx E hB.1 H1 locs1 ls q9 ce (ht ▸ hB.2.1) hB.2.2.2 hS1 hl hce hcv hcl9) (fun u t H1 locs1 ht hvm hp hB hz hk hS1 => kk u hp H1 locs1 ls (ht ▸ hB.1) hB.2.2 hS1 hl)
theorem x_callVvX {σ : Type} {Wf : σ → va_W} {post : σ → Prop}  {b : Nat} {As : List Value} {Cn : String} {index n maxL' mc ms : Nat} {y : MethodName} {bytes : ByteArray} {ret' : Option FieldType} {ws' : List Cond} {rm : Room} {st0 : List Value} {ex ex' : Option String} {Qc : Array Value → State → Outcome → State → Prop} {mc' ms' : Nat} (hout : ∀ x ∈ c.exceptionTable.toList, False) (C : xC p s m args meth c cc nL own Ts D tys A ret) (hE : xE A s) (hM : vx_Met l y ws' rm (va_Pc (.ref b :: As) (xPre D tys A ws)) (va_Qv post (fun u t => xPost D tys A (Wf u) t) A) (xX D tys A ws ex) mc ms A) (cw : CallW R s args own Cn index y bytes maxL' ret' ws' rm mc ms n) {ci : Nat} {fs : List Value} {r0 : vw_C} (q0 : Nat) (he : ws[q0]? = some (b, .inr (ci, fs))) (hcl : vwCl[ci]? = some r0) (hr0 : r0.1 = Cn) (hn : As.length = n) (hst : st0 = As.reverse ++ .ref b :: st) (hW : (st.map fun v => v.category).sum ≤ 8) (hd : decode cc pc = .ok (.invokevirtual index, 3)) (hf : cells + mc ≤ R.cells ∧ slots + ms ≤ R.slots) (hm : cells + mc ≤ mc' ∧ slots + ms ≤ ms')
    (hx : ∀ E, ex = some E → ex' = some E)
    (kk : ∀ (u : σ), post u → xA p l e R s m args below meth c D A nL (cells + mc) (slots + ms) (vx_MQ below Qc (xX D tys A ws ex') args s mc' ms' A) (pc + 3) lv st (Wf u)) : xA p l e R s m args below meth c D A nL cells slots (vx_MQ below Qc (xX D tys A ws ex') args s mc' ms' A) pc lv st0 ws :=
  x_callVvK C hE hM cw q0 he hcl hr0 hn hst hW hd hf (fun E hex H locs ls q9 ce hP hD hS hl hce hcv hcl9 =>
    vx_out (fun x hx9 => (hout x hx9).elim) C.2.2.2.2.2.2.2.1 hce hcv hcl9 (fun t ht hvm => ⟨(), trivial, ⟨hx E hex, xPost.at C hP hD ht hvm⟩, hS.F ht⟩) hS.2.2 hm.1 hm.2) kk
theorem x_callVrK {σ : Type} {Wf : σ → va_W} {post : σ → Prop} {B : σ → Nat → Prop} {b : Nat} {As : List Value} {Cn : String} {index n maxL' mc ms : Nat} {y : MethodName} {bytes : ByteArray} {ret' : Option FieldType} {ws' : List Cond} {rm : Room} {st0 : List Value} {ex : Option String} (C : xC p s m args meth c cc nL own Ts D tys A ret) (hE : xE A s) (hM : vx_Met l y ws' rm (va_Pc (.ref b :: As) (xPre D tys A ws)) (va_Qr post (fun u v t => B u v ∧ xPost D tys A (Wf u) t) A) (xX D tys A ws ex) mc ms A) (cw : CallW R s args own Cn index y bytes maxL' ret' ws' rm mc ms n) {ci : Nat} {fs : List Value} {r0 : vw_C} (q0 : Nat) (he : ws[q0]? = some (b, .inr (ci, fs))) (hcl : vwCl[ci]? = some r0) (hr0 : r0.1 = Cn) (hn : As.length = n) (hst : st0 = As.reverse ++ .ref b :: st) (hW : (st.map fun v => v.category).sum ≤ 8) (hd : decode cc pc = .ok (.invokevirtual index, 3)) (hf : cells + mc ≤ R.cells ∧ slots + ms ≤ R.slots)
    (kx : ∀ E, ex = some E → ∀ (H : Heap) (locs : List Loc) (ls : Array Slot) (q9 : Nat) (ce : Cell), va_P D vwCl ws H → va_D A ws → va_S A s.heap H locs → lvx ls nL lv → H[q9]? = some ce → ce.vm = .none → s.vm.findClass E = some ce.cls → vx_W p l e R s m args below meth c H locs (cells + mc) (slots + ms) Q (F0 m pc ls st) q9)
    (kk : ∀ (u : σ) (v : Nat), post u → B u v → xA p l e R s m args below meth c D A nL (cells + mc) (slots + ms) Q (pc + 3) lv (.ref v :: st) (Wf u)) : xA p l e R s m args below meth c D A nL cells slots Q pc lv st0 ws := by
  subst hst
  intro H locs ls hP hD hS hl
  exact vx_callr (vx_runV (As := As) (rest := st) ⟨C.1, C.2.1, C.2.2.1, C.2.2.2.1, C.2.2.2.2.1⟩ hM cw ⟨xPre.blind, by have h9 := va_recv C.2.2.2.2.2.1 hP hcl he; rw [hr0] at h9; exact h9, fun U hU hW => ⟨rfl, xPre.at C hE hP hD hS U hU hW⟩⟩ rfl hn hl.1 rfl (lv_room hW) hd hf) hS (fun q _ h => h) (fun q h => h) (fun q _ h => h)
    (fun E ce q9 _ t H1 locs1 ht hvm _ hB hz hk hS1 hce hcv hcl9 => kx E hB.1 H1 locs1 ls q9 ce (ht ▸ hB.2.1) hB.2.2.2 hS1 hl hce hcv hcl9) (fun u v t H1 locs1 ht hvm hp hB hz hk hS1 => kk u v hp hB.1 H1 locs1 ls (ht ▸ hB.2.1) hB.2.2.2 hS1 hl)
theorem x_callVrX {σ : Type} {Wf : σ → va_W} {post : σ → Prop} {B : σ → Nat → Prop} {b : Nat} {As : List Value} {Cn : String} {index n maxL' mc ms : Nat} {y : MethodName} {bytes : ByteArray} {ret' : Option FieldType} {ws' : List Cond} {rm : Room} {st0 : List Value} {ex ex' : Option String} {Qc : Array Value → State → Outcome → State → Prop} {mc' ms' : Nat} (hout : ∀ x ∈ c.exceptionTable.toList, False) (C : xC p s m args meth c cc nL own Ts D tys A ret) (hE : xE A s) (hM : vx_Met l y ws' rm (va_Pc (.ref b :: As) (xPre D tys A ws)) (va_Qr post (fun u v t => B u v ∧ xPost D tys A (Wf u) t) A) (xX D tys A ws ex) mc ms A) (cw : CallW R s args own Cn index y bytes maxL' ret' ws' rm mc ms n) {ci : Nat} {fs : List Value} {r0 : vw_C} (q0 : Nat) (he : ws[q0]? = some (b, .inr (ci, fs))) (hcl : vwCl[ci]? = some r0) (hr0 : r0.1 = Cn) (hn : As.length = n) (hst : st0 = As.reverse ++ .ref b :: st) (hW : (st.map fun v => v.category).sum ≤ 8) (hd : decode cc pc = .ok (.invokevirtual index, 3)) (hf : cells + mc ≤ R.cells ∧ slots + ms ≤ R.slots) (hm : cells + mc ≤ mc' ∧ slots + ms ≤ ms')
    (hx : ∀ E, ex = some E → ex' = some E)
    (kk : ∀ (u : σ) (v : Nat), post u → B u v → xA p l e R s m args below meth c D A nL (cells + mc) (slots + ms) (vx_MQ below Qc (xX D tys A ws ex') args s mc' ms' A) (pc + 3) lv (.ref v :: st) (Wf u)) : xA p l e R s m args below meth c D A nL cells slots (vx_MQ below Qc (xX D tys A ws ex') args s mc' ms' A) pc lv st0 ws :=
  x_callVrK C hE hM cw q0 he hcl hr0 hn hst hW hd hf (fun E hex H locs ls q9 ce hP hD hS hl hce hcv hcl9 =>
    vx_out (fun x hx9 => (hout x hx9).elim) C.2.2.2.2.2.2.2.1 hce hcv hcl9 (fun t ht hvm => ⟨(), trivial, ⟨hx E hex, xPost.at C hP hD ht hvm⟩, hS.F ht⟩) hS.2.2 hm.1 hm.2) kk
theorem x_callSiK {σ : Type} {Wf : σ → va_W} {post : Int32 → σ → Prop}   {As : List Value}  {index n maxL' mc ms : Nat} {y : MethodName} {bytes : ByteArray} {ret' : Option FieldType} {ws' : List Cond} {rm : Room} {st0 : List Value} {ex : Option String} (C : xC p s m args meth c cc nL own Ts D tys A ret) (hE : xE A s) (hM : vx_Met l y ws' rm (va_Pc (As) (xPre D tys A ws)) (va_Qi post (fun u t => xPost D tys A (Wf u) t) A) (xX D tys A ws ex) mc ms A) (cw : CallB R s args own index y bytes maxL' ret' ws' rm mc ms n ∧ (Cond.static y).before args s = true)  (hn : As.length = n) (hst : st0 = As.reverse ++ st) (hW : (st.map fun v => v.category).sum ≤ 8) (hd : decode cc pc = .ok (.invokestatic index, 3)) (hf : cells + mc ≤ R.cells ∧ slots + ms ≤ R.slots)
    (kx : ∀ E, ex = some E → ∀ (H : Heap) (locs : List Loc) (ls : Array Slot) (q9 : Nat) (ce : Cell), va_P D vwCl ws H → va_D A ws → va_S A s.heap H locs → lvx ls nL lv → H[q9]? = some ce → ce.vm = .none → s.vm.findClass E = some ce.cls → vx_W p l e R s m args below meth c H locs (cells + mc) (slots + ms) Q (F0 m pc ls st) q9)
    (kk : ∀ (r : Int32) (u : σ), post r u → xA p l e R s m args below meth c D A nL (cells + mc) (slots + ms) Q (pc + 3) lv (.int r :: st) (Wf u)) : xA p l e R s m args below meth c D A nL cells slots Q pc lv st0 ws := by
  subst hst
  intro H locs ls hP hD hS hl
  exact vx_calli (vx_runS (As := As) (rest := st) ⟨C.1, C.2.1, C.2.2.1, C.2.2.2.1, C.2.2.2.2.1⟩ hM cw ⟨xPre.blind, fun U hU hW => ⟨rfl, xPre.at C hE hP hD hS U hU hW⟩⟩ rfl hn hl.1 rfl (lv_room hW) hd hf) hS (fun q _ h => h) (fun q h => h) (fun q _ h => h)
    (fun E ce q9 _ t H1 locs1 ht hvm _ hB hz hk hS1 hce hcv hcl9 => kx E hB.1 H1 locs1 ls q9 ce (ht ▸ hB.2.1) hB.2.2.2 hS1 hl hce hcv hcl9) (fun r u t H1 locs1 ht hvm hp hB hz hk hS1 => kk r u hp H1 locs1 ls (ht ▸ hB.1) hB.2.2 hS1 hl)
theorem x_callSiX {σ : Type} {Wf : σ → va_W} {post : Int32 → σ → Prop}   {As : List Value}  {index n maxL' mc ms : Nat} {y : MethodName} {bytes : ByteArray} {ret' : Option FieldType} {ws' : List Cond} {rm : Room} {st0 : List Value} {ex ex' : Option String} {Qc : Array Value → State → Outcome → State → Prop} {mc' ms' : Nat} (hout : ∀ x ∈ c.exceptionTable.toList, False) (C : xC p s m args meth c cc nL own Ts D tys A ret) (hE : xE A s) (hM : vx_Met l y ws' rm (va_Pc (As) (xPre D tys A ws)) (va_Qi post (fun u t => xPost D tys A (Wf u) t) A) (xX D tys A ws ex) mc ms A) (cw : CallB R s args own index y bytes maxL' ret' ws' rm mc ms n ∧ (Cond.static y).before args s = true)  (hn : As.length = n) (hst : st0 = As.reverse ++ st) (hW : (st.map fun v => v.category).sum ≤ 8) (hd : decode cc pc = .ok (.invokestatic index, 3)) (hf : cells + mc ≤ R.cells ∧ slots + ms ≤ R.slots) (hm : cells + mc ≤ mc' ∧ slots + ms ≤ ms')
    (hx : ∀ E, ex = some E → ex' = some E)
    (kk : ∀ (r : Int32) (u : σ), post r u → xA p l e R s m args below meth c D A nL (cells + mc) (slots + ms) (vx_MQ below Qc (xX D tys A ws ex') args s mc' ms' A) (pc + 3) lv (.int r :: st) (Wf u)) : xA p l e R s m args below meth c D A nL cells slots (vx_MQ below Qc (xX D tys A ws ex') args s mc' ms' A) pc lv st0 ws :=
  x_callSiK C hE hM cw  hn hst hW hd hf (fun E hex H locs ls q9 ce hP hD hS hl hce hcv hcl9 =>
    vx_out (fun x hx9 => (hout x hx9).elim) C.2.2.2.2.2.2.2.1 hce hcv hcl9 (fun t ht hvm => ⟨(), trivial, ⟨hx E hex, xPost.at C hP hD ht hvm⟩, hS.F ht⟩) hS.2.2 hm.1 hm.2) kk
theorem x_callSvK {σ : Type} {Wf : σ → va_W} {post : σ → Prop}   {As : List Value}  {index n maxL' mc ms : Nat} {y : MethodName} {bytes : ByteArray} {ret' : Option FieldType} {ws' : List Cond} {rm : Room} {st0 : List Value} {ex : Option String} (C : xC p s m args meth c cc nL own Ts D tys A ret) (hE : xE A s) (hM : vx_Met l y ws' rm (va_Pc (As) (xPre D tys A ws)) (va_Qv post (fun u t => xPost D tys A (Wf u) t) A) (xX D tys A ws ex) mc ms A) (cw : CallB R s args own index y bytes maxL' ret' ws' rm mc ms n ∧ (Cond.static y).before args s = true)  (hn : As.length = n) (hst : st0 = As.reverse ++ st) (hW : (st.map fun v => v.category).sum ≤ 8) (hd : decode cc pc = .ok (.invokestatic index, 3)) (hf : cells + mc ≤ R.cells ∧ slots + ms ≤ R.slots)
    (kx : ∀ E, ex = some E → ∀ (H : Heap) (locs : List Loc) (ls : Array Slot) (q9 : Nat) (ce : Cell), va_P D vwCl ws H → va_D A ws → va_S A s.heap H locs → lvx ls nL lv → H[q9]? = some ce → ce.vm = .none → s.vm.findClass E = some ce.cls → vx_W p l e R s m args below meth c H locs (cells + mc) (slots + ms) Q (F0 m pc ls st) q9)
    (kk : ∀ (u : σ), post u → xA p l e R s m args below meth c D A nL (cells + mc) (slots + ms) Q (pc + 3) lv st (Wf u)) : xA p l e R s m args below meth c D A nL cells slots Q pc lv st0 ws := by
  subst hst
  intro H locs ls hP hD hS hl
  exact vx_callv (vx_runS (As := As) (rest := st) ⟨C.1, C.2.1, C.2.2.1, C.2.2.2.1, C.2.2.2.2.1⟩ hM cw ⟨xPre.blind, fun U hU hW => ⟨rfl, xPre.at C hE hP hD hS U hU hW⟩⟩ rfl hn hl.1 rfl (lv_room hW) hd hf) hS (fun q _ h => h) (fun q h => h) (fun q _ h => h)
    (fun E ce q9 _ t H1 locs1 ht hvm _ hB hz hk hS1 hce hcv hcl9 => kx E hB.1 H1 locs1 ls q9 ce (ht ▸ hB.2.1) hB.2.2.2 hS1 hl hce hcv hcl9) (fun u t H1 locs1 ht hvm hp hB hz hk hS1 => kk u hp H1 locs1 ls (ht ▸ hB.1) hB.2.2 hS1 hl)
theorem x_callSvX {σ : Type} {Wf : σ → va_W} {post : σ → Prop}   {As : List Value}  {index n maxL' mc ms : Nat} {y : MethodName} {bytes : ByteArray} {ret' : Option FieldType} {ws' : List Cond} {rm : Room} {st0 : List Value} {ex ex' : Option String} {Qc : Array Value → State → Outcome → State → Prop} {mc' ms' : Nat} (hout : ∀ x ∈ c.exceptionTable.toList, False) (C : xC p s m args meth c cc nL own Ts D tys A ret) (hE : xE A s) (hM : vx_Met l y ws' rm (va_Pc (As) (xPre D tys A ws)) (va_Qv post (fun u t => xPost D tys A (Wf u) t) A) (xX D tys A ws ex) mc ms A) (cw : CallB R s args own index y bytes maxL' ret' ws' rm mc ms n ∧ (Cond.static y).before args s = true)  (hn : As.length = n) (hst : st0 = As.reverse ++ st) (hW : (st.map fun v => v.category).sum ≤ 8) (hd : decode cc pc = .ok (.invokestatic index, 3)) (hf : cells + mc ≤ R.cells ∧ slots + ms ≤ R.slots) (hm : cells + mc ≤ mc' ∧ slots + ms ≤ ms')
    (hx : ∀ E, ex = some E → ex' = some E)
    (kk : ∀ (u : σ), post u → xA p l e R s m args below meth c D A nL (cells + mc) (slots + ms) (vx_MQ below Qc (xX D tys A ws ex') args s mc' ms' A) (pc + 3) lv st (Wf u)) : xA p l e R s m args below meth c D A nL cells slots (vx_MQ below Qc (xX D tys A ws ex') args s mc' ms' A) pc lv st0 ws :=
  x_callSvK C hE hM cw  hn hst hW hd hf (fun E hex H locs ls q9 ce hP hD hS hl hce hcv hcl9 =>
    vx_out (fun x hx9 => (hout x hx9).elim) C.2.2.2.2.2.2.2.1 hce hcv hcl9 (fun t ht hvm => ⟨(), trivial, ⟨hx E hex, xPost.at C hP hD ht hvm⟩, hS.F ht⟩) hS.2.2 hm.1 hm.2) kk
theorem x_callSrK {σ : Type} {Wf : σ → va_W} {post : σ → Prop} {B : σ → Nat → Prop}  {As : List Value}  {index n maxL' mc ms : Nat} {y : MethodName} {bytes : ByteArray} {ret' : Option FieldType} {ws' : List Cond} {rm : Room} {st0 : List Value} {ex : Option String} (C : xC p s m args meth c cc nL own Ts D tys A ret) (hE : xE A s) (hM : vx_Met l y ws' rm (va_Pc (As) (xPre D tys A ws)) (va_Qr post (fun u v t => B u v ∧ xPost D tys A (Wf u) t) A) (xX D tys A ws ex) mc ms A) (cw : CallB R s args own index y bytes maxL' ret' ws' rm mc ms n ∧ (Cond.static y).before args s = true)  (hn : As.length = n) (hst : st0 = As.reverse ++ st) (hW : (st.map fun v => v.category).sum ≤ 8) (hd : decode cc pc = .ok (.invokestatic index, 3)) (hf : cells + mc ≤ R.cells ∧ slots + ms ≤ R.slots)
    (kx : ∀ E, ex = some E → ∀ (H : Heap) (locs : List Loc) (ls : Array Slot) (q9 : Nat) (ce : Cell), va_P D vwCl ws H → va_D A ws → va_S A s.heap H locs → lvx ls nL lv → H[q9]? = some ce → ce.vm = .none → s.vm.findClass E = some ce.cls → vx_W p l e R s m args below meth c H locs (cells + mc) (slots + ms) Q (F0 m pc ls st) q9)
    (kk : ∀ (u : σ) (v : Nat), post u → B u v → xA p l e R s m args below meth c D A nL (cells + mc) (slots + ms) Q (pc + 3) lv (.ref v :: st) (Wf u)) : xA p l e R s m args below meth c D A nL cells slots Q pc lv st0 ws := by
  subst hst
  intro H locs ls hP hD hS hl
  exact vx_callr (vx_runS (As := As) (rest := st) ⟨C.1, C.2.1, C.2.2.1, C.2.2.2.1, C.2.2.2.2.1⟩ hM cw ⟨xPre.blind, fun U hU hW => ⟨rfl, xPre.at C hE hP hD hS U hU hW⟩⟩ rfl hn hl.1 rfl (lv_room hW) hd hf) hS (fun q _ h => h) (fun q h => h) (fun q _ h => h)
    (fun E ce q9 _ t H1 locs1 ht hvm _ hB hz hk hS1 hce hcv hcl9 => kx E hB.1 H1 locs1 ls q9 ce (ht ▸ hB.2.1) hB.2.2.2 hS1 hl hce hcv hcl9) (fun u v t H1 locs1 ht hvm hp hB hz hk hS1 => kk u v hp hB.1 H1 locs1 ls (ht ▸ hB.2.1) hB.2.2.2 hS1 hl)
theorem x_callSrX {σ : Type} {Wf : σ → va_W} {post : σ → Prop} {B : σ → Nat → Prop}  {As : List Value}  {index n maxL' mc ms : Nat} {y : MethodName} {bytes : ByteArray} {ret' : Option FieldType} {ws' : List Cond} {rm : Room} {st0 : List Value} {ex ex' : Option String} {Qc : Array Value → State → Outcome → State → Prop} {mc' ms' : Nat} (hout : ∀ x ∈ c.exceptionTable.toList, False) (C : xC p s m args meth c cc nL own Ts D tys A ret) (hE : xE A s) (hM : vx_Met l y ws' rm (va_Pc (As) (xPre D tys A ws)) (va_Qr post (fun u v t => B u v ∧ xPost D tys A (Wf u) t) A) (xX D tys A ws ex) mc ms A) (cw : CallB R s args own index y bytes maxL' ret' ws' rm mc ms n ∧ (Cond.static y).before args s = true)  (hn : As.length = n) (hst : st0 = As.reverse ++ st) (hW : (st.map fun v => v.category).sum ≤ 8) (hd : decode cc pc = .ok (.invokestatic index, 3)) (hf : cells + mc ≤ R.cells ∧ slots + ms ≤ R.slots) (hm : cells + mc ≤ mc' ∧ slots + ms ≤ ms')
    (hx : ∀ E, ex = some E → ex' = some E)
    (kk : ∀ (u : σ) (v : Nat), post u → B u v → xA p l e R s m args below meth c D A nL (cells + mc) (slots + ms) (vx_MQ below Qc (xX D tys A ws ex') args s mc' ms' A) (pc + 3) lv (.ref v :: st) (Wf u)) : xA p l e R s m args below meth c D A nL cells slots (vx_MQ below Qc (xX D tys A ws ex') args s mc' ms' A) pc lv st0 ws :=
  x_callSrK C hE hM cw  hn hst hW hd hf (fun E hex H locs ls q9 ce hP hD hS hl hce hcv hcl9 =>
    vx_out (fun x hx9 => (hout x hx9).elim) C.2.2.2.2.2.2.2.1 hce hcv hcl9 (fun t ht hvm => ⟨(), trivial, ⟨hx E hex, xPost.at C hP hD ht hvm⟩, hS.F ht⟩) hS.2.2 hm.1 hm.2) kk
theorem x_throw {Qc : Array Value → State → Outcome → State → Prop} {mc ms ik is ic : Nat} {cls text : String} {ex : Option String} (hout : ∀ x ∈ c.exceptionTable.toList, False) (hl : l.stackTraces = false) (C : xC p s m args meth c cc nL RX3 Ts D tys A ret) (hE : xE A s) (hcls : Bundle.fit cls = true)
    (hk : Cond.classLink RX3 ik cls ∈ Ts) (hini : Cond.initialized cls ∈ Ts) (hstr : (is, text) ∈ xEs) (hat : ∀ w ∈ (vx_atS RX3 ic cls ["java/lang/RuntimeException", "java/lang/Exception"]).filter goodWord, w ∈ Ts) (hbad : ∀ w ∈ (vx_atS RX3 ic cls ["java/lang/RuntimeException", "java/lang/Exception"]).filter (fun w => !goodWord w), w ∈ xEw)
    (hgood : ∀ w ∈ Cond.classLink RX3 ik cls :: Cond.initialized cls :: vx_atS RX3 ic cls ["java/lang/RuntimeException", "java/lang/Exception"], vx_ot w = true)
    (d0 : decode cc pc = .ok (.new ik, 3)) (d3 : decode cc (pc + 3) = .ok (.dup, 1)) (d4 : decode cc (pc + 4) = .ok (.ldc is, 2)) (d6 : decode cc (pc + 6) = .ok (.invokespecial ic, 3)) (d9 : decode cc (pc + 9) = .ok (.athrow, 1))
    (hR : 5 < R.frames ∧ (st.map fun v => v.category).sum + 82 ≤ R.locals ∧ cells + 1 ≤ R.cells ∧ slots + 6 ≤ R.slots) (hc : cells + 1 ≤ mc ∧ slots + 6 ≤ ms) (hx : ex = some cls) :
    xA p l e R s m args below meth c D A nL cells slots (vx_MQ below Qc (xX D tys A ws ex) args s mc ms A) pc lv st ws := by
  intro H locs ls hP hD hS hl9
  obtain ⟨sa, hsa⟩ := hE.2.2.1 _ hstr
  have hat9 : ∀ w ∈ vx_atS RX3 ic cls ["java/lang/RuntimeException", "java/lang/Exception"], w.before args s = true := vx_hat (B := xEw) (fun w hw => C.2.2.2.2.1 w (hat w hw)) hbad (fun w hw => va_Nw.use (by
    simp only [xEw, List.mem_cons, List.not_mem_nil, or_false] at hw
    rcases hw with rfl | rfl | rfl | rfl | rfl | rfl | rfl | rfl <;> rfl) (hE.1 w hw))
  exact vx_throwS C.1 C.2.1 hl C.2.2.2.1 hcls (by decide +kernel) (C.2.2.2.2.1 _ hk) (C.2.2.2.2.1 _ hini) hsa hat9 hgood hE.2.2.2.1 hE.2.2.2.2 hS (hl9.1.trans C.2.2.1.symm) d0 d3 d4 d6 d9 (fun x hx9 => (hout x hx9).elim) hR.1 hR.2.1 hR.2.2.1 hR.2.2.2 C.2.2.2.2.2.2.2.1
    (fun t hvm hz hk9 => ⟨(), trivial, ⟨hx, ⟨hP.kept (fun k q hq => hk9 q.1 ((hP k q hq).lt)), va_K.moved hvm C.2.2.2.2.2.1, hD⟩⟩, ⟨Nat.le_trans hS.1 hz, fun q h1 h2 => (hk9 q (Nat.lt_of_lt_of_le h1 hS.1)).trans (hS.2.1 q h1 h2)⟩⟩) hS.2.2 hc.1 hc.2
end XCALL
/-! ===== END calls ===== -/
end
section
/-! ===== BEGIN world: the class's cells cW (0 the fleet, 1 kindsOfVersion, 2 the ways, 3 fleet, 4 campaigns, 5 images, 6 deltas, 7 leastByDeltas, 8 leastByImage, 9.. devices, 19.. campaigns, 25.. rows of deltas, 33.. rows of leastByDeltas), the reference's mW ===== -/
def dl (g : Nat → Int32) : List Value := [.int (g 0), .int (g 1), .int (g 2), .int (g 3), .int (g 4), .int (g 5), .int (g 6), .int (g 7), .int (g 8)]
def kl (g : Nat → Int32) : List Value := [.int (g 0), .int (g 1), .int (g 2), .int (g 3), .int (g 4), .int (g 5), .int (g 6), .int (g 7), .int (g 8), .int (g 9), .int (g 10), .int (g 11), .int (g 12)]
def rl (a : Nat → Nat) (g : Nat → Int32) : List Value := [.ref (a 1), .ref (a 2), .ref (a 3), .ref (a 4), .int (g 4), .int (g 5), .int (g 6)]
def wl (a : Nat → Nat) : List Value := [.ref (a 5), .ref (a 6), .ref (a 7), .ref (a 8)]
def ml (b : Nat → Nat) (g : Nat → Int32) : List Value := [.int (g 0), .int (g 1), .ref (b 1), .ref (b 2), .ref (b 3), .ref (b 4), .int (g 6), .ref (b 5), .ref (b 6), .ref (b 7), .ref (b 8), .ref (b 9), .ref (b 10), .ref (b 11), .ref (b 12), .int (g 15), .ref (b 13), .ref (b 14), .ref (b 15), .ref (b 16), .ref (b 17), .ref (b 18), .ref (b 19), .ref (b 20), .ref (b 21), .ref (b 22), .ref (b 23)]
def tyC (cy : Nat → ClassId) : List (ClassId × FieldType) := [(cy 0, .int), (cy 1, .object "Ringroll$Device"), (cy 2, .object "Ringroll$Campaign"), (cy 3, .array .int), (cy 4, .boolean), (cy 5, .long)]
def cF (cy : Nat → ClassId) (a : Nat → Nat) (p : Nat) (g : Nat → Int32) : va_E :=
  if p = 0 then .inr (3, rl a g) else if p = 2 then .inr (2, wl a)
  else if p = 3 then .inl (cy 1, 10, .inr (.inr (.inr (.inr (fun i => some (a (9 + i)))))))
  else if p = 4 then .inl (cy 2, 6, .inr (.inr (.inr (.inr (fun i => some (a (19 + i)))))))
  else if p = 6 then .inl (cy 3, 8, .inr (.inr (.inr (.inr (fun i => some (a (25 + i)))))))
  else if p = 7 then .inl (cy 3, 8, .inr (.inr (.inr (.inr (fun i => some (a (33 + i)))))))
  else if 9 ≤ p ∧ p < 19 then .inr (1, dl g) else if 19 ≤ p ∧ p < 25 then .inr (0, kl g) else .inl (cy 0, 8, .inl g)
def cW (cy : Nat → ClassId) (a : Nat → Nat) (X : va_W) (V : XV) : va_W := xw 41 a (fun p => cF cy a p (V p)) ++ X
def mLen (p : Nat) : Nat := if p < 3 then 8 else if p = 3 then 64 else if p = 4 then 8 else if p < 13 then 10 else if p = 18 then 18 else 6
def mF (cy : Nat → ClassId) (b : Nat → Nat) (p : Nat) (g : Nat → Int32) : va_E := if p = 0 then .inr (4, ml b g) else if p = 16 then .inl (cy 4, 6, .inl g) else .inl (cy 0, mLen p, .inl g)
def mW (cy : Nat → ClassId) (b : Nat → Nat) (X : va_W) (V : XV) : va_W := xw 24 b (fun p => mF cy b p (V p)) ++ X
theorem cF_R (cy : Nat → ClassId) (a : Nat → Nat) (g : Nat → Int32) : cF cy a 0 g = .inr (3, rl a g) := rfl
theorem cF_W (cy : Nat → ClassId) (a : Nat → Nat) (g : Nat → Int32) : cF cy a 2 g = .inr (2, wl a) := rfl
theorem cF_D (cy : Nat → ClassId) (a : Nat → Nat) (g : Nat → Int32) {p : Nat} (h : 9 ≤ p ∧ p < 19) : cF cy a p g = .inr (1, dl g) := by
  unfold cF
  rw [if_neg (by omega), if_neg (by omega), if_neg (by omega), if_neg (by omega), if_neg (by omega), if_neg (by omega), if_pos h]
theorem cF_K (cy : Nat → ClassId) (a : Nat → Nat) (g : Nat → Int32) {p : Nat} (h : 19 ≤ p ∧ p < 25) : cF cy a p g = .inr (0, kl g) := by
  unfold cF
  rw [if_neg (by omega), if_neg (by omega), if_neg (by omega), if_neg (by omega), if_neg (by omega), if_neg (by omega), if_neg (by omega), if_pos h]
def cI (p : Nat) : Prop := p = 1 ∨ p = 5 ∨ p = 8 ∨ (25 ≤ p ∧ p < 41)
theorem cF_I (cy : Nat → ClassId) (a : Nat → Nat) (g : Nat → Int32) {p : Nat} (h : cI p) : cF cy a p g = .inl (cy 0, 8, .inl g) := by
  unfold cI at h
  unfold cF
  rw [if_neg (by omega), if_neg (by omega), if_neg (by omega), if_neg (by omega), if_neg (by omega), if_neg (by omega), if_neg (by omega), if_neg (by omega)]
theorem mF_I (cy : Nat → ClassId) (b : Nat → Nat) (g : Nat → Int32) {p : Nat} (h : p ≠ 0 ∧ p ≠ 16) : mF cy b p g = .inl (cy 0, mLen p, .inl g) := by
  unfold mF
  rw [if_neg h.1, if_neg h.2]
theorem mF_Z (cy : Nat → ClassId) (b : Nat → Nat) (g : Nat → Int32) : mF cy b 16 g = .inl (cy 4, 6, .inl g) := rfl
theorem mF_M (cy : Nat → ClassId) (b : Nat → Nat) (g : Nat → Int32) : mF cy b 0 g = .inr (4, ml b g) := rfl
theorem cW_R (cy : Nat → ClassId) (a : Nat → Nat) (X : va_W) (V : XV) : (cW cy a X V)[0]? = some (a 0, .inr (3, rl a (V 0))) := xw_get (by decide)
theorem cW_W (cy : Nat → ClassId) (a : Nat → Nat) (X : va_W) (V : XV) : (cW cy a X V)[2]? = some (a 2, .inr (2, wl a)) := xw_get (by decide)
theorem cW_D (cy : Nat → ClassId) (a : Nat → Nat) (X : va_W) (V : XV) {p : Nat} (h : 9 ≤ p ∧ p < 19) : (cW cy a X V)[p]? = some (a p, .inr (1, dl (V p))) := (xw_get (by omega)).trans (by rw [cF_D cy a (V p) h])
theorem cW_K (cy : Nat → ClassId) (a : Nat → Nat) (X : va_W) (V : XV) {p : Nat} (h : 19 ≤ p ∧ p < 25) : (cW cy a X V)[p]? = some (a p, .inr (0, kl (V p))) := (xw_get (by omega)).trans (by rw [cF_K cy a (V p) h])
theorem mW_M (cy : Nat → ClassId) (b : Nat → Nat) (X : va_W) (V : XV) : (mW cy b X V)[0]? = some (b 0, .inr (4, ml b (V 0))) := xw_get (by decide)
theorem xs_cell (F : Nat → (Nat → Int32) → va_E) (V : XV) (p k : Nat) (v : Int32) : (fun q => F q (xs V p k v q)) p = F p (upd (V p) k v) := by
  show F p (xs V p k v p) = _
  rw [xs_at]
theorem xs_rest (F : Nat → (Nat → Int32) → va_E) (V : XV) (p k : Nat) (v : Int32) : ∀ q, q ≠ p → (fun q => F q (xs V p k v q)) q = (fun q => F q (V q)) q := fun q h => by
  show F q (xs V p k v q) = F q (V q)
  rw [xs_off V k v h]

theorem dl_get  (g : Nat → Int32) : ∀ k, k < 9 → (dl g)[k]? = some (.int (g k))
  | 0, _ => rfl
  | 1, _ => rfl
  | 2, _ => rfl
  | 3, _ => rfl
  | 4, _ => rfl
  | 5, _ => rfl
  | 6, _ => rfl
  | 7, _ => rfl
  | 8, _ => rfl
  | k + 9, h => absurd h (by omega)
theorem dl_set  (g : Nat → Int32) (v : Int32) : ∀ k, k < 9 → (dl g).set k (.int v) = dl (upd g k v)
  | 0, _ => rfl
  | 1, _ => rfl
  | 2, _ => rfl
  | 3, _ => rfl
  | 4, _ => rfl
  | 5, _ => rfl
  | 6, _ => rfl
  | 7, _ => rfl
  | 8, _ => rfl
  | k + 9, h => absurd h (by omega)
theorem kl_get  (g : Nat → Int32) : ∀ k, k < 13 → (kl g)[k]? = some (.int (g k))
  | 0, _ => rfl
  | 1, _ => rfl
  | 2, _ => rfl
  | 3, _ => rfl
  | 4, _ => rfl
  | 5, _ => rfl
  | 6, _ => rfl
  | 7, _ => rfl
  | 8, _ => rfl
  | 9, _ => rfl
  | 10, _ => rfl
  | 11, _ => rfl
  | 12, _ => rfl
  | k + 13, h => absurd h (by omega)
theorem kl_set  (g : Nat → Int32) (v : Int32) : ∀ k, k < 13 → (kl g).set k (.int v) = kl (upd g k v)
  | 0, _ => rfl
  | 1, _ => rfl
  | 2, _ => rfl
  | 3, _ => rfl
  | 4, _ => rfl
  | 5, _ => rfl
  | 6, _ => rfl
  | 7, _ => rfl
  | 8, _ => rfl
  | 9, _ => rfl
  | 10, _ => rfl
  | 11, _ => rfl
  | 12, _ => rfl
  | k + 13, h => absurd h (by omega)
theorem rl_get (a : Nat → Nat) (g : Nat → Int32) : ∀ k, 4 ≤ k ∧ k < 7 → (rl a g)[k]? = some (.int (g k))
  | 4, _ => rfl
  | 5, _ => rfl
  | 6, _ => rfl
  | 0, h => absurd h (by omega)
  | 1, h => absurd h (by omega)
  | 2, h => absurd h (by omega)
  | 3, h => absurd h (by omega)
  | k + 7, h => absurd h (by omega)
theorem rl_set (a : Nat → Nat) (g : Nat → Int32) (v : Int32) : ∀ k, 4 ≤ k ∧ k < 7 → (rl a g).set k (.int v) = rl a (upd g k v)
  | 4, _ => rfl
  | 5, _ => rfl
  | 6, _ => rfl
  | 0, h => absurd h (by omega)
  | 1, h => absurd h (by omega)
  | 2, h => absurd h (by omega)
  | 3, h => absurd h (by omega)
  | k + 7, h => absurd h (by omega)
def mI (k : Nat) : Prop := k = 0 ∨ k = 1 ∨ k = 6 ∨ k = 15
theorem ml_get (b : Nat → Nat) (g : Nat → Int32) {k : Nat} (h : mI k) : (ml b g)[k]? = some (.int (g k)) := by
  rcases h with rfl | rfl | rfl | rfl <;> rfl
theorem ml_set (b : Nat → Nat) (g : Nat → Int32) (v : Int32) {k : Nat} (h : mI k) : (ml b g).set k (.int v) = ml b (upd g k v) := by
  rcases h with rfl | rfl | rfl | rfl <;> rfl
theorem tF1 : ∀ k, k < 9 → (TX1 k).1 = "Ringroll$Device" ∧ tyX1 k = .int := by decide +kernel
theorem tF0 : ∀ k, k < 13 → (TX0 k).1 = "Ringroll$Campaign" := by decide +kernel
theorem tF0i : ∀ k, k < 13 → k ≠ 8 → tyX0 k = .int := by decide +kernel
theorem tF0f : ∀ k, k < 13 → k ≠ 0 → (TX0 k).2.2.2 = false := by decide +kernel
theorem tF1f : ∀ k, k < 9 → k ≠ 0 → (TX1 k).2.2.2 = false := by decide +kernel
theorem tF3 : ∀ k, k < 7 → (TX3 k).1 = "Ringroll" := by decide +kernel
theorem tF4 : ∀ k, k < 27 → (TX4 k).1 = "RingrollModel" := by decide +kernel
theorem tF2 : ∀ k, k < 4 → (TX2 k).1 = "Ringroll$Ways" := by decide +kernel
section XW
variable {p : Program} {l : Launch} {e : Env} {R : Room} {s : State} {m : MethodId} {args : Array Value} {below : List Frame} {meth : Method} {c : Code} {cells slots : Nat} {Q : State → Prop} {cc : ByteArray} {nL : Nat} {own : String} {Ts : List Cond} {D : va_G} {A : Nat → Prop} {ret : Option FieldType} {pc : Nat} {lv : List (Nat × Value)} {st : List Value} {cy : Nat → ClassId} {a b : Nat → Nat} {X : va_W} {V : XV} {index : Nat}

theorem x_getD (C : xC p s m args meth c cc nL own Ts D (tyC cy) A ret) {p0 : Nat} (k : Nat) (hp : 9 ≤ p0 ∧ p0 < 19) (hk : k < 9) (hin : ∀ w ∈ wsX10, w ∈ Ts) (hlink : Cond.fieldLink own index "Ringroll$Device" (TX1 k).2.1 (TX1 k).2.2.1 ∈ Ts) (hd : decode cc pc = .ok (.getfield index, 3))
    (kk : xA p l e R s m args below meth c D A nL cells slots Q (pc + 3) lv (.int (V p0 k) :: st) (cW cy a X V)) : xA p l e R s m args below meth c D A nL cells slots Q pc lv (.ref (a p0) :: st) (cW cy a X V) :=
  x_get (E := fun q => cF cy a q (V q)) C (by omega) (cF_D cy a (V p0) hp) rfl k hk hin hlink (tF1 k hk).1 (dl_get _ k hk) hd kk
theorem x_putD (C : xC p s m args meth c cc nL own Ts D (tyC cy) A ret) {p0 : Nat} {v : Int32} (k : Nat) (hp : 9 ≤ p0 ∧ p0 < 19) (hk : k < 9) (hk0 : k ≠ 0) (hin : ∀ w ∈ wsX10, w ∈ Ts) (hlink : Cond.fieldLink own index "Ringroll$Device" (TX1 k).2.1 (TX1 k).2.2.1 ∈ Ts) (hd : decode cc pc = .ok (.putfield index, 3))
    (kk : xA p l e R s m args below meth c D A nL cells slots Q (pc + 3) lv st (cW cy a X (xs V p0 k v))) : xA p l e R s m args below meth c D A nL cells slots Q pc lv (.int v :: .ref (a p0) :: st) (cW cy a X V) :=
  x_put (E := fun q => cF cy a q (V q)) (E' := fun q => cF cy a q (xs V p0 k v q)) C tyX1 tyX1_ok nmX1 (by omega) (cF_D cy a (V p0) hp) rfl k hk hin hlink (tF1 k hk).1 (tF1f k hk hk0) (tF1 k hk).2 rfl rfl hk hd ((xs_cell (cF cy a) V p0 k v).trans (by rw [cF_D cy a _ hp, dl_set _ v k hk])) (xs_rest (cF cy a) V p0 k v) kk
theorem x_getK (C : xC p s m args meth c cc nL own Ts D (tyC cy) A ret) {p0 : Nat} (k : Nat) (hp : 19 ≤ p0 ∧ p0 < 25) (hk : k < 13) (hin : ∀ w ∈ wsX00, w ∈ Ts) (hlink : Cond.fieldLink own index "Ringroll$Campaign" (TX0 k).2.1 (TX0 k).2.2.1 ∈ Ts) (hd : decode cc pc = .ok (.getfield index, 3))
    (kk : xA p l e R s m args below meth c D A nL cells slots Q (pc + 3) lv (.int (V p0 k) :: st) (cW cy a X V)) : xA p l e R s m args below meth c D A nL cells slots Q pc lv (.ref (a p0) :: st) (cW cy a X V) :=
  x_get (E := fun q => cF cy a q (V q)) C (by omega) (cF_K cy a (V p0) hp) rfl k hk hin hlink (tF0 k hk) (kl_get _ k hk) hd kk
theorem x_putK (C : xC p s m args meth c cc nL own Ts D (tyC cy) A ret) {p0 : Nat} {v : Int32} (k : Nat) (hp : 19 ≤ p0 ∧ p0 < 25) (hk : k < 13) (hk0 : k ≠ 0 ∧ k ≠ 8) (hin : ∀ w ∈ wsX00, w ∈ Ts) (hlink : Cond.fieldLink own index "Ringroll$Campaign" (TX0 k).2.1 (TX0 k).2.2.1 ∈ Ts) (hd : decode cc pc = .ok (.putfield index, 3))
    (kk : xA p l e R s m args below meth c D A nL cells slots Q (pc + 3) lv st (cW cy a X (xs V p0 k v))) : xA p l e R s m args below meth c D A nL cells slots Q pc lv (.int v :: .ref (a p0) :: st) (cW cy a X V) :=
  x_put (E := fun q => cF cy a q (V q)) (E' := fun q => cF cy a q (xs V p0 k v q)) C tyX0 tyX0_ok nmX0 (by omega) (cF_K cy a (V p0) hp) rfl k hk hin hlink (tF0 k hk) (tF0f k hk hk0.1) (tF0i k hk hk0.2) rfl rfl hk hd ((xs_cell (cF cy a) V p0 k v).trans (by rw [cF_K cy a _ hp, kl_set _ v k hk])) (xs_rest (cF cy a) V p0 k v) kk
theorem x_putKz (C : xC p s m args meth c cc nL own Ts D (tyC cy) A ret) {p0 : Nat} {v : Int32} (hp : 19 ≤ p0 ∧ p0 < 25) (hn : narrow .boolean (.int v) = .int v) (hf : fits .boolean (.int v) = true) (hin : ∀ w ∈ wsX00, w ∈ Ts) (hlink : Cond.fieldLink own index "Ringroll$Campaign" (TX0 8).2.1 (TX0 8).2.2.1 ∈ Ts) (hd : decode cc pc = .ok (.putfield index, 3))
    (kk : xA p l e R s m args below meth c D A nL cells slots Q (pc + 3) lv st (cW cy a X (xs V p0 8 v))) : xA p l e R s m args below meth c D A nL cells slots Q pc lv (.int v :: .ref (a p0) :: st) (cW cy a X V) :=
  x_put (E := fun q => cF cy a q (V q)) (E' := fun q => cF cy a q (xs V p0 8 v q)) C tyX0 tyX0_ok nmX0 (by omega) (cF_K cy a (V p0) hp) rfl 8 (by decide) hin hlink (tF0 8 (by decide)) (tF0f 8 (by decide) (by decide)) (show tyX0 8 = .boolean from rfl) hn hf (by decide : 8 < 13) hd ((xs_cell (cF cy a) V p0 8 v).trans (by rw [cF_K cy a _ hp, kl_set _ v 8 (by decide)])) (xs_rest (cF cy a) V p0 8 v) kk
theorem x_getR (C : xC p s m args meth c cc nL own Ts D (tyC cy) A ret)  (k : Nat)  (hk : 4 ≤ k ∧ k < 7) (hin : ∀ w ∈ wsX30, w ∈ Ts) (hlink : Cond.fieldLink own index "Ringroll" (TX3 k).2.1 (TX3 k).2.2.1 ∈ Ts) (hd : decode cc pc = .ok (.getfield index, 3))
    (kk : xA p l e R s m args below meth c D A nL cells slots Q (pc + 3) lv (.int (V 0 k) :: st) (cW cy a X V)) : xA p l e R s m args below meth c D A nL cells slots Q pc lv (.ref (a 0) :: st) (cW cy a X V) :=
  x_get (E := fun q => cF cy a q (V q)) C (by decide) (cF_R cy a (V 0)) rfl k hk.2 hin hlink (tF3 k hk.2) (rl_get _ _ k hk) hd kk
theorem x_putR (C : xC p s m args meth c cc nL own Ts D (tyC cy) A ret)  {v : Int32} (k : Nat)  (hk : 4 ≤ k ∧ k < 7)  (hin : ∀ w ∈ wsX30, w ∈ Ts) (hlink : Cond.fieldLink own index "Ringroll" (TX3 k).2.1 (TX3 k).2.2.1 ∈ Ts) (hd : decode cc pc = .ok (.putfield index, 3))
    (kk : xA p l e R s m args below meth c D A nL cells slots Q (pc + 3) lv st (cW cy a X (xs V 0 k v))) : xA p l e R s m args below meth c D A nL cells slots Q pc lv (.int v :: .ref (a 0) :: st) (cW cy a X V) :=
  x_put (E := fun q => cF cy a q (V q)) (E' := fun q => cF cy a q (xs V 0 k v q)) C tyX3 tyX3_ok nmX3 (by decide) (cF_R cy a (V 0)) rfl k hk.2 hin hlink (tF3 k hk.2) (by obtain ⟨h1, h2⟩ := hk; rcases (show k = 4 ∨ k = 5 ∨ k = 6 by omega) with rfl | rfl | rfl <;> rfl) (by obtain ⟨h1, h2⟩ := hk; rcases (show k = 4 ∨ k = 5 ∨ k = 6 by omega) with rfl | rfl | rfl <;> rfl) rfl rfl hk.2 hd ((xs_cell (cF cy a) V 0 k v).trans (by rw [cF_R, rl_set _ _ v k hk])) (xs_rest (cF cy a) V 0 k v) kk
theorem x_getRr (C : xC p s m args meth c cc nL own Ts D (tyC cy) A ret) (k : Nat) (hk : k < 4) (hin : ∀ w ∈ wsX30, w ∈ Ts) (hlink : Cond.fieldLink own index "Ringroll" (TX3 k).2.1 (TX3 k).2.2.1 ∈ Ts) (hd : decode cc pc = .ok (.getfield index, 3))
    (kk : xA p l e R s m args below meth c D A nL cells slots Q (pc + 3) lv (.ref (a (k + 1)) :: st) (cW cy a X V)) : xA p l e R s m args below meth c D A nL cells slots Q pc lv (.ref (a 0) :: st) (cW cy a X V) :=
  x_get (E := fun q => cF cy a q (V q)) C (by decide) (cF_R cy a (V 0)) rfl k (by omega) hin hlink (tF3 k (by omega)) (by rcases (show k = 0 ∨ k = 1 ∨ k = 2 ∨ k = 3 by omega) with rfl | rfl | rfl | rfl <;> rfl) hd kk
theorem x_getWr (C : xC p s m args meth c cc nL own Ts D (tyC cy) A ret) (k : Nat) (hk : k < 4) (hin : ∀ w ∈ wsX20, w ∈ Ts) (hlink : Cond.fieldLink own index "Ringroll$Ways" (TX2 k).2.1 (TX2 k).2.2.1 ∈ Ts) (hd : decode cc pc = .ok (.getfield index, 3))
    (kk : xA p l e R s m args below meth c D A nL cells slots Q (pc + 3) lv (.ref (a (k + 5)) :: st) (cW cy a X V)) : xA p l e R s m args below meth c D A nL cells slots Q pc lv (.ref (a 2) :: st) (cW cy a X V) :=
  x_get (E := fun q => cF cy a q (V q)) C (by decide) (cF_W cy a (V 2)) rfl k hk hin hlink (tF2 k hk) (by rcases (show k = 0 ∨ k = 1 ∨ k = 2 ∨ k = 3 by omega) with rfl | rfl | rfl | rfl <;> rfl) hd kk
theorem x_ialdC (C : xC p s m args meth c cc nL own Ts D (tyC cy) A ret) {p0 j : Nat} {i : Int32} (hp : cI p0) (hi : vp_in i 8) (hj : i.toNatClampNeg = j) (hd : decode cc pc = .ok (.iaload, 1))
    (kk : xA p l e R s m args below meth c D A nL cells slots Q (pc + 1) lv (.int (V p0 j) :: st) (cW cy a X V)) : xA p l e R s m args below meth c D A nL cells slots Q pc lv (.int i :: .ref (a p0) :: st) (cW cy a X V) :=
  x_iald (E := fun q => cF cy a q (V q)) (t0 := 0) C (by unfold cI at hp; omega) (cF_I cy a (V p0) hp) rfl hi (by rw [hj]) hd kk
theorem x_iastC (C : xC p s m args meth c cc nL own Ts D (tyC cy) A ret) {p0 j : Nat} {i v : Int32} (hp : cI p0) (hi : vp_in i 8) (hj : i.toNatClampNeg = j) (hd : decode cc pc = .ok (.iastore, 1))
    (kk : xA p l e R s m args below meth c D A nL cells slots Q (pc + 1) lv st (cW cy a X (xs V p0 j v))) : xA p l e R s m args below meth c D A nL cells slots Q pc lv (.int v :: .int i :: .ref (a p0) :: st) (cW cy a X V) :=
  x_iast (E := fun q => cF cy a q (V q)) (E' := fun q => cF cy a q (xs V p0 j v q)) (t0 := 0) C (by unfold cI at hp; omega) (cF_I cy a (V p0) hp) rfl hi hd ((xs_cell (cF cy a) V p0 j v).trans (by rw [cF_I cy a _ hp, hj])) (xs_rest (cF cy a) V p0 j v) kk
theorem x_aaldF (C : xC p s m args meth c cc nL own Ts D (tyC cy) A ret) {j : Nat} {i : Int32} (hi : vp_in i 10) (hj : i.toNatClampNeg = j) (hd : decode cc pc = .ok (.aaload, 1))
    (kk : xA p l e R s m args below meth c D A nL cells slots Q (pc + 1) lv (.ref (a (9 + j)) :: st) (cW cy a X V)) : xA p l e R s m args below meth c D A nL cells slots Q pc lv (.int i :: .ref (a 3) :: st) (cW cy a X V) :=
  x_aald (E := fun q => cF cy a q (V q)) (ty := .object "Ringroll$Device") (t0 := 1) C (by decide) (show cF cy a 3 (V 3) = _ from rfl) rfl rfl hi (by rw [hj]) hd kk
theorem x_aaldQ (C : xC p s m args meth c cc nL own Ts D (tyC cy) A ret) {j : Nat} {i : Int32} (hi : vp_in i 6) (hj : i.toNatClampNeg = j) (hd : decode cc pc = .ok (.aaload, 1))
    (kk : xA p l e R s m args below meth c D A nL cells slots Q (pc + 1) lv (.ref (a (19 + j)) :: st) (cW cy a X V)) : xA p l e R s m args below meth c D A nL cells slots Q pc lv (.int i :: .ref (a 4) :: st) (cW cy a X V) :=
  x_aald (E := fun q => cF cy a q (V q)) (ty := .object "Ringroll$Campaign") (t0 := 2) C (by decide) (show cF cy a 4 (V 4) = _ from rfl) rfl rfl hi (by rw [hj]) hd kk
theorem x_aaldDe (C : xC p s m args meth c cc nL own Ts D (tyC cy) A ret) {j : Nat} {i : Int32} (hi : vp_in i 8) (hj : i.toNatClampNeg = j) (hd : decode cc pc = .ok (.aaload, 1))
    (kk : xA p l e R s m args below meth c D A nL cells slots Q (pc + 1) lv (.ref (a (25 + j)) :: st) (cW cy a X V)) : xA p l e R s m args below meth c D A nL cells slots Q pc lv (.int i :: .ref (a 6) :: st) (cW cy a X V) :=
  x_aald (E := fun q => cF cy a q (V q)) (ty := .array .int) (t0 := 3) C (by decide) (show cF cy a 6 (V 6) = _ from rfl) rfl rfl hi (by rw [hj]) hd kk
theorem x_aaldLb (C : xC p s m args meth c cc nL own Ts D (tyC cy) A ret) {j : Nat} {i : Int32} (hi : vp_in i 8) (hj : i.toNatClampNeg = j) (hd : decode cc pc = .ok (.aaload, 1))
    (kk : xA p l e R s m args below meth c D A nL cells slots Q (pc + 1) lv (.ref (a (33 + j)) :: st) (cW cy a X V)) : xA p l e R s m args below meth c D A nL cells slots Q pc lv (.int i :: .ref (a 7) :: st) (cW cy a X V) :=
  x_aald (E := fun q => cF cy a q (V q)) (ty := .array .int) (t0 := 3) C (by decide) (show cF cy a 7 (V 7) = _ from rfl) rfl rfl hi (by rw [hj]) hd kk
theorem x_getM (C : xC p s m args meth c cc nL own Ts D (tyC cy) A ret)  (k : Nat)  (hk : mI k) (hin : ∀ w ∈ wsX40, w ∈ Ts) (hlink : Cond.fieldLink own index "RingrollModel" (TX4 k).2.1 (TX4 k).2.2.1 ∈ Ts) (hd : decode cc pc = .ok (.getfield index, 3))
    (kk : xA p l e R s m args below meth c D A nL cells slots Q (pc + 3) lv (.int (V 0 k) :: st) (mW cy b X V)) : xA p l e R s m args below meth c D A nL cells slots Q pc lv (.ref (b 0) :: st) (mW cy b X V) :=
  x_get (E := fun q => mF cy b q (V q)) C (by decide) (mF_M cy b (V 0)) rfl k (by unfold mI at hk; omega) hin hlink (tF4 k (by unfold mI at hk; omega)) (ml_get _ _ hk) hd kk
theorem x_putM (C : xC p s m args meth c cc nL own Ts D (tyC cy) A ret)  {v : Int32} (k : Nat)  (hk : mI k)  (hin : ∀ w ∈ wsX40, w ∈ Ts) (hlink : Cond.fieldLink own index "RingrollModel" (TX4 k).2.1 (TX4 k).2.2.1 ∈ Ts) (hd : decode cc pc = .ok (.putfield index, 3))
    (kk : xA p l e R s m args below meth c D A nL cells slots Q (pc + 3) lv st (mW cy b X (xs V 0 k v))) : xA p l e R s m args below meth c D A nL cells slots Q pc lv (.int v :: .ref (b 0) :: st) (mW cy b X V) :=
  x_put (E := fun q => mF cy b q (V q)) (E' := fun q => mF cy b q (xs V 0 k v q)) C tyX4 tyX4_ok nmX4 (by decide) (mF_M cy b (V 0)) rfl k (by unfold mI at hk; omega) hin hlink (tF4 k (by unfold mI at hk; omega)) (by rcases hk with rfl | rfl | rfl | rfl <;> rfl) (by rcases hk with rfl | rfl | rfl | rfl <;> rfl) rfl rfl (by unfold mI at hk; show k < 27; omega) hd ((xs_cell (mF cy b) V 0 k v).trans (by rw [mF_M, ml_set _ _ v hk])) (xs_rest (mF cy b) V 0 k v) kk
theorem x_getMr (C : xC p s m args meth c cc nL own Ts D (tyC cy) A ret) (k j : Nat) (hf : ∀ (b : Nat → Nat) (g : Nat → Int32), (ml b g)[k]? = some (.ref (b j))) (hk : k < 27) (hin : ∀ w ∈ wsX40, w ∈ Ts) (hlink : Cond.fieldLink own index "RingrollModel" (TX4 k).2.1 (TX4 k).2.2.1 ∈ Ts) (hd : decode cc pc = .ok (.getfield index, 3))
    (kk : xA p l e R s m args below meth c D A nL cells slots Q (pc + 3) lv (.ref (b j) :: st) (mW cy b X V)) : xA p l e R s m args below meth c D A nL cells slots Q pc lv (.ref (b 0) :: st) (mW cy b X V) :=
  x_get (E := fun q => mF cy b q (V q)) C (by decide) (mF_M cy b (V 0)) rfl k hk hin hlink (tF4 k hk) (hf b (V 0)) hd kk
theorem x_ialdM (C : xC p s m args meth c cc nL own Ts D (tyC cy) A ret) {p0 j : Nat} {i : Int32} (hp : p0 < 24 ∧ p0 ≠ 0 ∧ p0 ≠ 16) (hi : vp_in i (mLen p0)) (hj : i.toNatClampNeg = j) (hd : decode cc pc = .ok (.iaload, 1))
    (kk : xA p l e R s m args below meth c D A nL cells slots Q (pc + 1) lv (.int (V p0 j) :: st) (mW cy b X V)) : xA p l e R s m args below meth c D A nL cells slots Q pc lv (.int i :: .ref (b p0) :: st) (mW cy b X V) :=
  x_iald (E := fun q => mF cy b q (V q)) (t0 := 0) C hp.1 (mF_I cy b (V p0) hp.2) rfl hi (by rw [hj]) hd kk
theorem x_iastM (C : xC p s m args meth c cc nL own Ts D (tyC cy) A ret) {p0 j : Nat} {i v : Int32} (hp : p0 < 24 ∧ p0 ≠ 0 ∧ p0 ≠ 16) (hi : vp_in i (mLen p0)) (hj : i.toNatClampNeg = j) (hd : decode cc pc = .ok (.iastore, 1))
    (kk : xA p l e R s m args below meth c D A nL cells slots Q (pc + 1) lv st (mW cy b X (xs V p0 j v))) : xA p l e R s m args below meth c D A nL cells slots Q pc lv (.int v :: .int i :: .ref (b p0) :: st) (mW cy b X V) :=
  x_iast (E := fun q => mF cy b q (V q)) (E' := fun q => mF cy b q (xs V p0 j v q)) (t0 := 0) C hp.1 (mF_I cy b (V p0) hp.2) rfl hi hd ((xs_cell (mF cy b) V p0 j v).trans (by rw [mF_I cy b _ hp.2, hj])) (xs_rest (mF cy b) V p0 j v) kk
theorem x_zaldM (C : xC p s m args meth c cc nL own Ts D (tyC cy) A ret) {j : Nat} {i : Int32} (hi : vp_in i 6) (hj : i.toNatClampNeg = j) (hd : decode cc pc = .ok (.baload, 1))
    (kk : xA p l e R s m args below meth c D A nL cells slots Q (pc + 1) lv (.int (V 16 j) :: st) (mW cy b X V)) : xA p l e R s m args below meth c D A nL cells slots Q pc lv (.int i :: .ref (b 16) :: st) (mW cy b X V) :=
  x_zald (E := fun q => mF cy b q (V q)) (t0 := 4) C (by decide) (mF_Z cy b (V 16)) rfl hi (by rw [hj]) hd kk
theorem x_zastM (C : xC p s m args meth c cc nL own Ts D (tyC cy) A ret) {j : Nat} {i v : Int32} (hi : vp_in i 6) (hj : i.toNatClampNeg = j) (hx : vp_nar .boolean v = v) (hd : decode cc pc = .ok (.bastore, 1))
    (kk : xA p l e R s m args below meth c D A nL cells slots Q (pc + 1) lv st (mW cy b X (xs V 16 j v))) : xA p l e R s m args below meth c D A nL cells slots Q pc lv (.int v :: .int i :: .ref (b 16) :: st) (mW cy b X V) :=
  x_zast (E := fun q => mF cy b q (V q)) (E' := fun q => mF cy b q (xs V 16 j v q)) (t0 := 4) C (by decide) (mF_Z cy b (V 16)) rfl hi hx hd ((xs_cell (mF cy b) V 16 j v).trans (by rw [mF_Z, hj])) (xs_rest (mF cy b) V 16 j v) kk
end XW
/-! ===== END world ===== -/
end
section
/-! ===== BEGIN small: what the small methods of the class answer and do, and their contracts ===== -/
def b2i (b : Bool) : Int32 := match b with
  | true => 1
  | false => 0
theorem b2i_0 (b : Bool) : (b2i b = 0) ↔ (b = false) := by cases b <;> decide
theorem b2i_1 (b : Bool) : (b2i b = 1) ↔ (b = true) := by cases b <;> decide
theorem mI_0 : mI 0 := Or.inl rfl
theorem mI_1 : mI 1 := Or.inr (Or.inl rfl)
theorem mI_6 : mI 6 := Or.inr (Or.inr (Or.inl rfl))
theorem mI_15 : mI 15 := Or.inr (Or.inr (Or.inr rfl))
def hasB (s m : Int32) : Bool := decide ((s >>> (m &&& 31)) &&& 1 = 1)
def inWinB (V : XV) (p : Nat) (h : Int32) : Bool := if V p 5 < V p 4 then (decide (V p 4 ≤ h) || !decide (V p 5 < h)) else (!decide (h < V p 4) && !decide (V p 5 < h))
def canLoadB (V : XV) (p : Nat) (h : Int32) : Bool := decide (V p 6 = 1) && (inWinB V p h && !decide (V p 3 < 20))
def takeV (V : XV) (p q : Nat) (z : Int32) : XV := xs (xs (xs V p 6 1) p 7 (xs V p 6 1 q 0)) p 8 z
def loadV0 (V : XV) (p : Nat) : XV := xs (xs V p 8 (if 0 < V p 8 - 100 then V p 8 - 100 else 0)) p 3 (xs V p 8 (if 0 < V p 8 - 100 then V p 8 - 100 else 0) p 3 - 1)
def loadV (V : XV) (p : Nat) : XV := if loadV0 V p p 8 = 0 then xs (loadV0 V p) p 6 2 else loadV0 V p
def drawI (V : XV) (q p : Nat) : Int32 := (V p 0 * 37 + V q 0 * 11 + 13) - (V p 0 * 37 + V q 0 * 11 + 13) / 100 * 100
def shareI (V : XV) (q : Nat) : Int32 := if V q 9 = 0 then V q 4 else if V q 9 = 1 then V q 5 else 100
def isForB (V : XV) (q p : Nat) : Bool := !decide (V q 8 = 0) && (hasB (V q 2) (V p 1) && (hasB (V q 3) (V p 2) && (!decide (V p 2 = V q 1) && (!decide (shareI V q ≤ drawI V q p) && !hasB (V q 12) (V p 0)))))
def countV0 (V : XV) (q p : Nat) : XV := xs (xs V q 12 (V q 12 ||| (1 <<< (V p 0 &&& 31)))) q 10 (xs V q 12 (V q 12 ||| (1 <<< (V p 0 &&& 31))) q 10 + 1)
def countV (V : XV) (q p : Nat) (well : Int32) : XV := if well = 0 then xs (countV0 V q p) q 11 (countV0 V q p q 11 + 1) else countV0 V q p
def ringV (V : XV) (q : Nat) (r : Int32) : XV := xs (xs (xs V q 9 r) q 10 0) q 11 0
def judgeV (V : XV) (q : Nat) : XV := if V q 8 = 0 then V else if V q 6 ≤ V q 10 then (if V q 11 * 1000 ≤ V q 10 * V q 7 then (if V q 9 = 2 then V else ringV V q (V q 9 + 1)) else xs V q 8 0) else V
def nVx (v : Int32) : Option String := if v < 0 then some xIO else if v < 8 then none else some xIO
def nRx (v lo hi : Int32) : Option String := if v < lo then some xIA else if v ≤ hi then none else some xIA
def nBx (v : Int32) : Option String := if v = -1 then none else nRx v 1 100000
def nCx (V : XV) (v : Int32) : Option String := if v < 0 then some xIO else if v < V 0 5 then none else some xIO
def nDx (V : XV) (v : Int32) : Option String := if v < 0 then some xIO else if v < V 0 4 then none else some xIO
def orFarI (v : Int32) : Int32 := if v = -1 then 1000000 else v
def orNoneI (v : Int32) : Int32 := if v < 1000000 then v else -1
def minI (x y : Int32) : Int32 := if y < x then y else x
def lbI (V : XV) (f t : Int32) : Int32 := if f = t then 0 else orNoneI (minI (V (33 + f.toNatClampNeg) t.toNatClampNeg) (V 8 t.toNatClampNeg))
theorem vp_lt {v n : Int32} {N : Nat} (h0 : ¬ v < 0) (h : v < n) (hn : n.toInt ≤ N) : vp_in v N := by
  rw [vp_in_iff]
  have h1 := Int32.lt_iff_toInt_lt.mp h
  have h2 : ¬ v.toInt < 0 := fun z => h0 (Int32.lt_iff_toInt_lt.mpr z)
  omega
theorem nVx_in {v : Int32} (h : nVx v = none) : vp_in v 8 := by
  unfold nVx at h
  by_cases h0 : v < 0
  · rw [if_pos h0] at h; cases h
  · rw [if_neg h0] at h
    by_cases h8 : v < 8
    · exact vp_lt h0 h8 (by decide)
    · rw [if_neg h8] at h; cases h
theorem nDx_in {V : XV} {v : Int32} {N : Nat} (h : nDx V v = none) (hn : (V 0 4).toInt ≤ N) : vp_in v N := by
  unfold nDx at h
  by_cases h0 : v < 0
  · rw [if_pos h0] at h; cases h
  · rw [if_neg h0] at h
    by_cases h8 : v < V 0 4
    · exact vp_lt h0 h8 hn
    · rw [if_neg h8] at h; cases h
theorem nCx_in {V : XV} {v : Int32} {N : Nat} (h : nCx V v = none) (hn : (V 0 5).toInt ≤ N) : vp_in v N := by
  unfold nCx at h
  by_cases h0 : v < 0
  · rw [if_pos h0] at h; cases h
  · rw [if_neg h0] at h
    by_cases h8 : v < V 0 5
    · exact vp_lt h0 h8 hn
    · rw [if_neg h8] at h; cases h
theorem vp_at {v : Int32} {n : Nat} (h : vp_in v n) : v.toNatClampNeg < n := Nat.not_le.mp fun q => h (Or.inr q)
def rmX3_has : Room := { frames := 0, cells := 0, slots := 0, locals := 0 }
set_option maxHeartbeats 4000000 in
set_option maxRecDepth 100000 in
theorem k_X3_has (l : Launch) (D : va_G) (tys : List (ClassId × FieldType)) (A : Nat → Prop) (ws : va_W) (x y : Int32) : Met l yX3_has wsX3_has rmX3_has (va_Pc [.int x, .int y] (xPre D tys A ws)) (va_Qi (fun (r : Int32) (_ : Unit) => r = b2i (hasB x y)) (fun _ t => xPost D tys A ws t) A) 0 0 A := by
  refine x_met (own := RX3) (by decide) rfl rfl (Nat.le_of_ble_eq_true rfl) rfl ?_
  intro p e s m below meth c hnm C hE
  refine x_iload_n (i := 0) C dX3_has_0 rfl rfl ?_
  refine x_iload_n (i := 1) C dX3_has_1 rfl rfl ?_
  refine x_ishr C dX3_has_2 ?_
  refine x_iconst (v := 1) C dX3_has_3 (by decide) ?_
  refine x_iand C dX3_has_4 ?_
  refine x_iconst (v := 1) C dX3_has_5 (by decide) ?_
  refine x_icmp_ne C 13 dX3_has_6 (by decide) (fun c_6 => ?_) (fun c_6 => ?_)
  · refine x_iconst (v := 0) C dX3_has_13 (by decide) ?_
    exact x_zret (u := ()) C dX3_has_14 ⟨Nat.le_of_ble_eq_true rfl, Nat.le_of_ble_eq_true rfl⟩ rfl (by simp [hasB, b2i, c_6])
  refine x_iconst (v := 1) C dX3_has_9 (by decide) ?_
  refine x_goto C 14 dX3_has_10 (by decide) ?_
  exact x_zret (u := ()) C dX3_has_14 ⟨Nat.le_of_ble_eq_true rfl, Nat.le_of_ble_eq_true rfl⟩ rfl (by simp [hasB, b2i, c_6])
def rmX2_orFar : Room := { frames := 0, cells := 0, slots := 0, locals := 0 }
set_option maxHeartbeats 4000000 in
set_option maxRecDepth 100000 in
theorem k_X2_orFar (l : Launch) (D : va_G) (tys : List (ClassId × FieldType)) (A : Nat → Prop) (ws : va_W) (x : Int32) : Met l yX2_orFar wsX2_orFar rmX2_orFar (va_Pc [.int x] (xPre D tys A ws)) (va_Qi (fun (r : Int32) (_ : Unit) => r = orFarI x) (fun _ t => xPost D tys A ws t) A) 0 0 A := by
  refine x_met (own := RX2) (by decide) rfl rfl (Nat.le_of_ble_eq_true rfl) rfl ?_
  intro p e s m below meth c hnm C hE
  refine x_iload_n (i := 0) C dX2_orFar_0 rfl rfl ?_
  refine x_iconst (v := (-1)) C dX2_orFar_1 (by decide) ?_
  refine x_icmp_ne C 10 dX2_orFar_2 (by decide) (fun c_2 => ?_) (fun c_2 => ?_)
  · refine x_iload_n (i := 0) C dX2_orFar_10 rfl rfl ?_
    exact x_iret (u := ()) C dX2_orFar_11 ⟨Nat.le_of_ble_eq_true rfl, Nat.le_of_ble_eq_true rfl⟩ (by simp [orFarI, c_2])
  refine x_ldc (v := 1000000) C (by decide +kernel) dX2_orFar_5 ?_
  refine x_goto C 11 dX2_orFar_7 (by decide) ?_
  exact x_iret (u := ()) C dX2_orFar_11 ⟨Nat.le_of_ble_eq_true rfl, Nat.le_of_ble_eq_true rfl⟩ (by simp [orFarI, c_2])
def rmX2_orNone : Room := { frames := 0, cells := 0, slots := 0, locals := 0 }
set_option maxHeartbeats 4000000 in
set_option maxRecDepth 100000 in
theorem k_X2_orNone (l : Launch) (D : va_G) (tys : List (ClassId × FieldType)) (A : Nat → Prop) (ws : va_W) (x : Int32) : Met l yX2_orNone wsX2_orNone rmX2_orNone (va_Pc [.int x] (xPre D tys A ws)) (va_Qi (fun (r : Int32) (_ : Unit) => r = orNoneI x) (fun _ t => xPost D tys A ws t) A) 0 0 A := by
  refine x_met (own := RX2) (by decide) rfl rfl (Nat.le_of_ble_eq_true rfl) rfl ?_
  intro p e s m below meth c hnm C hE
  refine x_iload_n (i := 0) C dX2_orNone_0 rfl rfl ?_
  refine x_ldc (v := 1000000) C (by decide +kernel) dX2_orNone_1 ?_
  refine x_icmp_lt C 10 dX2_orNone_3 (by decide) (fun c_3 => ?_) (fun c_3 => ?_)
  · refine x_iload_n (i := 0) C dX2_orNone_10 rfl rfl ?_
    exact x_iret (u := ()) C dX2_orNone_11 ⟨Nat.le_of_ble_eq_true rfl, Nat.le_of_ble_eq_true rfl⟩ (by simp [orNoneI, c_3])
  refine x_iconst (v := (-1)) C dX2_orNone_6 (by decide) ?_
  refine x_goto C 11 dX2_orNone_7 (by decide) ?_
  exact x_iret (u := ()) C dX2_orNone_11 ⟨Nat.le_of_ble_eq_true rfl, Nat.le_of_ble_eq_true rfl⟩ (by simp [orNoneI, c_3])
def rmX3_needVersion : Room := { frames := 6, cells := 1, slots := 6, locals := 92 }
set_option maxHeartbeats 4000000 in
set_option maxRecDepth 100000 in
theorem k_X3_needVersion (l : Launch) (hfl : l.stackTraces = false) (D : va_G) (tys : List (ClassId × FieldType)) (A : Nat → Prop) (ws : va_W) (x : Int32) : vx_Met l yX3_needVersion wsX3_needVersion rmX3_needVersion (va_Pc [.int x] (xPre D tys A ws)) (va_Qv (fun (_ : Unit) => nVx x = none) (fun _ t => xPost D tys A ws t) A) (xX D tys A ws (nVx x)) 1 6 A := by
  refine x_metX (own := RX3) (by decide) rfl rfl (Nat.le_of_ble_eq_true rfl) rfl ?_
  intro p e s m below meth c hout C hE
  refine x_iload_n (i := 0) C dX3_needVersion_0 rfl rfl ?_
  refine x_if_lt C 10 dX3_needVersion_1 (by decide) (fun c_1 => ?_) (fun c_1 => ?_)
  · exact x_throw (cls := xIO) (text := "no such version") hout hfl C hE rfl (by decide +kernel) (by decide +kernel) (by decide) (by decide +kernel) (by decide +kernel) (by decide +kernel) dX3_needVersion_10 dX3_needVersion_13 dX3_needVersion_14 dX3_needVersion_16 dX3_needVersion_19 ⟨Nat.le_of_ble_eq_true rfl, Nat.le_of_ble_eq_true rfl, Nat.le_of_ble_eq_true rfl, Nat.le_of_ble_eq_true rfl⟩ ⟨Nat.le_of_ble_eq_true rfl, Nat.le_of_ble_eq_true rfl⟩ (by simp [nVx, c_1])
  refine x_iload_n (i := 0) C dX3_needVersion_4 rfl rfl ?_
  refine x_bipush (v := 8) C dX3_needVersion_5 (by decide) ?_
  refine x_icmp_lt C 20 dX3_needVersion_7 (by decide) (fun c_7 => ?_) (fun c_7 => ?_)
  · exact x_vretX (u := ()) C dX3_needVersion_20 ⟨Nat.le_of_ble_eq_true rfl, Nat.le_of_ble_eq_true rfl⟩ (by simp [nVx, c_1, c_7])
  exact x_throw (cls := xIO) (text := "no such version") hout hfl C hE rfl (by decide +kernel) (by decide +kernel) (by decide) (by decide +kernel) (by decide +kernel) (by decide +kernel) dX3_needVersion_10 dX3_needVersion_13 dX3_needVersion_14 dX3_needVersion_16 dX3_needVersion_19 ⟨Nat.le_of_ble_eq_true rfl, Nat.le_of_ble_eq_true rfl, Nat.le_of_ble_eq_true rfl, Nat.le_of_ble_eq_true rfl⟩ ⟨Nat.le_of_ble_eq_true rfl, Nat.le_of_ble_eq_true rfl⟩ (by simp [nVx, c_1, c_7])
def rmX3_needRange : Room := { frames := 6, cells := 1, slots := 6, locals := 92 }
set_option maxHeartbeats 4000000 in
set_option maxRecDepth 100000 in
theorem k_X3_needRange (l : Launch) (hfl : l.stackTraces = false) (D : va_G) (tys : List (ClassId × FieldType)) (A : Nat → Prop) (ws : va_W) (x lo hi : Int32) : vx_Met l yX3_needRange wsX3_needRange rmX3_needRange (va_Pc [.int x, .int lo, .int hi] (xPre D tys A ws)) (va_Qv (fun (_ : Unit) => nRx x lo hi = none) (fun _ t => xPost D tys A ws t) A) (xX D tys A ws (nRx x lo hi)) 1 6 A := by
  refine x_metX (own := RX3) (by decide) rfl rfl (Nat.le_of_ble_eq_true rfl) rfl ?_
  intro p e s m below meth c hout C hE
  refine x_iload_n (i := 0) C dX3_needRange_0 rfl rfl ?_
  refine x_iload_n (i := 1) C dX3_needRange_1 rfl rfl ?_
  refine x_icmp_lt C 10 dX3_needRange_2 (by decide) (fun c_2 => ?_) (fun c_2 => ?_)
  · exact x_throw (cls := xIA) (text := "a value is out of range") hout hfl C hE rfl (by decide +kernel) (by decide +kernel) (by decide) (by decide +kernel) (by decide +kernel) (by decide +kernel) dX3_needRange_10 dX3_needRange_13 dX3_needRange_14 dX3_needRange_16 dX3_needRange_19 ⟨Nat.le_of_ble_eq_true rfl, Nat.le_of_ble_eq_true rfl, Nat.le_of_ble_eq_true rfl, Nat.le_of_ble_eq_true rfl⟩ ⟨Nat.le_of_ble_eq_true rfl, Nat.le_of_ble_eq_true rfl⟩ (by simp [nRx, c_2])
  refine x_iload_n (i := 0) C dX3_needRange_5 rfl rfl ?_
  refine x_iload_n (i := 2) C dX3_needRange_6 rfl rfl ?_
  refine x_icmp_le C 20 dX3_needRange_7 (by decide) (fun c_7 => ?_) (fun c_7 => ?_)
  · exact x_vretX (u := ()) C dX3_needRange_20 ⟨Nat.le_of_ble_eq_true rfl, Nat.le_of_ble_eq_true rfl⟩ (by simp [nRx, c_2, c_7])
  exact x_throw (cls := xIA) (text := "a value is out of range") hout hfl C hE rfl (by decide +kernel) (by decide +kernel) (by decide) (by decide +kernel) (by decide +kernel) (by decide +kernel) dX3_needRange_10 dX3_needRange_13 dX3_needRange_14 dX3_needRange_16 dX3_needRange_19 ⟨Nat.le_of_ble_eq_true rfl, Nat.le_of_ble_eq_true rfl, Nat.le_of_ble_eq_true rfl, Nat.le_of_ble_eq_true rfl⟩ ⟨Nat.le_of_ble_eq_true rfl, Nat.le_of_ble_eq_true rfl⟩ (by simp [nRx, c_2, c_7])
def rmX3_needBytesOrNone : Room := { frames := 7, cells := 1, slots := 6, locals := 114 }
set_option maxHeartbeats 4000000 in
set_option maxRecDepth 100000 in
theorem k_X3_needBytesOrNone (l : Launch) (hfl : l.stackTraces = false) (D : va_G) (tys : List (ClassId × FieldType)) (A : Nat → Prop) (ws : va_W) (x : Int32) : vx_Met l yX3_needBytesOrNone wsX3_needBytesOrNone rmX3_needBytesOrNone (va_Pc [.int x] (xPre D tys A ws)) (va_Qv (fun (_ : Unit) => nBx x = none) (fun _ t => xPost D tys A ws t) A) (xX D tys A ws (nBx x)) 1 6 A := by
  refine x_metX (own := RX3) (by decide) rfl rfl (Nat.le_of_ble_eq_true rfl) rfl ?_
  intro p e s m below meth c hout C hE
  refine x_iload_n (i := 0) C dX3_needBytesOrNone_0 rfl rfl ?_
  refine x_iconst (v := (-1)) C dX3_needBytesOrNone_1 (by decide) ?_
  refine x_icmp_eq C 12 dX3_needBytesOrNone_2 (by decide) (fun c_2 => ?_) (fun c_2 => ?_)
  · exact x_vretX (u := ()) C dX3_needBytesOrNone_12 ⟨Nat.le_of_ble_eq_true rfl, Nat.le_of_ble_eq_true rfl⟩ (by simp_all [nBx])
  refine x_iload_n (i := 0) C dX3_needBytesOrNone_5 rfl rfl ?_
  refine x_iconst (v := 1) C dX3_needBytesOrNone_6 (by decide) ?_
  refine x_ldc (v := 100000) C (by decide +kernel) dX3_needBytesOrNone_7 ?_
  refine x_callSvX hout C hE (k_X3_needRange l hfl D _ A _ _ _ _) (va_cwS 3 C.2.2.2.2.1 gX3_needBytesOrNone_X3_needRange rfl rfl rfl (by decide +kernel) ⟨Nat.le_of_ble_eq_true rfl, Nat.le_of_ble_eq_true rfl⟩)  rfl rfl (Nat.le_of_ble_eq_true rfl) dX3_needBytesOrNone_9 ⟨Nat.le_of_ble_eq_true rfl, Nat.le_of_ble_eq_true rfl⟩ ⟨Nat.le_of_ble_eq_true rfl, Nat.le_of_ble_eq_true rfl⟩ (fun E h9 => by simp [nBx, c_2, h9]) (fun u_9 h_9 => ?_)
  cases u_9
  exact x_vretX (u := ()) C dX3_needBytesOrNone_12 ⟨Nat.le_of_ble_eq_true rfl, Nat.le_of_ble_eq_true rfl⟩ (by simp_all [nBx])
theorem hinX1_isInWindow_X1 : ∀ w ∈ wsX10, w ∈ wsX1_isInWindow := by decide +kernel
def rmX1_isInWindow : Room := { frames := 0, cells := 0, slots := 0, locals := 0 }
set_option maxHeartbeats 4000000 in
set_option maxRecDepth 100000 in
theorem k_X1_isInWindow (l : Launch) (D : va_G) (cy : Nat → ClassId) (a : Nat → Nat) (A : Nat → Prop) (X : va_W) (V : XV) {p0 : Nat} (h : Int32) (hp : 9 ≤ p0 ∧ p0 < 19) : Met l yX1_isInWindow wsX1_isInWindow rmX1_isInWindow (va_Pc [.ref (a p0), .int h] (xPre D (tyC cy) A (cW cy a X V))) (va_Qi (fun (r : Int32) (u : XV) => r = b2i (inWinB V p0 h) ∧ u = V) (fun u t => xPost D (tyC cy) A (cW cy a X u) t) A) 0 0 A := by
  refine x_met (own := RX1) (by decide) rfl rfl (Nat.le_of_ble_eq_true rfl) rfl ?_
  intro p e s m below meth c hnm C hE
  refine x_aload_n (i := 0) C dX1_isInWindow_0 rfl rfl ?_
  refine x_getD C 4 (by omega) (by decide) hinX1_isInWindow_X1 (by decide +kernel) dX1_isInWindow_1 ?_
  refine x_aload_n (i := 0) C dX1_isInWindow_4 rfl rfl ?_
  refine x_getD C 5 (by omega) (by decide) hinX1_isInWindow_X1 (by decide +kernel) dX1_isInWindow_5 ?_
  refine x_icmp_gt C 33 dX1_isInWindow_8 (by decide) (fun c_8 => ?_) (fun c_8 => ?_)
  · refine x_aload_n (i := 0) C dX1_isInWindow_33 rfl rfl ?_
    refine x_getD C 4 (by omega) (by decide) hinX1_isInWindow_X1 (by decide +kernel) dX1_isInWindow_34 ?_
    refine x_iload_n (i := 1) C dX1_isInWindow_37 rfl rfl ?_
    refine x_icmp_le C 49 dX1_isInWindow_38 (by decide) (fun c_38 => ?_) (fun c_38 => ?_)
    · refine x_iconst (v := 1) C dX1_isInWindow_49 (by decide) ?_
      refine x_goto C 54 dX1_isInWindow_50 (by decide) ?_
      exact x_zret  C dX1_isInWindow_54 ⟨Nat.le_of_ble_eq_true rfl, Nat.le_of_ble_eq_true rfl⟩ rfl ⟨by simp [inWinB, b2i, c_8, c_38], rfl⟩
    refine x_iload_n (i := 1) C dX1_isInWindow_41 rfl rfl ?_
    refine x_aload_n (i := 0) C dX1_isInWindow_42 rfl rfl ?_
    refine x_getD C 5 (by omega) (by decide) hinX1_isInWindow_X1 (by decide +kernel) dX1_isInWindow_43 ?_
    refine x_icmp_gt C 53 dX1_isInWindow_46 (by decide) (fun c_46 => ?_) (fun c_46 => ?_)
    · refine x_iconst (v := 0) C dX1_isInWindow_53 (by decide) ?_
      exact x_zret  C dX1_isInWindow_54 ⟨Nat.le_of_ble_eq_true rfl, Nat.le_of_ble_eq_true rfl⟩ rfl ⟨by simp [inWinB, b2i, c_8, c_38, c_46], rfl⟩
    refine x_iconst (v := 1) C dX1_isInWindow_49 (by decide) ?_
    refine x_goto C 54 dX1_isInWindow_50 (by decide) ?_
    exact x_zret  C dX1_isInWindow_54 ⟨Nat.le_of_ble_eq_true rfl, Nat.le_of_ble_eq_true rfl⟩ rfl ⟨by simp [inWinB, b2i, c_8, c_38, c_46], rfl⟩
  refine x_aload_n (i := 0) C dX1_isInWindow_11 rfl rfl ?_
  refine x_getD C 4 (by omega) (by decide) hinX1_isInWindow_X1 (by decide +kernel) dX1_isInWindow_12 ?_
  refine x_iload_n (i := 1) C dX1_isInWindow_15 rfl rfl ?_
  refine x_icmp_gt C 31 dX1_isInWindow_16 (by decide) (fun c_16 => ?_) (fun c_16 => ?_)
  · refine x_iconst (v := 0) C dX1_isInWindow_31 (by decide) ?_
    exact x_zret  C dX1_isInWindow_32 ⟨Nat.le_of_ble_eq_true rfl, Nat.le_of_ble_eq_true rfl⟩ rfl ⟨by simp [inWinB, b2i, c_8, c_16], rfl⟩
  refine x_iload_n (i := 1) C dX1_isInWindow_19 rfl rfl ?_
  refine x_aload_n (i := 0) C dX1_isInWindow_20 rfl rfl ?_
  refine x_getD C 5 (by omega) (by decide) hinX1_isInWindow_X1 (by decide +kernel) dX1_isInWindow_21 ?_
  refine x_icmp_gt C 31 dX1_isInWindow_24 (by decide) (fun c_24 => ?_) (fun c_24 => ?_)
  · refine x_iconst (v := 0) C dX1_isInWindow_31 (by decide) ?_
    exact x_zret  C dX1_isInWindow_32 ⟨Nat.le_of_ble_eq_true rfl, Nat.le_of_ble_eq_true rfl⟩ rfl ⟨by simp [inWinB, b2i, c_8, c_16, c_24], rfl⟩
  refine x_iconst (v := 1) C dX1_isInWindow_27 (by decide) ?_
  refine x_goto C 32 dX1_isInWindow_28 (by decide) ?_
  exact x_zret  C dX1_isInWindow_32 ⟨Nat.le_of_ble_eq_true rfl, Nat.le_of_ble_eq_true rfl⟩ rfl ⟨by simp [inWinB, b2i, c_8, c_16, c_24], rfl⟩
theorem hinX1_canLoad_X1 : ∀ w ∈ wsX10, w ∈ wsX1_canLoad := by decide +kernel
def rmX1_canLoad : Room := { frames := 1, cells := 0, slots := 0, locals := 21 }
set_option maxHeartbeats 4000000 in
set_option maxRecDepth 100000 in
theorem k_X1_canLoad (l : Launch) (D : va_G) (cy : Nat → ClassId) (a : Nat → Nat) (A : Nat → Prop) (X : va_W) (V : XV) {p0 : Nat} (h : Int32) (hp : 9 ≤ p0 ∧ p0 < 19) : Met l yX1_canLoad wsX1_canLoad rmX1_canLoad (va_Pc [.ref (a p0), .int h] (xPre D (tyC cy) A (cW cy a X V))) (va_Qi (fun (r : Int32) (u : XV) => r = b2i (canLoadB V p0 h) ∧ u = V) (fun u t => xPost D (tyC cy) A (cW cy a X u) t) A) 0 0 A := by
  refine x_met (own := RX1) (by decide) rfl rfl (Nat.le_of_ble_eq_true rfl) rfl ?_
  intro p e s m below meth c hnm C hE
  refine x_aload_n (i := 0) C dX1_canLoad_0 rfl rfl ?_
  refine x_getD C 6 (by omega) (by decide) hinX1_canLoad_X1 (by decide +kernel) dX1_canLoad_1 ?_
  refine x_iconst (v := 1) C dX1_canLoad_4 (by decide) ?_
  refine x_icmp_ne C 29 dX1_canLoad_5 (by decide) (fun c_5 => ?_) (fun c_5 => ?_)
  · refine x_iconst (v := 0) C dX1_canLoad_29 (by decide) ?_
    exact x_zret  C dX1_canLoad_30 ⟨Nat.le_of_ble_eq_true rfl, Nat.le_of_ble_eq_true rfl⟩ rfl ⟨by simp [canLoadB, b2i, b2i_0, c_5] <;> simp_all [b2i_0], rfl⟩
  refine x_aload_n (i := 0) C dX1_canLoad_8 rfl rfl ?_
  refine x_iload_n (i := 1) C dX1_canLoad_9 rfl rfl ?_
  refine x_callVi C hE (k_X1_isInWindow l D cy a A X _ _ (by omega)) (cwV 1 C.2.2.2.2.1 gX1_canLoad_X1_isInWindow rfl rfl rfl (by decide +kernel) ⟨Nat.le_of_ble_eq_true rfl, Nat.le_of_ble_eq_true rfl⟩) _ (cW_D cy a X _ (by omega)) rfl rfl rfl rfl (Nat.le_of_ble_eq_true rfl) dX1_canLoad_10 ⟨Nat.le_of_ble_eq_true rfl, Nat.le_of_ble_eq_true rfl⟩ (fun r_10 u_10 h_10 => ?_)
  obtain ⟨rfl, e9_10⟩ := h_10
  rw [e9_10]
  refine x_if_eq C 29 dX1_canLoad_13 (by decide) (fun c_13 => ?_) (fun c_13 => ?_)
  · refine x_iconst (v := 0) C dX1_canLoad_29 (by decide) ?_
    exact x_zret  C dX1_canLoad_30 ⟨Nat.le_of_ble_eq_true rfl, Nat.le_of_ble_eq_true rfl⟩ rfl ⟨by simp [canLoadB, b2i, b2i_0, c_5, c_13] <;> simp_all [b2i_0], rfl⟩
  refine x_aload_n (i := 0) C dX1_canLoad_16 rfl rfl ?_
  refine x_getD C 3 (by omega) (by decide) hinX1_canLoad_X1 (by decide +kernel) dX1_canLoad_17 ?_
  refine x_bipush (v := 20) C dX1_canLoad_20 (by decide) ?_
  refine x_icmp_lt C 29 dX1_canLoad_22 (by decide) (fun c_22 => ?_) (fun c_22 => ?_)
  · refine x_iconst (v := 0) C dX1_canLoad_29 (by decide) ?_
    exact x_zret  C dX1_canLoad_30 ⟨Nat.le_of_ble_eq_true rfl, Nat.le_of_ble_eq_true rfl⟩ rfl ⟨by simp [canLoadB, b2i, b2i_0, c_5, c_13, c_22] <;> simp_all [b2i_0], rfl⟩
  refine x_iconst (v := 1) C dX1_canLoad_25 (by decide) ?_
  refine x_goto C 30 dX1_canLoad_26 (by decide) ?_
  exact x_zret  C dX1_canLoad_30 ⟨Nat.le_of_ble_eq_true rfl, Nat.le_of_ble_eq_true rfl⟩ rfl ⟨by simp [canLoadB, b2i, b2i_0, c_5, c_13, c_22] <;> simp_all [b2i_0], rfl⟩
theorem hinX1_take_X0 : ∀ w ∈ wsX00, w ∈ wsX1_take := by decide +kernel
theorem hinX1_take_X1 : ∀ w ∈ wsX10, w ∈ wsX1_take := by decide +kernel
def rmX1_take : Room := { frames := 0, cells := 0, slots := 0, locals := 0 }
set_option maxHeartbeats 4000000 in
set_option maxRecDepth 100000 in
theorem k_X1_take (l : Launch) (D : va_G) (cy : Nat → ClassId) (a : Nat → Nat) (A : Nat → Prop) (X : va_W) (V : XV) {p0 q0 : Nat} (z : Int32) (hp : 9 ≤ p0 ∧ p0 < 19) (hq : 19 ≤ q0 ∧ q0 < 25) : Met l yX1_take wsX1_take rmX1_take (va_Pc [.ref (a p0), .ref (a q0), .int z] (xPre D (tyC cy) A (cW cy a X V))) (va_Qv (fun (u : XV) => u = takeV V p0 q0 z) (fun u t => xPost D (tyC cy) A (cW cy a X u) t) A) 0 0 A := by
  refine x_met (own := RX1) (by decide) rfl rfl (Nat.le_of_ble_eq_true rfl) rfl ?_
  intro p e s m below meth c hnm C hE
  refine x_aload_n (i := 0) C dX1_take_0 rfl rfl ?_
  refine x_iconst (v := 1) C dX1_take_1 (by decide) ?_
  refine x_putD C 6 (by omega) (by decide) (by decide) hinX1_take_X1 (by decide +kernel) dX1_take_2 ?_
  refine x_aload_n (i := 0) C dX1_take_5 rfl rfl ?_
  refine x_aload_n (i := 1) C dX1_take_6 rfl rfl ?_
  refine x_getK C 0 (by omega) (by decide) hinX1_take_X0 (by decide +kernel) dX1_take_7 ?_
  refine x_putD C 7 (by omega) (by decide) (by decide) hinX1_take_X1 (by decide +kernel) dX1_take_10 ?_
  refine x_aload_n (i := 0) C dX1_take_13 rfl rfl ?_
  refine x_iload_n (i := 2) C dX1_take_14 rfl rfl ?_
  refine x_putD C 8 (by omega) (by decide) (by decide) hinX1_take_X1 (by decide +kernel) dX1_take_15 ?_
  exact x_vret  C dX1_take_18 ⟨Nat.le_of_ble_eq_true rfl, Nat.le_of_ble_eq_true rfl⟩ rfl
theorem hinX1_load_X1 : ∀ w ∈ wsX10, w ∈ wsX1_load := by decide +kernel
def rmX1_load : Room := { frames := 1, cells := 0, slots := 0, locals := 24 }
set_option maxHeartbeats 4000000 in
set_option maxRecDepth 100000 in
theorem k_X1_load (l : Launch) (D : va_G) (cy : Nat → ClassId) (a : Nat → Nat) (A : Nat → Prop) (X : va_W) (V : XV) {p0 : Nat} (hp : 9 ≤ p0 ∧ p0 < 19) : Met l yX1_load wsX1_load rmX1_load (va_Pc [.ref (a p0)] (xPre D (tyC cy) A (cW cy a X V))) (va_Qv (fun (u : XV) => u = loadV V p0) (fun u t => xPost D (tyC cy) A (cW cy a X u) t) A) 0 0 A := by
  refine x_met (own := RX1) (by decide) rfl rfl (Nat.le_of_ble_eq_true rfl) rfl ?_
  intro p e s m below meth c hnm C hE
  refine x_aload_n (i := 0) C dX1_load_0 rfl rfl ?_
  refine x_iconst (v := 0) C dX1_load_1 (by decide) ?_
  refine x_aload_n (i := 0) C dX1_load_2 rfl rfl ?_
  refine x_getD C 8 (by omega) (by decide) hinX1_load_X1 (by decide +kernel) dX1_load_3 ?_
  refine x_bipush (v := 100) C dX1_load_6 (by decide) ?_
  refine x_isub C dX1_load_8 ?_
  refine x_max C (by decide +kernel) (by decide +kernel) (by decide +kernel) (by decide +kernel) ⟨Nat.le_of_ble_eq_true rfl, Nat.le_of_ble_eq_true rfl, Nat.le_of_ble_eq_true rfl, Nat.le_of_ble_eq_true rfl⟩ dX1_load_9 rfl ?_
  refine x_putD C 8 (by omega) (by decide) (by decide) hinX1_load_X1 (by decide +kernel) dX1_load_12 ?_
  refine x_aload_n (i := 0) C dX1_load_15 rfl rfl ?_
  refine x_dup C dX1_load_16 rfl ?_
  refine x_getD C 3 (by omega) (by decide) hinX1_load_X1 (by decide +kernel) dX1_load_17 ?_
  refine x_iconst (v := 1) C dX1_load_20 (by decide) ?_
  refine x_isub C dX1_load_21 ?_
  refine x_putD C 3 (by omega) (by decide) (by decide) hinX1_load_X1 (by decide +kernel) dX1_load_22 ?_
  refine x_aload_n (i := 0) C dX1_load_25 rfl rfl ?_
  refine x_getD C 8 (by omega) (by decide) hinX1_load_X1 (by decide +kernel) dX1_load_26 ?_
  refine x_if_ne C 37 dX1_load_29 (by decide) (fun c_29 => ?_) (fun c_29 => ?_)
  · exact x_vret  C dX1_load_37 ⟨Nat.le_of_ble_eq_true rfl, Nat.le_of_ble_eq_true rfl⟩ (by unfold loadV; first | exact (if_pos c_29).symm | exact (if_neg c_29).symm)
  refine x_aload_n (i := 0) C dX1_load_32 rfl rfl ?_
  refine x_iconst (v := 2) C dX1_load_33 (by decide) ?_
  refine x_putD C 6 (by omega) (by decide) (by decide) hinX1_load_X1 (by decide +kernel) dX1_load_34 ?_
  exact x_vret  C dX1_load_37 ⟨Nat.le_of_ble_eq_true rfl, Nat.le_of_ble_eq_true rfl⟩ (by unfold loadV; first | exact (if_pos c_29).symm | exact (if_neg c_29).symm)
theorem hinX0_drawOf_X0 : ∀ w ∈ wsX00, w ∈ wsX0_drawOf := by decide +kernel
theorem hinX0_drawOf_X1 : ∀ w ∈ wsX10, w ∈ wsX0_drawOf := by decide +kernel
def rmX0_drawOf : Room := { frames := 0, cells := 0, slots := 0, locals := 0 }
set_option maxHeartbeats 4000000 in
set_option maxRecDepth 100000 in
theorem k_X0_drawOf (l : Launch) (D : va_G) (cy : Nat → ClassId) (a : Nat → Nat) (A : Nat → Prop) (X : va_W) (V : XV) {q0 p0 : Nat} (hq : 19 ≤ q0 ∧ q0 < 25) (hp : 9 ≤ p0 ∧ p0 < 19) : Met l yX0_drawOf wsX0_drawOf rmX0_drawOf (va_Pc [.ref (a q0), .ref (a p0)] (xPre D (tyC cy) A (cW cy a X V))) (va_Qi (fun (r : Int32) (u : XV) => r = drawI V q0 p0 ∧ u = V) (fun u t => xPost D (tyC cy) A (cW cy a X u) t) A) 0 0 A := by
  refine x_met (own := RX0) (by decide) rfl rfl (Nat.le_of_ble_eq_true rfl) rfl ?_
  intro p e s m below meth c hnm C hE
  refine x_aload_n (i := 1) C dX0_drawOf_0 rfl rfl ?_
  refine x_getD C 0 (by omega) (by decide) hinX0_drawOf_X1 (by decide +kernel) dX0_drawOf_1 ?_
  refine x_bipush (v := 37) C dX0_drawOf_4 (by decide) ?_
  refine x_imul C dX0_drawOf_6 ?_
  refine x_aload_n (i := 0) C dX0_drawOf_7 rfl rfl ?_
  refine x_getK C 0 (by omega) (by decide) hinX0_drawOf_X0 (by decide +kernel) dX0_drawOf_8 ?_
  refine x_bipush (v := 11) C dX0_drawOf_11 (by decide) ?_
  refine x_imul C dX0_drawOf_13 ?_
  refine x_iadd C dX0_drawOf_14 ?_
  refine x_bipush (v := 13) C dX0_drawOf_15 (by decide) ?_
  refine x_iadd C dX0_drawOf_17 ?_
  refine x_bipush (v := 100) C dX0_drawOf_18 (by decide) ?_
  refine x_irem C dX0_drawOf_20 (by decide) ?_
  exact x_iret  C dX0_drawOf_21 ⟨Nat.le_of_ble_eq_true rfl, Nat.le_of_ble_eq_true rfl⟩ ⟨rfl, rfl⟩
theorem hinX0_share_X0 : ∀ w ∈ wsX00, w ∈ wsX0_share := by decide +kernel
def rmX0_share : Room := { frames := 0, cells := 0, slots := 0, locals := 0 }
set_option maxHeartbeats 4000000 in
set_option maxRecDepth 100000 in
theorem k_X0_share (l : Launch) (D : va_G) (cy : Nat → ClassId) (a : Nat → Nat) (A : Nat → Prop) (X : va_W) (V : XV) {q0 : Nat} (hq : 19 ≤ q0 ∧ q0 < 25) : Met l yX0_share wsX0_share rmX0_share (va_Pc [.ref (a q0)] (xPre D (tyC cy) A (cW cy a X V))) (va_Qi (fun (r : Int32) (u : XV) => r = shareI V q0 ∧ u = V) (fun u t => xPost D (tyC cy) A (cW cy a X u) t) A) 0 0 A := by
  refine x_met (own := RX0) (by decide) rfl rfl (Nat.le_of_ble_eq_true rfl) rfl ?_
  intro p e s m below meth c hnm C hE
  refine x_aload_n (i := 0) C dX0_share_0 rfl rfl ?_
  refine x_getK C 9 (by omega) (by decide) hinX0_share_X0 (by decide +kernel) dX0_share_1 ?_
  refine x_if_ne C 12 dX0_share_4 (by decide) (fun c_4 => ?_) (fun c_4 => ?_)
  · refine x_aload_n (i := 0) C dX0_share_12 rfl rfl ?_
    refine x_getK C 9 (by omega) (by decide) hinX0_share_X0 (by decide +kernel) dX0_share_13 ?_
    refine x_iconst (v := 1) C dX0_share_16 (by decide) ?_
    refine x_icmp_ne C 27 dX0_share_17 (by decide) (fun c_17 => ?_) (fun c_17 => ?_)
    · refine x_bipush (v := 100) C dX0_share_27 (by decide) ?_
      exact x_iret  C dX0_share_29 ⟨Nat.le_of_ble_eq_true rfl, Nat.le_of_ble_eq_true rfl⟩ ⟨by simp [shareI, c_4, c_17], rfl⟩
    refine x_aload_n (i := 0) C dX0_share_20 rfl rfl ?_
    refine x_getK C 5 (by omega) (by decide) hinX0_share_X0 (by decide +kernel) dX0_share_21 ?_
    refine x_goto C 29 dX0_share_24 (by decide) ?_
    exact x_iret  C dX0_share_29 ⟨Nat.le_of_ble_eq_true rfl, Nat.le_of_ble_eq_true rfl⟩ ⟨by simp [shareI, c_4, c_17], rfl⟩
  refine x_aload_n (i := 0) C dX0_share_7 rfl rfl ?_
  refine x_getK C 4 (by omega) (by decide) hinX0_share_X0 (by decide +kernel) dX0_share_8 ?_
  exact x_iret  C dX0_share_11 ⟨Nat.le_of_ble_eq_true rfl, Nat.le_of_ble_eq_true rfl⟩ ⟨by simp [shareI, c_4], rfl⟩
theorem hinX0_isFor_X0 : ∀ w ∈ wsX00, w ∈ wsX0_isFor := by decide +kernel
theorem hinX0_isFor_X1 : ∀ w ∈ wsX10, w ∈ wsX0_isFor := by decide +kernel
def rmX0_isFor : Room := { frames := 1, cells := 0, slots := 0, locals := 21 }
set_option maxHeartbeats 4000000 in
set_option maxRecDepth 100000 in
theorem k_X0_isFor (l : Launch) (D : va_G) (cy : Nat → ClassId) (a : Nat → Nat) (A : Nat → Prop) (X : va_W) (V : XV) {q0 p0 : Nat} (hq : 19 ≤ q0 ∧ q0 < 25) (hp : 9 ≤ p0 ∧ p0 < 19) : Met l yX0_isFor wsX0_isFor rmX0_isFor (va_Pc [.ref (a q0), .ref (a p0)] (xPre D (tyC cy) A (cW cy a X V))) (va_Qi (fun (r : Int32) (u : XV) => r = b2i (isForB V q0 p0) ∧ u = V) (fun u t => xPost D (tyC cy) A (cW cy a X u) t) A) 0 0 A := by
  refine x_met (own := RX0) (by decide) rfl rfl (Nat.le_of_ble_eq_true rfl) rfl ?_
  intro p e s m below meth c hnm C hE
  refine x_aload_n (i := 0) C dX0_isFor_0 rfl rfl ?_
  refine x_getK C 8 (by omega) (by decide) hinX0_isFor_X0 (by decide +kernel) dX0_isFor_1 ?_
  refine x_if_eq C 76 dX0_isFor_4 (by decide) (fun c_4 => ?_) (fun c_4 => ?_)
  · refine x_iconst (v := 0) C dX0_isFor_76 (by decide) ?_
    exact x_zret  C dX0_isFor_77 ⟨Nat.le_of_ble_eq_true rfl, Nat.le_of_ble_eq_true rfl⟩ rfl ⟨by (try simp only [b2i_0] at *); simp [isForB, b2i, c_4], rfl⟩
  refine x_aload_n (i := 0) C dX0_isFor_7 rfl rfl ?_
  refine x_getK C 2 (by omega) (by decide) hinX0_isFor_X0 (by decide +kernel) dX0_isFor_8 ?_
  refine x_aload_n (i := 1) C dX0_isFor_11 rfl rfl ?_
  refine x_getD C 1 (by omega) (by decide) hinX0_isFor_X1 (by decide +kernel) dX0_isFor_12 ?_
  refine x_callNi C hE (k_X3_has l D _ A _ _ _) (⟨va_cnB (host := "Ringroll") 2 C.2.2.2.2.1 ggX0_isFor_X3_has rfl rfl rfl (hE.1 _ (List.mem_of_getElem? (i := 1) rfl)) (C.2.2.2.2.1 _ (by decide +kernel)) (by decide +kernel) ⟨Nat.le_of_ble_eq_true rfl, Nat.le_of_ble_eq_true rfl⟩, C.2.2.2.2.1 _ (by decide +kernel), trivial⟩)  rfl rfl (Nat.le_of_ble_eq_true rfl) dX0_isFor_15 ⟨Nat.le_of_ble_eq_true rfl, Nat.le_of_ble_eq_true rfl⟩ (fun r_15 u_15 h_15 => ?_)
  subst h_15
  refine x_if_eq C 76 dX0_isFor_18 (by decide) (fun c_18 => ?_) (fun c_18 => ?_)
  · refine x_iconst (v := 0) C dX0_isFor_76 (by decide) ?_
    exact x_zret  C dX0_isFor_77 ⟨Nat.le_of_ble_eq_true rfl, Nat.le_of_ble_eq_true rfl⟩ rfl ⟨by (try simp only [b2i_0] at *); simp [isForB, b2i, c_4, c_18], rfl⟩
  refine x_aload_n (i := 0) C dX0_isFor_21 rfl rfl ?_
  refine x_getK C 3 (by omega) (by decide) hinX0_isFor_X0 (by decide +kernel) dX0_isFor_22 ?_
  refine x_aload_n (i := 1) C dX0_isFor_25 rfl rfl ?_
  refine x_getD C 2 (by omega) (by decide) hinX0_isFor_X1 (by decide +kernel) dX0_isFor_26 ?_
  refine x_callNi C hE (k_X3_has l D _ A _ _ _) (⟨va_cnB (host := "Ringroll") 2 C.2.2.2.2.1 ggX0_isFor_X3_has rfl rfl rfl (hE.1 _ (List.mem_of_getElem? (i := 1) rfl)) (C.2.2.2.2.1 _ (by decide +kernel)) (by decide +kernel) ⟨Nat.le_of_ble_eq_true rfl, Nat.le_of_ble_eq_true rfl⟩, C.2.2.2.2.1 _ (by decide +kernel), trivial⟩)  rfl rfl (Nat.le_of_ble_eq_true rfl) dX0_isFor_29 ⟨Nat.le_of_ble_eq_true rfl, Nat.le_of_ble_eq_true rfl⟩ (fun r_29 u_29 h_29 => ?_)
  subst h_29
  refine x_if_eq C 76 dX0_isFor_32 (by decide) (fun c_32 => ?_) (fun c_32 => ?_)
  · refine x_iconst (v := 0) C dX0_isFor_76 (by decide) ?_
    exact x_zret  C dX0_isFor_77 ⟨Nat.le_of_ble_eq_true rfl, Nat.le_of_ble_eq_true rfl⟩ rfl ⟨by (try simp only [b2i_0] at *); simp [isForB, b2i, c_4, c_18, c_32], rfl⟩
  refine x_aload_n (i := 1) C dX0_isFor_35 rfl rfl ?_
  refine x_getD C 2 (by omega) (by decide) hinX0_isFor_X1 (by decide +kernel) dX0_isFor_36 ?_
  refine x_aload_n (i := 0) C dX0_isFor_39 rfl rfl ?_
  refine x_getK C 1 (by omega) (by decide) hinX0_isFor_X0 (by decide +kernel) dX0_isFor_40 ?_
  refine x_icmp_eq C 76 dX0_isFor_43 (by decide) (fun c_43 => ?_) (fun c_43 => ?_)
  · refine x_iconst (v := 0) C dX0_isFor_76 (by decide) ?_
    exact x_zret  C dX0_isFor_77 ⟨Nat.le_of_ble_eq_true rfl, Nat.le_of_ble_eq_true rfl⟩ rfl ⟨by (try simp only [b2i_0] at *); simp [isForB, b2i, c_4, c_18, c_32, c_43], rfl⟩
  refine x_aload_n (i := 0) C dX0_isFor_46 rfl rfl ?_
  refine x_aload_n (i := 1) C dX0_isFor_47 rfl rfl ?_
  refine x_callVi C hE (k_X0_drawOf l D cy a A X _ (by omega) (by omega)) (cwV 1 C.2.2.2.2.1 gX0_isFor_X0_drawOf rfl rfl rfl (by decide +kernel) ⟨Nat.le_of_ble_eq_true rfl, Nat.le_of_ble_eq_true rfl⟩) _ (cW_K cy a X _ (by omega)) rfl rfl rfl rfl (Nat.le_of_ble_eq_true rfl) dX0_isFor_48 ⟨Nat.le_of_ble_eq_true rfl, Nat.le_of_ble_eq_true rfl⟩ (fun r_48 u_48 h_48 => ?_)
  obtain ⟨rfl, e9_48⟩ := h_48
  rw [e9_48]
  refine x_aload_n (i := 0) C dX0_isFor_51 rfl rfl ?_
  refine x_callVi C hE (k_X0_share l D cy a A X _ (by omega)) (cwV 0 C.2.2.2.2.1 gX0_isFor_X0_share rfl rfl rfl (by decide +kernel) ⟨Nat.le_of_ble_eq_true rfl, Nat.le_of_ble_eq_true rfl⟩) _ (cW_K cy a X _ (by omega)) rfl rfl rfl rfl (Nat.le_of_ble_eq_true rfl) dX0_isFor_52 ⟨Nat.le_of_ble_eq_true rfl, Nat.le_of_ble_eq_true rfl⟩ (fun r_52 u_52 h_52 => ?_)
  obtain ⟨rfl, e9_52⟩ := h_52
  rw [e9_52]
  refine x_icmp_ge C 76 dX0_isFor_55 (by decide) (fun c_55 => ?_) (fun c_55 => ?_)
  · refine x_iconst (v := 0) C dX0_isFor_76 (by decide) ?_
    exact x_zret  C dX0_isFor_77 ⟨Nat.le_of_ble_eq_true rfl, Nat.le_of_ble_eq_true rfl⟩ rfl ⟨by (try simp only [b2i_0] at *); simp [isForB, b2i, c_4, c_18, c_32, c_43, c_55], rfl⟩
  refine x_aload_n (i := 0) C dX0_isFor_58 rfl rfl ?_
  refine x_getK C 12 (by omega) (by decide) hinX0_isFor_X0 (by decide +kernel) dX0_isFor_59 ?_
  refine x_aload_n (i := 1) C dX0_isFor_62 rfl rfl ?_
  refine x_getD C 0 (by omega) (by decide) hinX0_isFor_X1 (by decide +kernel) dX0_isFor_63 ?_
  refine x_callNi C hE (k_X3_has l D _ A _ _ _) (⟨va_cnB (host := "Ringroll") 2 C.2.2.2.2.1 ggX0_isFor_X3_has rfl rfl rfl (hE.1 _ (List.mem_of_getElem? (i := 1) rfl)) (C.2.2.2.2.1 _ (by decide +kernel)) (by decide +kernel) ⟨Nat.le_of_ble_eq_true rfl, Nat.le_of_ble_eq_true rfl⟩, C.2.2.2.2.1 _ (by decide +kernel), trivial⟩)  rfl rfl (Nat.le_of_ble_eq_true rfl) dX0_isFor_66 ⟨Nat.le_of_ble_eq_true rfl, Nat.le_of_ble_eq_true rfl⟩ (fun r_66 u_66 h_66 => ?_)
  subst h_66
  refine x_if_ne C 76 dX0_isFor_69 (by decide) (fun c_69 => ?_) (fun c_69 => ?_)
  · refine x_iconst (v := 0) C dX0_isFor_76 (by decide) ?_
    exact x_zret  C dX0_isFor_77 ⟨Nat.le_of_ble_eq_true rfl, Nat.le_of_ble_eq_true rfl⟩ rfl ⟨by (try simp only [b2i_0] at *); simp [isForB, b2i, c_4, c_18, c_32, c_43, c_55, c_69], rfl⟩
  refine x_iconst (v := 1) C dX0_isFor_72 (by decide) ?_
  refine x_goto C 77 dX0_isFor_73 (by decide) ?_
  exact x_zret  C dX0_isFor_77 ⟨Nat.le_of_ble_eq_true rfl, Nat.le_of_ble_eq_true rfl⟩ rfl ⟨by (try simp only [b2i_0] at *); simp [isForB, b2i, c_4, c_18, c_32, c_43, c_55, c_69], rfl⟩
theorem hinX0_countReport_X0 : ∀ w ∈ wsX00, w ∈ wsX0_countReport := by decide +kernel
theorem hinX0_countReport_X1 : ∀ w ∈ wsX10, w ∈ wsX0_countReport := by decide +kernel
def rmX0_countReport : Room := { frames := 0, cells := 0, slots := 0, locals := 0 }
set_option maxHeartbeats 4000000 in
set_option maxRecDepth 100000 in
theorem k_X0_countReport (l : Launch) (D : va_G) (cy : Nat → ClassId) (a : Nat → Nat) (A : Nat → Prop) (X : va_W) (V : XV) {q0 p0 : Nat} (z : Int32) (hq : 19 ≤ q0 ∧ q0 < 25) (hp : 9 ≤ p0 ∧ p0 < 19) : Met l yX0_countReport wsX0_countReport rmX0_countReport (va_Pc [.ref (a q0), .ref (a p0), .int z] (xPre D (tyC cy) A (cW cy a X V))) (va_Qv (fun (u : XV) => u = countV V q0 p0 z) (fun u t => xPost D (tyC cy) A (cW cy a X u) t) A) 0 0 A := by
  refine x_met (own := RX0) (by decide) rfl rfl (Nat.le_of_ble_eq_true rfl) rfl ?_
  intro p e s m below meth c hnm C hE
  refine x_aload_n (i := 0) C dX0_countReport_0 rfl rfl ?_
  refine x_dup C dX0_countReport_1 rfl ?_
  refine x_getK C 12 (by omega) (by decide) hinX0_countReport_X0 (by decide +kernel) dX0_countReport_2 ?_
  refine x_iconst (v := 1) C dX0_countReport_5 (by decide) ?_
  refine x_aload_n (i := 1) C dX0_countReport_6 rfl rfl ?_
  refine x_getD C 0 (by omega) (by decide) hinX0_countReport_X1 (by decide +kernel) dX0_countReport_7 ?_
  refine x_ishl C dX0_countReport_10 ?_
  refine x_ior C dX0_countReport_11 ?_
  refine x_putK C 12 (by omega) (by decide) (by decide) hinX0_countReport_X0 (by decide +kernel) dX0_countReport_12 ?_
  refine x_aload_n (i := 0) C dX0_countReport_15 rfl rfl ?_
  refine x_dup C dX0_countReport_16 rfl ?_
  refine x_getK C 10 (by omega) (by decide) hinX0_countReport_X0 (by decide +kernel) dX0_countReport_17 ?_
  refine x_iconst (v := 1) C dX0_countReport_20 (by decide) ?_
  refine x_iadd C dX0_countReport_21 ?_
  refine x_putK C 10 (by omega) (by decide) (by decide) hinX0_countReport_X0 (by decide +kernel) dX0_countReport_22 ?_
  refine x_iload_n (i := 2) C dX0_countReport_25 rfl rfl ?_
  refine x_if_ne C 39 dX0_countReport_26 (by decide) (fun c_26 => ?_) (fun c_26 => ?_)
  · exact x_vret  C dX0_countReport_39 ⟨Nat.le_of_ble_eq_true rfl, Nat.le_of_ble_eq_true rfl⟩ (by simp only [countV]; first | rw [if_pos c_26]; rfl | rw [if_neg c_26]; rfl)
  refine x_aload_n (i := 0) C dX0_countReport_29 rfl rfl ?_
  refine x_dup C dX0_countReport_30 rfl ?_
  refine x_getK C 11 (by omega) (by decide) hinX0_countReport_X0 (by decide +kernel) dX0_countReport_31 ?_
  refine x_iconst (v := 1) C dX0_countReport_34 (by decide) ?_
  refine x_iadd C dX0_countReport_35 ?_
  refine x_putK C 11 (by omega) (by decide) (by decide) hinX0_countReport_X0 (by decide +kernel) dX0_countReport_36 ?_
  exact x_vret  C dX0_countReport_39 ⟨Nat.le_of_ble_eq_true rfl, Nat.le_of_ble_eq_true rfl⟩ (by simp only [countV]; first | rw [if_pos c_26]; rfl | rw [if_neg c_26]; rfl)
theorem hinX0_beginRing_X0 : ∀ w ∈ wsX00, w ∈ wsX0_beginRing := by decide +kernel
def rmX0_beginRing : Room := { frames := 0, cells := 0, slots := 0, locals := 0 }
set_option maxHeartbeats 4000000 in
set_option maxRecDepth 100000 in
theorem k_X0_beginRing (l : Launch) (D : va_G) (cy : Nat → ClassId) (a : Nat → Nat) (A : Nat → Prop) (X : va_W) (V : XV) {q0 : Nat} (z : Int32) (hq : 19 ≤ q0 ∧ q0 < 25) : Met l yX0_beginRing wsX0_beginRing rmX0_beginRing (va_Pc [.ref (a q0), .int z] (xPre D (tyC cy) A (cW cy a X V))) (va_Qv (fun (u : XV) => u = ringV V q0 z) (fun u t => xPost D (tyC cy) A (cW cy a X u) t) A) 0 0 A := by
  refine x_met (own := RX0) (by decide) rfl rfl (Nat.le_of_ble_eq_true rfl) rfl ?_
  intro p e s m below meth c hnm C hE
  refine x_aload_n (i := 0) C dX0_beginRing_0 rfl rfl ?_
  refine x_iload_n (i := 1) C dX0_beginRing_1 rfl rfl ?_
  refine x_putK C 9 (by omega) (by decide) (by decide) hinX0_beginRing_X0 (by decide +kernel) dX0_beginRing_2 ?_
  refine x_aload_n (i := 0) C dX0_beginRing_5 rfl rfl ?_
  refine x_iconst (v := 0) C dX0_beginRing_6 (by decide) ?_
  refine x_putK C 10 (by omega) (by decide) (by decide) hinX0_beginRing_X0 (by decide +kernel) dX0_beginRing_7 ?_
  refine x_aload_n (i := 0) C dX0_beginRing_10 rfl rfl ?_
  refine x_iconst (v := 0) C dX0_beginRing_11 (by decide) ?_
  refine x_putK C 11 (by omega) (by decide) (by decide) hinX0_beginRing_X0 (by decide +kernel) dX0_beginRing_12 ?_
  exact x_vret  C dX0_beginRing_15 ⟨Nat.le_of_ble_eq_true rfl, Nat.le_of_ble_eq_true rfl⟩ rfl
theorem hinX0_judgeRing_X0 : ∀ w ∈ wsX00, w ∈ wsX0_judgeRing := by decide +kernel
def rmX0_judgeRing : Room := { frames := 1, cells := 0, slots := 0, locals := 21 }
set_option maxHeartbeats 4000000 in
set_option maxRecDepth 100000 in
theorem k_X0_judgeRing (l : Launch) (D : va_G) (cy : Nat → ClassId) (a : Nat → Nat) (A : Nat → Prop) (X : va_W) (V : XV) {q0 : Nat} (hq : 19 ≤ q0 ∧ q0 < 25) : Met l yX0_judgeRing wsX0_judgeRing rmX0_judgeRing (va_Pc [.ref (a q0)] (xPre D (tyC cy) A (cW cy a X V))) (va_Qv (fun (u : XV) => u = judgeV V q0) (fun u t => xPost D (tyC cy) A (cW cy a X u) t) A) 0 0 A := by
  refine x_met (own := RX0) (by decide) rfl rfl (Nat.le_of_ble_eq_true rfl) rfl ?_
  intro p e s m below meth c hnm C hE
  refine x_aload_n (i := 0) C dX0_judgeRing_0 rfl rfl ?_
  refine x_getK C 8 (by omega) (by decide) hinX0_judgeRing_X0 (by decide +kernel) dX0_judgeRing_1 ?_
  refine x_if_eq C 18 dX0_judgeRing_4 (by decide) (fun c_4 => ?_) (fun c_4 => ?_)
  · exact x_vret  C dX0_judgeRing_18 ⟨Nat.le_of_ble_eq_true rfl, Nat.le_of_ble_eq_true rfl⟩ (by simp [judgeV, c_4])
  refine x_aload_n (i := 0) C dX0_judgeRing_7 rfl rfl ?_
  refine x_getK C 10 (by omega) (by decide) hinX0_judgeRing_X0 (by decide +kernel) dX0_judgeRing_8 ?_
  refine x_aload_n (i := 0) C dX0_judgeRing_11 rfl rfl ?_
  refine x_getK C 6 (by omega) (by decide) hinX0_judgeRing_X0 (by decide +kernel) dX0_judgeRing_12 ?_
  refine x_icmp_ge C 19 dX0_judgeRing_15 (by decide) (fun c_15 => ?_) (fun c_15 => ?_)
  · refine x_aload_n (i := 0) C dX0_judgeRing_19 rfl rfl ?_
    refine x_getK C 11 (by omega) (by decide) hinX0_judgeRing_X0 (by decide +kernel) dX0_judgeRing_20 ?_
    refine x_sipush (v := 1000) C dX0_judgeRing_23 (by decide) ?_
    refine x_imul C dX0_judgeRing_26 ?_
    refine x_aload_n (i := 0) C dX0_judgeRing_27 rfl rfl ?_
    refine x_getK C 10 (by omega) (by decide) hinX0_judgeRing_X0 (by decide +kernel) dX0_judgeRing_28 ?_
    refine x_aload_n (i := 0) C dX0_judgeRing_31 rfl rfl ?_
    refine x_getK C 7 (by omega) (by decide) hinX0_judgeRing_X0 (by decide +kernel) dX0_judgeRing_32 ?_
    refine x_imul C dX0_judgeRing_35 ?_
    refine x_icmp_le C 47 dX0_judgeRing_36 (by decide) (fun c_36 => ?_) (fun c_36 => ?_)
    · refine x_aload_n (i := 0) C dX0_judgeRing_47 rfl rfl ?_
      refine x_getK C 9 (by omega) (by decide) hinX0_judgeRing_X0 (by decide +kernel) dX0_judgeRing_48 ?_
      refine x_iconst (v := 2) C dX0_judgeRing_51 (by decide) ?_
      refine x_icmp_eq C 65 dX0_judgeRing_52 (by decide) (fun c_52 => ?_) (fun c_52 => ?_)
      · exact x_vret  C dX0_judgeRing_65 ⟨Nat.le_of_ble_eq_true rfl, Nat.le_of_ble_eq_true rfl⟩ (by simp [judgeV, c_4, c_15, c_36, c_52])
      refine x_aload_n (i := 0) C dX0_judgeRing_55 rfl rfl ?_
      refine x_aload_n (i := 0) C dX0_judgeRing_56 rfl rfl ?_
      refine x_getK C 9 (by omega) (by decide) hinX0_judgeRing_X0 (by decide +kernel) dX0_judgeRing_57 ?_
      refine x_iconst (v := 1) C dX0_judgeRing_60 (by decide) ?_
      refine x_iadd C dX0_judgeRing_61 ?_
      refine x_callVv C hE (k_X0_beginRing l D cy a A X _ _ (by omega)) (cwV 1 C.2.2.2.2.1 gX0_judgeRing_X0_beginRing rfl rfl rfl (by decide +kernel) ⟨Nat.le_of_ble_eq_true rfl, Nat.le_of_ble_eq_true rfl⟩) _ (cW_K cy a X _ (by omega)) rfl rfl rfl rfl (Nat.le_of_ble_eq_true rfl) dX0_judgeRing_62 ⟨Nat.le_of_ble_eq_true rfl, Nat.le_of_ble_eq_true rfl⟩ (fun u_62 h_62 => ?_)
      rw [h_62]
      exact x_vret  C dX0_judgeRing_65 ⟨Nat.le_of_ble_eq_true rfl, Nat.le_of_ble_eq_true rfl⟩ (by simp [judgeV, c_4, c_15, c_36, c_52])
    refine x_aload_n (i := 0) C dX0_judgeRing_39 rfl rfl ?_
    refine x_iconst (v := 0) C dX0_judgeRing_40 (by decide) ?_
    refine x_putKz C (by omega) rfl rfl hinX0_judgeRing_X0 (by decide +kernel) dX0_judgeRing_41 ?_
    refine x_goto C 65 dX0_judgeRing_44 (by decide) ?_
    exact x_vret  C dX0_judgeRing_65 ⟨Nat.le_of_ble_eq_true rfl, Nat.le_of_ble_eq_true rfl⟩ (by simp [judgeV, c_4, c_15, c_36])
  exact x_vret  C dX0_judgeRing_18 ⟨Nat.le_of_ble_eq_true rfl, Nat.le_of_ble_eq_true rfl⟩ (by simp [judgeV, c_4, c_15])
theorem hinX2_leastBytes_X2 : ∀ w ∈ wsX20, w ∈ wsX2_leastBytes := by decide +kernel
def rmX2_leastBytes : Room := { frames := 1, cells := 0, slots := 0, locals := 24 }
set_option maxHeartbeats 4000000 in
set_option maxRecDepth 100000 in
theorem k_X2_leastBytes (l : Launch) (D : va_G) (cy : Nat → ClassId) (a : Nat → Nat) (A : Nat → Prop) (X : va_W) (V : XV) (f t : Int32) (hf : vp_in f 8) (ht : vp_in t 8) : Met l yX2_leastBytes wsX2_leastBytes rmX2_leastBytes (va_Pc [.ref (a 2), .int f, .int t] (xPre D (tyC cy) A (cW cy a X V))) (va_Qi (fun (r : Int32) (u : XV) => r = lbI V f t ∧ u = V) (fun u t => xPost D (tyC cy) A (cW cy a X u) t) A) 0 0 A := by
  refine x_met (own := RX2) (by decide) rfl rfl (Nat.le_of_ble_eq_true rfl) rfl ?_
  intro p e s m below meth c hnm C hE
  refine x_iload_n (i := 1) C dX2_leastBytes_0 rfl rfl ?_
  refine x_iload_n (i := 2) C dX2_leastBytes_1 rfl rfl ?_
  refine x_icmp_ne C 7 dX2_leastBytes_2 (by decide) (fun c_2 => ?_) (fun c_2 => ?_)
  · refine x_aload_n (i := 0) C dX2_leastBytes_7 rfl rfl ?_
    refine x_getWr C 2 (by decide) hinX2_leastBytes_X2 (by decide +kernel) dX2_leastBytes_8 ?_
    refine x_iload_n (i := 1) C dX2_leastBytes_11 rfl rfl ?_
    refine x_aaldLb C (by assumption) rfl dX2_leastBytes_12 ?_
    refine x_iload_n (i := 2) C dX2_leastBytes_13 rfl rfl ?_
    refine x_ialdC C (by have := vp_at hf; unfold cI; omega) (by assumption) rfl dX2_leastBytes_14 ?_
    refine x_aload_n (i := 0) C dX2_leastBytes_15 rfl rfl ?_
    refine x_getWr C 3 (by decide) hinX2_leastBytes_X2 (by decide +kernel) dX2_leastBytes_16 ?_
    refine x_iload_n (i := 2) C dX2_leastBytes_19 rfl rfl ?_
    refine x_ialdC C (by unfold cI; omega) (by assumption) rfl dX2_leastBytes_20 ?_
    refine x_min C (by decide +kernel) (by decide +kernel) (by decide +kernel) (by decide +kernel) ⟨Nat.le_of_ble_eq_true rfl, Nat.le_of_ble_eq_true rfl, Nat.le_of_ble_eq_true rfl, Nat.le_of_ble_eq_true rfl⟩ dX2_leastBytes_21 rfl ?_
    refine x_callSi C hE (k_X2_orNone l D _ A _ _) (va_cwS 1 C.2.2.2.2.1 gX2_leastBytes_X2_orNone rfl rfl rfl (by decide +kernel) ⟨Nat.le_of_ble_eq_true rfl, Nat.le_of_ble_eq_true rfl⟩)  rfl rfl (Nat.le_of_ble_eq_true rfl) dX2_leastBytes_24 ⟨Nat.le_of_ble_eq_true rfl, Nat.le_of_ble_eq_true rfl⟩ (fun r_24 u_24 h_24 => ?_)
    subst h_24
    exact x_iret  C dX2_leastBytes_27 ⟨Nat.le_of_ble_eq_true rfl, Nat.le_of_ble_eq_true rfl⟩ ⟨by simp [lbI, minI, c_2], rfl⟩
  refine x_iconst (v := 0) C dX2_leastBytes_5 (by decide) ?_
  exact x_iret  C dX2_leastBytes_6 ⟨Nat.le_of_ble_eq_true rfl, Nat.le_of_ble_eq_true rfl⟩ ⟨by simp [lbI, minI, c_2], rfl⟩
theorem hinX3_deviceAt_X3 : ∀ w ∈ wsX30, w ∈ wsX3_deviceAt := by decide +kernel
def rmX3_deviceAt : Room := { frames := 6, cells := 1, slots := 6, locals := 92 }
set_option maxHeartbeats 4000000 in
set_option maxRecDepth 100000 in
theorem k_X3_deviceAt (l : Launch) (hfl : l.stackTraces = false) (D : va_G) (cy : Nat → ClassId) (a : Nat → Nat) (A : Nat → Prop) (X : va_W) (V : XV) (z : Int32) (hn : (V 0 4).toInt ≤ 10) : vx_Met l yX3_deviceAt wsX3_deviceAt rmX3_deviceAt (va_Pc [.ref (a 0), .int z] (xPre D (tyC cy) A (cW cy a X V))) (va_Qr (fun (u : XV) => nDx V z = none ∧ u = V) (fun u v t => (fun (_ : XV) (v : Nat) => v = a (9 + z.toNatClampNeg)) u v ∧ xPost D (tyC cy) A (cW cy a X u) t) A) (xX D (tyC cy) A (cW cy a X V) (nDx V z)) 1 6 A := by
  refine x_metX (own := RX3) (by decide) rfl rfl (Nat.le_of_ble_eq_true rfl) rfl ?_
  intro p e s m below meth c hout C hE
  refine x_iload_n (i := 1) C dX3_deviceAt_0 rfl rfl ?_
  refine x_if_lt C 12 dX3_deviceAt_1 (by decide) (fun c_1 => ?_) (fun c_1 => ?_)
  · exact x_throw (cls := xIO) (text := "no such device") hout hfl C hE rfl (by decide +kernel) (by decide +kernel) (by decide) (by decide +kernel) (by decide +kernel) (by decide +kernel) dX3_deviceAt_12 dX3_deviceAt_15 dX3_deviceAt_16 dX3_deviceAt_18 dX3_deviceAt_21 ⟨Nat.le_of_ble_eq_true rfl, Nat.le_of_ble_eq_true rfl, Nat.le_of_ble_eq_true rfl, Nat.le_of_ble_eq_true rfl⟩ ⟨Nat.le_of_ble_eq_true rfl, Nat.le_of_ble_eq_true rfl⟩ (by simp [nDx, c_1])
  refine x_iload_n (i := 1) C dX3_deviceAt_4 rfl rfl ?_
  refine x_aload_n (i := 0) C dX3_deviceAt_5 rfl rfl ?_
  refine x_getR C 4 (by decide) hinX3_deviceAt_X3 (by decide +kernel) dX3_deviceAt_6 ?_
  refine x_icmp_lt C 22 dX3_deviceAt_9 (by decide) (fun c_9 => ?_) (fun c_9 => ?_)
  · refine x_aload_n (i := 0) C dX3_deviceAt_22 rfl rfl ?_
    refine x_getRr C 2 (by decide) hinX3_deviceAt_X3 (by decide +kernel) dX3_deviceAt_23 ?_
    refine x_iload_n (i := 1) C dX3_deviceAt_26 rfl rfl ?_
    refine x_aaldF C (vp_lt c_1 c_9 hn) rfl dX3_deviceAt_27 ?_
    exact x_rretX  C dX3_deviceAt_28 ⟨Nat.le_of_ble_eq_true rfl, Nat.le_of_ble_eq_true rfl⟩ (Or.inl ⟨_, rfl⟩) rfl ⟨by simp [nDx, c_1, c_9], rfl⟩
  exact x_throw (cls := xIO) (text := "no such device") hout hfl C hE rfl (by decide +kernel) (by decide +kernel) (by decide) (by decide +kernel) (by decide +kernel) (by decide +kernel) dX3_deviceAt_12 dX3_deviceAt_15 dX3_deviceAt_16 dX3_deviceAt_18 dX3_deviceAt_21 ⟨Nat.le_of_ble_eq_true rfl, Nat.le_of_ble_eq_true rfl, Nat.le_of_ble_eq_true rfl, Nat.le_of_ble_eq_true rfl⟩ ⟨Nat.le_of_ble_eq_true rfl, Nat.le_of_ble_eq_true rfl⟩ (by simp [nDx, c_1, c_9])
theorem hinX3_needCampaign_X3 : ∀ w ∈ wsX30, w ∈ wsX3_needCampaign := by decide +kernel
def rmX3_needCampaign : Room := { frames := 6, cells := 1, slots := 6, locals := 92 }
set_option maxHeartbeats 4000000 in
set_option maxRecDepth 100000 in
theorem k_X3_needCampaign (l : Launch) (hfl : l.stackTraces = false) (D : va_G) (cy : Nat → ClassId) (a : Nat → Nat) (A : Nat → Prop) (X : va_W) (V : XV) (z : Int32)  : vx_Met l yX3_needCampaign wsX3_needCampaign rmX3_needCampaign (va_Pc [.ref (a 0), .int z] (xPre D (tyC cy) A (cW cy a X V))) (va_Qv (fun (u : XV) => nCx V z = none ∧ u = V) (fun u t => xPost D (tyC cy) A (cW cy a X u) t) A) (xX D (tyC cy) A (cW cy a X V) (nCx V z)) 1 6 A := by
  refine x_metX (own := RX3) (by decide) rfl rfl (Nat.le_of_ble_eq_true rfl) rfl ?_
  intro p e s m below meth c hout C hE
  refine x_iload_n (i := 1) C dX3_needCampaign_0 rfl rfl ?_
  refine x_if_lt C 12 dX3_needCampaign_1 (by decide) (fun c_1 => ?_) (fun c_1 => ?_)
  · exact x_throw (cls := xIO) (text := "no such campaign") hout hfl C hE rfl (by decide +kernel) (by decide +kernel) (by decide) (by decide +kernel) (by decide +kernel) (by decide +kernel) dX3_needCampaign_12 dX3_needCampaign_15 dX3_needCampaign_16 dX3_needCampaign_18 dX3_needCampaign_21 ⟨Nat.le_of_ble_eq_true rfl, Nat.le_of_ble_eq_true rfl, Nat.le_of_ble_eq_true rfl, Nat.le_of_ble_eq_true rfl⟩ ⟨Nat.le_of_ble_eq_true rfl, Nat.le_of_ble_eq_true rfl⟩ (by simp [nCx, c_1])
  refine x_iload_n (i := 1) C dX3_needCampaign_4 rfl rfl ?_
  refine x_aload_n (i := 0) C dX3_needCampaign_5 rfl rfl ?_
  refine x_getR C 5 (by decide) hinX3_needCampaign_X3 (by decide +kernel) dX3_needCampaign_6 ?_
  refine x_icmp_lt C 22 dX3_needCampaign_9 (by decide) (fun c_9 => ?_) (fun c_9 => ?_)
  · exact x_vretX  C dX3_needCampaign_22 ⟨Nat.le_of_ble_eq_true rfl, Nat.le_of_ble_eq_true rfl⟩ ⟨by simp [nCx, c_1, c_9], rfl⟩
  exact x_throw (cls := xIO) (text := "no such campaign") hout hfl C hE rfl (by decide +kernel) (by decide +kernel) (by decide) (by decide +kernel) (by decide +kernel) (by decide +kernel) dX3_needCampaign_12 dX3_needCampaign_15 dX3_needCampaign_16 dX3_needCampaign_18 dX3_needCampaign_21 ⟨Nat.le_of_ble_eq_true rfl, Nat.le_of_ble_eq_true rfl, Nat.le_of_ble_eq_true rfl, Nat.le_of_ble_eq_true rfl⟩ ⟨Nat.le_of_ble_eq_true rfl, Nat.le_of_ble_eq_true rfl⟩ (by simp [nCx, c_1, c_9])
theorem hinX3_campaignAt_X3 : ∀ w ∈ wsX30, w ∈ wsX3_campaignAt := by decide +kernel
def rmX3_campaignAt : Room := { frames := 7, cells := 1, slots := 6, locals := 113 }
set_option maxHeartbeats 4000000 in
set_option maxRecDepth 100000 in
theorem k_X3_campaignAt (l : Launch) (hfl : l.stackTraces = false) (D : va_G) (cy : Nat → ClassId) (a : Nat → Nat) (A : Nat → Prop) (X : va_W) (V : XV) (z : Int32) (hm : (V 0 5).toInt ≤ 6) : vx_Met l yX3_campaignAt wsX3_campaignAt rmX3_campaignAt (va_Pc [.ref (a 0), .int z] (xPre D (tyC cy) A (cW cy a X V))) (va_Qr (fun (u : XV) => nCx V z = none ∧ u = V) (fun u v t => (fun (_ : XV) (v : Nat) => v = a (19 + z.toNatClampNeg)) u v ∧ xPost D (tyC cy) A (cW cy a X u) t) A) (xX D (tyC cy) A (cW cy a X V) (nCx V z)) 1 6 A := by
  refine x_metX (own := RX3) (by decide) rfl rfl (Nat.le_of_ble_eq_true rfl) rfl ?_
  intro p e s m below meth c hout C hE
  refine x_aload_n (i := 0) C dX3_campaignAt_0 rfl rfl ?_
  refine x_iload_n (i := 1) C dX3_campaignAt_1 rfl rfl ?_
  refine x_callVvX hout C hE (k_X3_needCampaign l hfl D cy a A X _ _) (cwV 1 C.2.2.2.2.1 gX3_campaignAt_X3_needCampaign rfl rfl rfl (by decide +kernel) ⟨Nat.le_of_ble_eq_true rfl, Nat.le_of_ble_eq_true rfl⟩) 0 (cW_R cy a X _) rfl rfl rfl rfl (Nat.le_of_ble_eq_true rfl) dX3_campaignAt_2 ⟨Nat.le_of_ble_eq_true rfl, Nat.le_of_ble_eq_true rfl⟩ ⟨Nat.le_of_ble_eq_true rfl, Nat.le_of_ble_eq_true rfl⟩ (fun E h9 => h9) (fun u_2 h_2 => ?_)
  obtain ⟨e_2, e9_2⟩ := h_2
  rw [e9_2]
  refine x_aload_n (i := 0) C dX3_campaignAt_5 rfl rfl ?_
  refine x_getRr C 3 (by decide) hinX3_campaignAt_X3 (by decide +kernel) dX3_campaignAt_6 ?_
  refine x_iload_n (i := 1) C dX3_campaignAt_9 rfl rfl ?_
  refine x_aaldQ C (nCx_in e_2 hm) rfl dX3_campaignAt_10 ?_
  exact x_rretX  C dX3_campaignAt_11 ⟨Nat.le_of_ble_eq_true rfl, Nat.le_of_ble_eq_true rfl⟩ (Or.inl ⟨_, rfl⟩) rfl ⟨e_2, rfl⟩
end
section
/-! ===== BEGIN ways: the loops of Ways, mirrored by pure functions on the contents ===== -/
section XCNT
theorem x_count {N : Nat} (G : Nat → Prop) (hx : G N) (hs : ∀ i, i < N → G (i + 1) → G i) : G 0 := by
  have h : ∀ k, k ≤ N → G (N - k) := by
    intro k
    induction k with
    | zero => intro _; exact hx
    | succ k ih =>
      intro hk
      have h1 := ih (by omega)
      exact hs (N - (k + 1)) (by omega) (by rw [show N - (k + 1) + 1 = N - k by omega]; exact h1)
  have h2 := h N (Nat.le_refl N)
  rwa [Nat.sub_self] at h2
end XCNT
theorem le8 : (8 : Int32) ≤ nI 8 := by decide
theorem lt8 {i : Nat} (h : i < 8) : ¬ (8 : Int32) ≤ nI i := nI_ge h (by decide)
theorem in8 {i : Nat} (h : i < 8) : vp_in (nI i) 8 := vp_in_nI h (by decide)
theorem cl8 {i : Nat} (h : i < 8) : (nI i).toNatClampNeg = i := nI_clamp (by omega)
theorem inc1 (i : Nat) : nI i + Int32.ofInt 1 = nI (i + 1) := nI_1 i
def fillV (V : XV) (p : Nat) (z : Int32) : Nat → XV
  | 0 => V
  | i + 1 => xs (fillV V p z i) p i z
def mvStep (U : XV) (v i j : Nat) : XV := xs U (33 + i) j (minI (U (33 + i) j) (U (33 + i) v + U (33 + v) j))
def mvIn (V : XV) (v i : Nat) : Nat → XV
  | 0 => V
  | j + 1 => mvStep (mvIn V v i j) v i j
def mvOut (V : XV) (v : Nat) : Nat → XV
  | 0 => V
  | i + 1 => mvIn (mvOut V v i) v i 8
def m1Step (U : XV) (i j : Nat) : XV := xs U (33 + i) j (if i = j then 0 else orFarI (U (25 + i) j))
def m1In (V : XV) (i : Nat) : Nat → XV
  | 0 => V
  | j + 1 => m1Step (m1In V i j) i j
def m1Out (V : XV) : Nat → XV
  | 0 => V
  | i + 1 => m1In (m1Out V i) i 8
def m2Out (V : XV) : Nat → XV
  | 0 => V
  | v + 1 => mvOut (m2Out V v) v 8
def m3Step (U : XV) (j v : Nat) : XV := xs U 8 j (minI (U 8 j) (orFarI (U 5 v) + U (33 + v) j))
def m3In (V : XV) (j : Nat) : Nat → XV
  | 0 => V
  | v + 1 => m3Step (m3In V j v) j v
def m3Out (V : XV) : Nat → XV
  | 0 => V
  | j + 1 => m3In (xs (m3Out V j) 8 j 1000000) j 8
def measV (V : XV) : XV := m3Out (m2Out (m1Out V 8) 8) 8
def laL (V : XV) (rc : Nat → Int32 → Int32) (at_ : Nat) (met : Int32) : Nat → Int32
  | 0 => 1000000
  | n + 1 => if hasB met (nI n) = true then laL V rc at_ met n else if V (25 + at_) n = -1 then laL V rc at_ met n else minI (laL V rc at_ met n) (V (25 + at_) n + rc n (met ||| (1 <<< (nI n &&& 31))))
def la (V : XV) (to_ : Nat) : Nat → Nat → Int32 → Int32
  | 0, at_, _ => if at_ = to_ then 0 else 1000000
  | k + 1, at_, met => if at_ = to_ then 0 else laL V (la V to_ k) at_ met 8
def awL (V : XV) (to_ f : Nat) : Nat → Int32
  | 0 => la V to_ 8 f (1 <<< (nI f &&& 31))
  | v + 1 => if V 5 v = -1 then awL V to_ f v else minI (awL V to_ f v) (V 5 v + la V to_ 8 v (1 <<< (nI v &&& 31)))
def awI (V : XV) (f t : Nat) : Int32 := if f = t then 0 else orNoneI (awL V t f 8)

theorem hinX2_measureVia_X2 : ∀ w ∈ wsX20, w ∈ wsX2_measureVia := by decide +kernel
def rmX2_measureVia : Room := { frames := 1, cells := 0, slots := 0, locals := 24 }
set_option maxHeartbeats 4000000 in
set_option maxRecDepth 100000 in
theorem k_X2_measureVia (l : Launch) (D : va_G) (cy : Nat → ClassId) (a : Nat → Nat) (A : Nat → Prop) (X : va_W) (V : XV) {v : Nat} (hv : v < 8) : Met l yX2_measureVia wsX2_measureVia rmX2_measureVia (va_Pc [.ref (a 2), .int (nI v)] (xPre D (tyC cy) A (cW cy a X V))) (va_Qv (fun (u : XV) => u = mvOut V v 8) (fun u t => xPost D (tyC cy) A (cW cy a X u) t) A) 0 0 A := by
  refine x_met (own := RX2) (by decide) rfl rfl (Nat.le_of_ble_eq_true rfl) rfl ?_
  intro p e s m below meth c hnm C hE
  refine x_iconst (v := 0) C dX2_measureVia_0 (by decide) ?_
  refine x_istore_n (i := 2) C dX2_measureVia_1 rfl (by decide) ?_
  refine x_subm (lv' := [(2, .int (nI 0)), (0, .ref (a 2)), (1, .int (nI v))]) ?_ rfl
  refine x_count (N := 8) (fun i => xA p l e _ s m _ below meth c D A 5 0 0 _ 2 [(2, .int (nI i)), (0, .ref (a 2)), (1, .int (nI v))] [] (cW cy a X (mvOut V v i))) ?_ ?_
  · refine x_iload_n (i := 2) C dX2_measureVia_2 rfl rfl ?_
    refine x_bipush (v := 8) C dX2_measureVia_3 (by decide) ?_
    refine x_icmp_ge C 68 dX2_measureVia_5 (by decide) (fun c_5 => ?_) (fun c_5 => absurd le8 c_5)
    exact x_vret  C dX2_measureVia_68 ⟨Nat.le_of_ble_eq_true rfl, Nat.le_of_ble_eq_true rfl⟩ rfl
  intro i hi ihi
  refine x_iload_n (i := 2) C dX2_measureVia_2 rfl rfl ?_
  refine x_bipush (v := 8) C dX2_measureVia_3 (by decide) ?_
  refine x_icmp_ge C 68 dX2_measureVia_5 (by decide) (fun c_5 => absurd c_5 (lt8 hi)) (fun c_5 => ?_)
  refine x_iconst (v := 0) C dX2_measureVia_8 (by decide) ?_
  refine x_istore_n (i := 3) C dX2_measureVia_9 rfl (by decide) ?_
  refine x_subm (lv' := [(3, .int (nI 0)), (2, .int (nI i)), (0, .ref (a 2)), (1, .int (nI v))]) ?_ rfl
  refine x_count (N := 8) (fun j => xA p l e _ s m _ below meth c D A 5 0 0 _ 10 [(3, .int (nI j)), (2, .int (nI i)), (0, .ref (a 2)), (1, .int (nI v))] [] (cW cy a X (mvIn (mvOut V v i) v i j))) ?_ ?_
  · refine x_iload_n (i := 3) C dX2_measureVia_10 rfl rfl ?_
    refine x_bipush (v := 8) C dX2_measureVia_11 (by decide) ?_
    refine x_icmp_ge C 62 dX2_measureVia_13 (by decide) (fun c_13 => ?_) (fun c_13 => absurd le8 c_13)
    refine x_iinc (v := nI (i + 1)) C dX2_measureVia_62 rfl (inc1 i) ?_
    refine x_goto C 2 dX2_measureVia_65 (by decide) ?_
    refine x_subm (lv' := [(2, .int (nI (i + 1))), (0, .ref (a 2)), (1, .int (nI v))]) ?_ rfl
    exact ihi
  intro j hj ihj
  refine x_iload_n (i := 3) C dX2_measureVia_10 rfl rfl ?_
  refine x_bipush (v := 8) C dX2_measureVia_11 (by decide) ?_
  refine x_icmp_ge C 62 dX2_measureVia_13 (by decide) (fun c_13 => absurd c_13 (lt8 hj)) (fun c_13 => ?_)
  refine x_aload_n (i := 0) C dX2_measureVia_16 rfl rfl ?_
  refine x_getWr C 2 (by decide) hinX2_measureVia_X2 (by decide +kernel) dX2_measureVia_17 ?_
  refine x_iload_n (i := 2) C dX2_measureVia_20 rfl rfl ?_
  refine x_aaldLb C (in8 hi) (cl8 hi) dX2_measureVia_21 ?_
  refine x_iload_n (i := 1) C dX2_measureVia_22 rfl rfl ?_
  refine x_ialdC C (by unfold cI; omega) (in8 hv) (cl8 hv) dX2_measureVia_23 ?_
  refine x_aload_n (i := 0) C dX2_measureVia_24 rfl rfl ?_
  refine x_getWr C 2 (by decide) hinX2_measureVia_X2 (by decide +kernel) dX2_measureVia_25 ?_
  refine x_iload_n (i := 1) C dX2_measureVia_28 rfl rfl ?_
  refine x_aaldLb C (in8 hv) (cl8 hv) dX2_measureVia_29 ?_
  refine x_iload_n (i := 3) C dX2_measureVia_30 rfl rfl ?_
  refine x_ialdC C (by unfold cI; omega) (in8 hj) (cl8 hj) dX2_measureVia_31 ?_
  refine x_iadd C dX2_measureVia_32 ?_
  refine x_istore (i := 4) C dX2_measureVia_33 (by decide) ?_
  refine x_aload_n (i := 0) C dX2_measureVia_35 rfl rfl ?_
  refine x_getWr C 2 (by decide) hinX2_measureVia_X2 (by decide +kernel) dX2_measureVia_36 ?_
  refine x_iload_n (i := 2) C dX2_measureVia_39 rfl rfl ?_
  refine x_aaldLb C (in8 hi) (cl8 hi) dX2_measureVia_40 ?_
  refine x_iload_n (i := 3) C dX2_measureVia_41 rfl rfl ?_
  refine x_aload_n (i := 0) C dX2_measureVia_42 rfl rfl ?_
  refine x_getWr C 2 (by decide) hinX2_measureVia_X2 (by decide +kernel) dX2_measureVia_43 ?_
  refine x_iload_n (i := 2) C dX2_measureVia_46 rfl rfl ?_
  refine x_aaldLb C (in8 hi) (cl8 hi) dX2_measureVia_47 ?_
  refine x_iload_n (i := 3) C dX2_measureVia_48 rfl rfl ?_
  refine x_ialdC C (by unfold cI; omega) (in8 hj) (cl8 hj) dX2_measureVia_49 ?_
  refine x_iload (i := 4) C dX2_measureVia_50 rfl ?_
  refine x_min C (by decide +kernel) (by decide +kernel) (by decide +kernel) (by decide +kernel) ⟨Nat.le_of_ble_eq_true rfl, Nat.le_of_ble_eq_true rfl, Nat.le_of_ble_eq_true rfl, Nat.le_of_ble_eq_true rfl⟩ dX2_measureVia_52 rfl ?_
  refine x_iastC C (by unfold cI; omega) (in8 hj) (cl8 hj) dX2_measureVia_55 ?_
  refine x_iinc (v := nI (j + 1)) C dX2_measureVia_56 rfl (inc1 j) ?_
  refine x_goto C 10 dX2_measureVia_59 (by decide) ?_
  refine x_subm (lv' := [(3, .int (nI (j + 1))), (2, .int (nI i)), (0, .ref (a 2)), (1, .int (nI v))]) ?_ rfl
  exact ihj
theorem hinX2_measure_X2 : ∀ w ∈ wsX20, w ∈ wsX2_measure := by decide +kernel
def rmX2_measure : Room := { frames := 2, cells := 0, slots := 0, locals := 48 }
set_option maxHeartbeats 4000000 in
set_option maxRecDepth 100000 in
theorem k_X2_measure (l : Launch) (D : va_G) (cy : Nat → ClassId) (a : Nat → Nat) (A : Nat → Prop) (X : va_W) (V : XV)   : Met l yX2_measure wsX2_measure rmX2_measure (va_Pc [.ref (a 2)] (xPre D (tyC cy) A (cW cy a X V))) (va_Qv (fun (u : XV) => u = measV V) (fun u t => xPost D (tyC cy) A (cW cy a X u) t) A) 0 0 A := by
  refine x_met (own := RX2) (by decide) rfl rfl (Nat.le_of_ble_eq_true rfl) rfl ?_
  intro p e s m below meth c hnm C hE
  refine x_iconst (v := 0) C dX2_measure_0 (by decide) ?_
  refine x_istore_n (i := 1) C dX2_measure_1 rfl (by decide) ?_
  refine x_subm (lv' := [(1, .int (nI 0)), (0, .ref (a 2))]) ?_ rfl
  refine x_count (N := 8) (fun i => xA p l e _ s m _ below meth c D A 3 0 0 _ 2 [(1, .int (nI i)), (0, .ref (a 2))] [] (cW cy a X (m1Out V i))) ?_ ?_
  · refine x_iload_n (i := 1) C dX2_measure_2 rfl rfl ?_
    refine x_bipush (v := 8) C dX2_measure_3 (by decide) ?_
    refine x_icmp_ge C 56 dX2_measure_5 (by decide) (fun c_5 => ?_) (fun c_5 => absurd le8 c_5)
    refine x_iconst (v := 0) C dX2_measure_56 (by decide) ?_
    refine x_istore_n (i := 1) C dX2_measure_57 rfl (by decide) ?_
    refine x_subm (lv' := [(1, .int (nI 0)), (0, .ref (a 2))]) ?_ rfl
    refine x_count (N := 8) (fun v => xA p l e _ s m _ below meth c D A 3 0 0 _ 58 [(1, .int (nI v)), (0, .ref (a 2))] [] (cW cy a X (m2Out (m1Out V 8) v))) ?_ ?_
    · refine x_iload_n (i := 1) C dX2_measure_58 rfl rfl ?_
      refine x_bipush (v := 8) C dX2_measure_59 (by decide) ?_
      refine x_icmp_ge C 75 dX2_measure_61 (by decide) (fun c_61 => ?_) (fun c_61 => absurd le8 c_61)
      refine x_iconst (v := 0) C dX2_measure_75 (by decide) ?_
      refine x_istore_n (i := 1) C dX2_measure_76 rfl (by decide) ?_
      refine x_subm (lv' := [(1, .int (nI 0)), (0, .ref (a 2))]) ?_ rfl
      refine x_count (N := 8) (fun j => xA p l e _ s m _ below meth c D A 3 0 0 _ 77 [(1, .int (nI j)), (0, .ref (a 2))] [] (cW cy a X (m3Out (m2Out (m1Out V 8) 8) j))) ?_ ?_
      · refine x_iload_n (i := 1) C dX2_measure_77 rfl rfl ?_
        refine x_bipush (v := 8) C dX2_measure_78 (by decide) ?_
        refine x_icmp_ge C 144 dX2_measure_80 (by decide) (fun c_80 => ?_) (fun c_80 => absurd le8 c_80)
        exact x_vret  C dX2_measure_144 ⟨Nat.le_of_ble_eq_true rfl, Nat.le_of_ble_eq_true rfl⟩ rfl
      intro j hj ihj
      refine x_iload_n (i := 1) C dX2_measure_77 rfl rfl ?_
      refine x_bipush (v := 8) C dX2_measure_78 (by decide) ?_
      refine x_icmp_ge C 144 dX2_measure_80 (by decide) (fun c_80 => absurd c_80 (lt8 hj)) (fun c_80 => ?_)
      refine x_aload_n (i := 0) C dX2_measure_83 rfl rfl ?_
      refine x_getWr C 3 (by decide) hinX2_measure_X2 (by decide +kernel) dX2_measure_84 ?_
      refine x_iload_n (i := 1) C dX2_measure_87 rfl rfl ?_
      refine x_ldc (v := 1000000) C (by decide +kernel) dX2_measure_88 ?_
      refine x_iastC C (by unfold cI; omega) (in8 hj) (cl8 hj) dX2_measure_90 ?_
      refine x_iconst (v := 0) C dX2_measure_91 (by decide) ?_
      refine x_istore_n (i := 2) C dX2_measure_92 rfl (by decide) ?_
      refine x_subm (lv' := [(2, .int (nI 0)), (1, .int (nI j)), (0, .ref (a 2))]) ?_ rfl
      refine x_count (N := 8) (fun v => xA p l e _ s m _ below meth c D A 3 0 0 _ 93 [(2, .int (nI v)), (1, .int (nI j)), (0, .ref (a 2))] [] (cW cy a X (m3In (xs (m3Out (m2Out (m1Out V 8) 8) j) 8 j 1000000) j v))) ?_ ?_
      · refine x_iload_n (i := 2) C dX2_measure_93 rfl rfl ?_
        refine x_bipush (v := 8) C dX2_measure_94 (by decide) ?_
        refine x_icmp_ge C 138 dX2_measure_96 (by decide) (fun c_96 => ?_) (fun c_96 => absurd le8 c_96)
        refine x_iinc (v := nI (j + 1)) C dX2_measure_138 rfl (inc1 j) ?_
        refine x_goto C 77 dX2_measure_141 (by decide) ?_
        refine x_subm (lv' := [(1, .int (nI (j + 1))), (0, .ref (a 2))]) ?_ rfl
        exact ihj
      intro v hv ihv
      refine x_iload_n (i := 2) C dX2_measure_93 rfl rfl ?_
      refine x_bipush (v := 8) C dX2_measure_94 (by decide) ?_
      refine x_icmp_ge C 138 dX2_measure_96 (by decide) (fun c_96 => absurd c_96 (lt8 hv)) (fun c_96 => ?_)
      refine x_aload_n (i := 0) C dX2_measure_99 rfl rfl ?_
      refine x_getWr C 3 (by decide) hinX2_measure_X2 (by decide +kernel) dX2_measure_100 ?_
      refine x_iload_n (i := 1) C dX2_measure_103 rfl rfl ?_
      refine x_aload_n (i := 0) C dX2_measure_104 rfl rfl ?_
      refine x_getWr C 3 (by decide) hinX2_measure_X2 (by decide +kernel) dX2_measure_105 ?_
      refine x_iload_n (i := 1) C dX2_measure_108 rfl rfl ?_
      refine x_ialdC C (by unfold cI; omega) (in8 hj) (cl8 hj) dX2_measure_109 ?_
      refine x_aload_n (i := 0) C dX2_measure_110 rfl rfl ?_
      refine x_getWr C 0 (by decide) hinX2_measure_X2 (by decide +kernel) dX2_measure_111 ?_
      refine x_iload_n (i := 2) C dX2_measure_114 rfl rfl ?_
      refine x_ialdC C (by unfold cI; omega) (in8 hv) (cl8 hv) dX2_measure_115 ?_
      refine x_callSi C hE (k_X2_orFar l D _ A _ _) (va_cwS 1 C.2.2.2.2.1 gX2_measure_X2_orFar rfl rfl rfl (by decide +kernel) ⟨Nat.le_of_ble_eq_true rfl, Nat.le_of_ble_eq_true rfl⟩)  rfl rfl (Nat.le_of_ble_eq_true rfl) dX2_measure_116 ⟨Nat.le_of_ble_eq_true rfl, Nat.le_of_ble_eq_true rfl⟩ (fun r_116 u_116 h_116 => ?_)
      subst h_116
      refine x_aload_n (i := 0) C dX2_measure_119 rfl rfl ?_
      refine x_getWr C 2 (by decide) hinX2_measure_X2 (by decide +kernel) dX2_measure_120 ?_
      refine x_iload_n (i := 2) C dX2_measure_123 rfl rfl ?_
      refine x_aaldLb C (in8 hv) (cl8 hv) dX2_measure_124 ?_
      refine x_iload_n (i := 1) C dX2_measure_125 rfl rfl ?_
      refine x_ialdC C (by unfold cI; omega) (in8 hj) (cl8 hj) dX2_measure_126 ?_
      refine x_iadd C dX2_measure_127 ?_
      refine x_min C (by decide +kernel) (by decide +kernel) (by decide +kernel) (by decide +kernel) ⟨Nat.le_of_ble_eq_true rfl, Nat.le_of_ble_eq_true rfl, Nat.le_of_ble_eq_true rfl, Nat.le_of_ble_eq_true rfl⟩ dX2_measure_128 rfl ?_
      refine x_iastC C (by unfold cI; omega) (in8 hj) (cl8 hj) dX2_measure_131 ?_
      refine x_iinc (v := nI (v + 1)) C dX2_measure_132 rfl (inc1 v) ?_
      refine x_goto C 93 dX2_measure_135 (by decide) ?_
      refine x_subm (lv' := [(2, .int (nI (v + 1))), (1, .int (nI j)), (0, .ref (a 2))]) ?_ rfl
      exact ihv
    intro v hv ihv
    refine x_iload_n (i := 1) C dX2_measure_58 rfl rfl ?_
    refine x_bipush (v := 8) C dX2_measure_59 (by decide) ?_
    refine x_icmp_ge C 75 dX2_measure_61 (by decide) (fun c_61 => absurd c_61 (lt8 hv)) (fun c_61 => ?_)
    refine x_aload_n (i := 0) C dX2_measure_64 rfl rfl ?_
    refine x_iload_n (i := 1) C dX2_measure_65 rfl rfl ?_
    refine x_callVv C hE (k_X2_measureVia l D cy a A X _ (by assumption)) (cwV 1 C.2.2.2.2.1 gX2_measure_X2_measureVia rfl rfl rfl (by decide +kernel) ⟨Nat.le_of_ble_eq_true rfl, Nat.le_of_ble_eq_true rfl⟩) 2 (cW_W cy a X _) rfl rfl rfl rfl (Nat.le_of_ble_eq_true rfl) dX2_measure_66 ⟨Nat.le_of_ble_eq_true rfl, Nat.le_of_ble_eq_true rfl⟩ (fun u_66 h_66 => ?_)
    rw [h_66]
    refine x_iinc (v := nI (v + 1)) C dX2_measure_69 rfl (inc1 v) ?_
    refine x_goto C 58 dX2_measure_72 (by decide) ?_
    refine x_subm (lv' := [(1, .int (nI (v + 1))), (0, .ref (a 2))]) ?_ rfl
    exact ihv
  intro i hi ihi
  refine x_iload_n (i := 1) C dX2_measure_2 rfl rfl ?_
  refine x_bipush (v := 8) C dX2_measure_3 (by decide) ?_
  refine x_icmp_ge C 56 dX2_measure_5 (by decide) (fun c_5 => absurd c_5 (lt8 hi)) (fun c_5 => ?_)
  refine x_iconst (v := 0) C dX2_measure_8 (by decide) ?_
  refine x_istore_n (i := 2) C dX2_measure_9 rfl (by decide) ?_
  refine x_subm (lv' := [(2, .int (nI 0)), (1, .int (nI i)), (0, .ref (a 2))]) ?_ rfl
  refine x_count (N := 8) (fun j => xA p l e _ s m _ below meth c D A 3 0 0 _ 10 [(2, .int (nI j)), (1, .int (nI i)), (0, .ref (a 2))] [] (cW cy a X (m1In (m1Out V i) i j))) ?_ ?_
  · refine x_iload_n (i := 2) C dX2_measure_10 rfl rfl ?_
    refine x_bipush (v := 8) C dX2_measure_11 (by decide) ?_
    refine x_icmp_ge C 50 dX2_measure_13 (by decide) (fun c_13 => ?_) (fun c_13 => absurd le8 c_13)
    refine x_iinc (v := nI (i + 1)) C dX2_measure_50 rfl (inc1 i) ?_
    refine x_goto C 2 dX2_measure_53 (by decide) ?_
    refine x_subm (lv' := [(1, .int (nI (i + 1))), (0, .ref (a 2))]) ?_ rfl
    exact ihi
  intro j hj ihj
  refine x_iload_n (i := 2) C dX2_measure_10 rfl rfl ?_
  refine x_bipush (v := 8) C dX2_measure_11 (by decide) ?_
  refine x_icmp_ge C 50 dX2_measure_13 (by decide) (fun c_13 => absurd c_13 (lt8 hj)) (fun c_13 => ?_)
  refine x_aload_n (i := 0) C dX2_measure_16 rfl rfl ?_
  refine x_getWr C 2 (by decide) hinX2_measure_X2 (by decide +kernel) dX2_measure_17 ?_
  refine x_iload_n (i := 1) C dX2_measure_20 rfl rfl ?_
  refine x_aaldLb C (in8 hi) (cl8 hi) dX2_measure_21 ?_
  refine x_iload_n (i := 2) C dX2_measure_22 rfl rfl ?_
  refine x_iload_n (i := 1) C dX2_measure_23 rfl rfl ?_
  refine x_iload_n (i := 2) C dX2_measure_24 rfl rfl ?_
  refine x_icmp_ne C 32 dX2_measure_25 (by decide) (fun c_25 => ?_) (fun c_25 => ?_)
  · refine x_aload_n (i := 0) C dX2_measure_32 rfl rfl ?_
    refine x_getWr C 1 (by decide) hinX2_measure_X2 (by decide +kernel) dX2_measure_33 ?_
    refine x_iload_n (i := 1) C dX2_measure_36 rfl rfl ?_
    refine x_aaldDe C (in8 hi) (cl8 hi) dX2_measure_37 ?_
    refine x_iload_n (i := 2) C dX2_measure_38 rfl rfl ?_
    refine x_ialdC C (by unfold cI; omega) (in8 hj) (cl8 hj) dX2_measure_39 ?_
    refine x_callSi C hE (k_X2_orFar l D _ A _ _) (va_cwS 1 C.2.2.2.2.1 gX2_measure_X2_orFar rfl rfl rfl (by decide +kernel) ⟨Nat.le_of_ble_eq_true rfl, Nat.le_of_ble_eq_true rfl⟩)  rfl rfl (Nat.le_of_ble_eq_true rfl) dX2_measure_40 ⟨Nat.le_of_ble_eq_true rfl, Nat.le_of_ble_eq_true rfl⟩ (fun r_40 u_40 h_40 => ?_)
    subst h_40
    refine x_iastC C (by unfold cI; omega) (in8 hj) (cl8 hj) dX2_measure_43 ?_
    refine x_iinc (v := nI (j + 1)) C dX2_measure_44 rfl (inc1 j) ?_
    refine x_goto C 10 dX2_measure_47 (by decide) ?_
    first | (refine x_ws (ws' := cW cy a X (m1In (m1Out V i) i (j + 1))) (by show cW cy a X _ = cW cy a X (m1Step _ i j); unfold m1Step; rw [if_pos ((nI_eq (by omega) (by omega)).mp c_25)]) ?_; refine x_subm (lv' := [(2, .int (nI (j + 1))), (1, .int (nI i)), (0, .ref (a 2))]) ?_ rfl; exact ihj) | (refine x_ws (ws' := cW cy a X (m1In (m1Out V i) i (j + 1))) (by show cW cy a X _ = cW cy a X (m1Step _ i j); unfold m1Step; rw [if_neg (fun z => c_25 ((nI_eq (by omega) (by omega)).mpr z))]) ?_; refine x_subm (lv' := [(2, .int (nI (j + 1))), (1, .int (nI i)), (0, .ref (a 2))]) ?_ rfl; exact ihj)
  refine x_iconst (v := 0) C dX2_measure_28 (by decide) ?_
  refine x_goto C 43 dX2_measure_29 (by decide) ?_
  refine x_iastC C (by unfold cI; omega) (in8 hj) (cl8 hj) dX2_measure_43 ?_
  refine x_iinc (v := nI (j + 1)) C dX2_measure_44 rfl (inc1 j) ?_
  refine x_goto C 10 dX2_measure_47 (by decide) ?_
  first | (refine x_ws (ws' := cW cy a X (m1In (m1Out V i) i (j + 1))) (by show cW cy a X _ = cW cy a X (m1Step _ i j); unfold m1Step; rw [if_pos ((nI_eq (by omega) (by omega)).mp c_25)]) ?_; refine x_subm (lv' := [(2, .int (nI (j + 1))), (1, .int (nI i)), (0, .ref (a 2))]) ?_ rfl; exact ihj) | (refine x_ws (ws' := cW cy a X (m1In (m1Out V i) i (j + 1))) (by show cW cy a X _ = cW cy a X (m1Step _ i j); unfold m1Step; rw [if_neg (fun z => c_25 ((nI_eq (by omega) (by omega)).mpr z))]) ?_; refine x_subm (lv' := [(2, .int (nI (j + 1))), (1, .int (nI i)), (0, .ref (a 2))]) ?_ rfl; exact ihj)
theorem hinX2_changeImage_X2 : ∀ w ∈ wsX20, w ∈ wsX2_changeImage := by decide +kernel
def rmX2_changeImage : Room := { frames := 3, cells := 0, slots := 0, locals := 70 }
set_option maxHeartbeats 4000000 in
set_option maxRecDepth 100000 in
theorem k_X2_changeImage (l : Launch) (D : va_G) (cy : Nat → ClassId) (a : Nat → Nat) (A : Nat → Prop) (X : va_W) (V : XV) (f z : Int32) (hf : vp_in f 8) : Met l yX2_changeImage wsX2_changeImage rmX2_changeImage (va_Pc [.ref (a 2), .int f, .int z] (xPre D (tyC cy) A (cW cy a X V))) (va_Qi (fun (r : Int32) (u : XV) => r = V 5 f.toNatClampNeg ∧ u = measV (xs V 5 f.toNatClampNeg z)) (fun u t => xPost D (tyC cy) A (cW cy a X u) t) A) 0 0 A := by
  refine x_met (own := RX2) (by decide) rfl rfl (Nat.le_of_ble_eq_true rfl) rfl ?_
  intro p e s m below meth c hnm C hE
  refine x_aload_n (i := 0) C dX2_changeImage_0 rfl rfl ?_
  refine x_getWr C 0 (by decide) hinX2_changeImage_X2 (by decide +kernel) dX2_changeImage_1 ?_
  refine x_iload_n (i := 1) C dX2_changeImage_4 rfl rfl ?_
  refine x_ialdC C (by unfold cI; omega) (by assumption) rfl dX2_changeImage_5 ?_
  refine x_istore_n (i := 3) C dX2_changeImage_6 rfl (by decide) ?_
  refine x_aload_n (i := 0) C dX2_changeImage_7 rfl rfl ?_
  refine x_getWr C 0 (by decide) hinX2_changeImage_X2 (by decide +kernel) dX2_changeImage_8 ?_
  refine x_iload_n (i := 1) C dX2_changeImage_11 rfl rfl ?_
  refine x_iload_n (i := 2) C dX2_changeImage_12 rfl rfl ?_
  refine x_iastC C (by unfold cI; omega) (by assumption) rfl dX2_changeImage_13 ?_
  refine x_aload_n (i := 0) C dX2_changeImage_14 rfl rfl ?_
  refine x_callVv C hE (k_X2_measure l D cy a A X _ ) (cwV 0 C.2.2.2.2.1 gX2_changeImage_X2_measure rfl rfl rfl (by decide +kernel) ⟨Nat.le_of_ble_eq_true rfl, Nat.le_of_ble_eq_true rfl⟩) 2 (cW_W cy a X _) rfl rfl rfl rfl (Nat.le_of_ble_eq_true rfl) dX2_changeImage_15 ⟨Nat.le_of_ble_eq_true rfl, Nat.le_of_ble_eq_true rfl⟩ (fun u_15 h_15 => ?_)
  rw [h_15]
  refine x_iload_n (i := 3) C dX2_changeImage_18 rfl rfl ?_
  exact x_iret  C dX2_changeImage_19 ⟨Nat.le_of_ble_eq_true rfl, Nat.le_of_ble_eq_true rfl⟩ ⟨rfl, rfl⟩
theorem hinX2_changeDelta_X2 : ∀ w ∈ wsX20, w ∈ wsX2_changeDelta := by decide +kernel
def rmX2_changeDelta : Room := { frames := 3, cells := 0, slots := 0, locals := 70 }
set_option maxHeartbeats 4000000 in
set_option maxRecDepth 100000 in
theorem k_X2_changeDelta (l : Launch) (D : va_G) (cy : Nat → ClassId) (a : Nat → Nat) (A : Nat → Prop) (X : va_W) (V : XV) (f t z : Int32) (hf : vp_in f 8) (ht : vp_in t 8) : Met l yX2_changeDelta wsX2_changeDelta rmX2_changeDelta (va_Pc [.ref (a 2), .int f, .int t, .int z] (xPre D (tyC cy) A (cW cy a X V))) (va_Qi (fun (r : Int32) (u : XV) => r = V (25 + f.toNatClampNeg) t.toNatClampNeg ∧ u = measV (xs V (25 + f.toNatClampNeg) t.toNatClampNeg z)) (fun u t => xPost D (tyC cy) A (cW cy a X u) t) A) 0 0 A := by
  refine x_met (own := RX2) (by decide) rfl rfl (Nat.le_of_ble_eq_true rfl) rfl ?_
  intro p e s m below meth c hnm C hE
  refine x_aload_n (i := 0) C dX2_changeDelta_0 rfl rfl ?_
  refine x_getWr C 1 (by decide) hinX2_changeDelta_X2 (by decide +kernel) dX2_changeDelta_1 ?_
  refine x_iload_n (i := 1) C dX2_changeDelta_4 rfl rfl ?_
  refine x_aaldDe C (by assumption) rfl dX2_changeDelta_5 ?_
  refine x_iload_n (i := 2) C dX2_changeDelta_6 rfl rfl ?_
  refine x_ialdC C (by have := vp_at hf; unfold cI; omega) (by assumption) rfl dX2_changeDelta_7 ?_
  refine x_istore (i := 4) C dX2_changeDelta_8 (by decide) ?_
  refine x_aload_n (i := 0) C dX2_changeDelta_10 rfl rfl ?_
  refine x_getWr C 1 (by decide) hinX2_changeDelta_X2 (by decide +kernel) dX2_changeDelta_11 ?_
  refine x_iload_n (i := 1) C dX2_changeDelta_14 rfl rfl ?_
  refine x_aaldDe C (by assumption) rfl dX2_changeDelta_15 ?_
  refine x_iload_n (i := 2) C dX2_changeDelta_16 rfl rfl ?_
  refine x_iload_n (i := 3) C dX2_changeDelta_17 rfl rfl ?_
  refine x_iastC C (by have := vp_at hf; unfold cI; omega) (by assumption) rfl dX2_changeDelta_18 ?_
  refine x_aload_n (i := 0) C dX2_changeDelta_19 rfl rfl ?_
  refine x_callVv C hE (k_X2_measure l D cy a A X _ ) (cwV 0 C.2.2.2.2.1 gX2_changeDelta_X2_measure rfl rfl rfl (by decide +kernel) ⟨Nat.le_of_ble_eq_true rfl, Nat.le_of_ble_eq_true rfl⟩) 2 (cW_W cy a X _) rfl rfl rfl rfl (Nat.le_of_ble_eq_true rfl) dX2_changeDelta_20 ⟨Nat.le_of_ble_eq_true rfl, Nat.le_of_ble_eq_true rfl⟩ (fun u_20 h_20 => ?_)
  rw [h_20]
  refine x_iload (i := 4) C dX2_changeDelta_23 rfl ?_
  exact x_iret  C dX2_changeDelta_25 ⟨Nat.le_of_ble_eq_true rfl, Nat.le_of_ble_eq_true rfl⟩ ⟨rfl, rfl⟩
end
section
/-! ===== BEGIN ways2: the search along all ways ===== -/
theorem b2i_n0 {b : Bool} (h : ¬ b2i b = 0) : b = true := by
  cases b with
  | true => rfl
  | false => exact absurd rfl h
theorem b2i_z {b : Bool} (h : b2i b = 0) : ¬ b = true := by
  cases b with
  | true => exact absurd h (by decide)
  | false => decide
def rmLA (k : Nat) : Room := { frames := k + 1, cells := 0, slots := 0, locals := 27 * k + 30 }
set_option maxHeartbeats 4000000 in
set_option maxRecDepth 100000 in
theorem k_X2_leastAlong (l : Launch) (D : va_G) (cy : Nat → ClassId) (a : Nat → Nat) (A : Nat → Prop) (X : va_W) (V : XV) {to_ : Nat} (ht : to_ < 8) : ∀ k, k ≤ 8 → ∀ at_, at_ < 8 → ∀ met : Int32, Met l yX2_leastAlong wsX2_leastAlong (rmLA k) (va_Pc [.ref (a 6), .int (nI at_), .int (nI to_), .int met, .int (nI (8 - k))] (xPre D (tyC cy) A (cW cy a X V))) (va_Qi (fun (r : Int32) (u : XV) => r = la V to_ k at_ met ∧ u = V) (fun u t => xPost D (tyC cy) A (cW cy a X u) t) A) 0 0 A := by
  intro k
  induction k with
  | zero =>
    intro hk at_ ha met
    refine x_met (own := RX2) (by decide) rfl rfl (Nat.le_of_ble_eq_true rfl) rfl ?_
    intro p e s m below meth c hnm C hE
    refine x_iload_n (i := 1) C dX2_leastAlong_0 rfl rfl ?_
    refine x_iload_n (i := 2) C dX2_leastAlong_1 rfl rfl ?_
    refine x_icmp_ne C 7 dX2_leastAlong_2 (by decide) (fun c_2 => ?_) (fun c_2 => ?_)
    · refine x_iload (i := 4) C dX2_leastAlong_7 rfl ?_
      refine x_bipush (v := 8) C dX2_leastAlong_9 (by decide) ?_
      refine x_icmp_lt C 17 dX2_leastAlong_11 (by decide) (fun c_11 => absurd c_11 (by decide)) (fun c_11 => ?_)
      refine x_ldc (v := 1000000) C (by decide +kernel) dX2_leastAlong_14 ?_
      exact x_iret  C dX2_leastAlong_16 ⟨(by first | exact Nat.le_of_ble_eq_true rfl | (simp [rmLA, rmX3_has, Value.category]; done) | (simp [rmLA, rmX3_has, Value.category]; omega)), (by first | exact Nat.le_of_ble_eq_true rfl | (simp [rmLA, rmX3_has, Value.category]; done) | (simp [rmLA, rmX3_has, Value.category]; omega))⟩ ⟨(if_neg (fun z => c_2 ((nI_eq (by omega) (by omega)).mpr z))).symm, rfl⟩
    refine x_iconst (v := 0) C dX2_leastAlong_5 (by decide) ?_
    exact x_iret  C dX2_leastAlong_6 ⟨(by first | exact Nat.le_of_ble_eq_true rfl | (simp [rmLA, rmX3_has, Value.category]; done) | (simp [rmLA, rmX3_has, Value.category]; omega)), (by first | exact Nat.le_of_ble_eq_true rfl | (simp [rmLA, rmX3_has, Value.category]; done) | (simp [rmLA, rmX3_has, Value.category]; omega))⟩ ⟨(if_pos ((nI_eq (by omega) (by omega)).mp c_2)).symm, rfl⟩
  | succ k ih =>
    intro hk at_ ha met
    refine x_met (own := RX2) (by decide) rfl rfl (Nat.le_of_ble_eq_true rfl) rfl ?_
    intro p e s m below meth c hnm C hE
    refine x_iload_n (i := 1) C dX2_leastAlong_0 rfl rfl ?_
    refine x_iload_n (i := 2) C dX2_leastAlong_1 rfl rfl ?_
    refine x_icmp_ne C 7 dX2_leastAlong_2 (by decide) (fun c_2 => ?_) (fun c_2 => ?_)
    · refine x_iload (i := 4) C dX2_leastAlong_7 rfl ?_
      refine x_bipush (v := 8) C dX2_leastAlong_9 (by decide) ?_
      refine x_icmp_lt C 17 dX2_leastAlong_11 (by decide) (fun c_11 => ?_) (fun c_11 => absurd (nI_lt (a := 8 - (k + 1)) (b := 8) (by omega) (by decide)) c_11)
      refine x_ldc (v := 1000000) C (by decide +kernel) dX2_leastAlong_17 ?_
      refine x_istore (i := 5) C dX2_leastAlong_19 (by decide) ?_
      refine x_iconst (v := 0) C dX2_leastAlong_21 (by decide) ?_
      refine x_istore (i := 6) C dX2_leastAlong_22 (by decide) ?_
      refine x_subm (lv' := [(6, .int (nI 0)), (5, .int (laL V (la V to_ k) at_ met 0)), (0, .ref (a 6)), (1, .int (nI at_)), (2, .int (nI to_)), (3, .int met), (4, .int (nI (8 - (k + 1))))]) ?_ rfl
      refine x_count (N := 8) (fun n => xA p l e _ s m _ below meth c D A 8 0 0 _ 24 [(6, .int (nI n)), (5, .int (laL V (la V to_ k) at_ met n)), (0, .ref (a 6)), (1, .int (nI at_)), (2, .int (nI to_)), (3, .int met), (4, .int (nI (8 - (k + 1))))] [] (cW cy a X V)) ?_ ?_
      · refine x_iload (i := 6) C dX2_leastAlong_24 rfl ?_
        refine x_bipush (v := 8) C dX2_leastAlong_26 (by decide) ?_
        refine x_icmp_ge C 91 dX2_leastAlong_28 (by decide) (fun c_28 => ?_) (fun c_28 => absurd le8 c_28)
        refine x_iload (i := 5) C dX2_leastAlong_91 rfl ?_
        exact x_iret  C dX2_leastAlong_93 ⟨(by first | exact Nat.le_of_ble_eq_true rfl | (simp [rmLA, rmX3_has, Value.category]; done) | (simp [rmLA, rmX3_has, Value.category]; omega)), (by first | exact Nat.le_of_ble_eq_true rfl | (simp [rmLA, rmX3_has, Value.category]; done) | (simp [rmLA, rmX3_has, Value.category]; omega))⟩ ⟨(if_neg (fun z => c_2 ((nI_eq (by omega) (by omega)).mpr z))).symm, rfl⟩
      intro n hn ihn
      refine x_iload (i := 6) C dX2_leastAlong_24 rfl ?_
      refine x_bipush (v := 8) C dX2_leastAlong_26 (by decide) ?_
      refine x_icmp_ge C 91 dX2_leastAlong_28 (by decide) (fun c_28 => absurd c_28 (lt8 hn)) (fun c_28 => ?_)
      refine x_iload_n (i := 3) C dX2_leastAlong_31 rfl rfl ?_
      refine x_iload (i := 6) C dX2_leastAlong_32 rfl ?_
      refine x_callNi C hE (k_X3_has l D _ A _ _ _) (⟨va_cnB (host := "Ringroll") 2 C.2.2.2.2.1 ggX2_leastAlong_X3_has rfl rfl rfl (hE.1 _ (List.mem_of_getElem? (i := 0) rfl)) (C.2.2.2.2.1 _ (by decide +kernel)) (by decide +kernel) ⟨(by first | exact Nat.le_of_ble_eq_true rfl | (simp [rmLA, rmX3_has, Value.category]; done) | (simp [rmLA, rmX3_has, Value.category]; omega)), (by first | exact Nat.le_of_ble_eq_true rfl | (simp [rmLA, rmX3_has, Value.category]; done) | (simp [rmLA, rmX3_has, Value.category]; omega))⟩, C.2.2.2.2.1 _ (by decide +kernel), trivial⟩)  rfl rfl ((by first | exact Nat.le_of_ble_eq_true rfl | (simp [rmLA, rmX3_has, Value.category]; done) | (simp [rmLA, rmX3_has, Value.category]; omega))) dX2_leastAlong_34 ⟨(by first | exact Nat.le_of_ble_eq_true rfl | (simp [rmLA, rmX3_has, Value.category]; done) | (simp [rmLA, rmX3_has, Value.category]; omega)), (by first | exact Nat.le_of_ble_eq_true rfl | (simp [rmLA, rmX3_has, Value.category]; done) | (simp [rmLA, rmX3_has, Value.category]; omega))⟩ (fun r_34 u_34 h_34 => ?_)
      subst h_34
      refine x_if_ne C 85 dX2_leastAlong_37 (by decide) (fun c_37 => ?_) (fun c_37 => ?_)
      · refine x_iinc (v := nI (n + 1)) C dX2_leastAlong_85 rfl (inc1 n) ?_
        refine x_goto C 24 dX2_leastAlong_88 (by decide) ?_
        first | (have e9 : laL V (la V to_ k) at_ met (n + 1) = laL V (la V to_ k) at_ met n := if_pos (b2i_n0 c_37); rw [e9] at ihn; exact x_subm ihn rfl) | (have e9 : laL V (la V to_ k) at_ met (n + 1) = laL V (la V to_ k) at_ met n := (if_neg (b2i_z c_37)).trans (if_pos c_47); rw [e9] at ihn; exact x_subm ihn rfl) | (have e9 : laL V (la V to_ k) at_ met (n + 1) = minI (laL V (la V to_ k) at_ met n) (V (25 + at_) n + la V to_ k n (met ||| (1 <<< (nI n &&& 31)))) := (if_neg (b2i_z c_37)).trans (if_neg c_47); rw [e9] at ihn; exact x_subm ihn rfl)
      refine x_aload_n (i := 0) C dX2_leastAlong_40 rfl rfl ?_
      refine x_iload_n (i := 1) C dX2_leastAlong_41 rfl rfl ?_
      refine x_aaldDe C (in8 ha) (cl8 ha) dX2_leastAlong_42 ?_
      refine x_iload (i := 6) C dX2_leastAlong_43 rfl ?_
      refine x_ialdC C (by unfold cI; omega) (in8 hn) (cl8 hn) dX2_leastAlong_45 ?_
      refine x_iconst (v := (-1)) C dX2_leastAlong_46 (by decide) ?_
      refine x_icmp_eq C 85 dX2_leastAlong_47 (by decide) (fun c_47 => ?_) (fun c_47 => ?_)
      · refine x_iinc (v := nI (n + 1)) C dX2_leastAlong_85 rfl (inc1 n) ?_
        refine x_goto C 24 dX2_leastAlong_88 (by decide) ?_
        first | (have e9 : laL V (la V to_ k) at_ met (n + 1) = laL V (la V to_ k) at_ met n := if_pos (b2i_n0 c_37); rw [e9] at ihn; exact x_subm ihn rfl) | (have e9 : laL V (la V to_ k) at_ met (n + 1) = laL V (la V to_ k) at_ met n := (if_neg (b2i_z c_37)).trans (if_pos c_47); rw [e9] at ihn; exact x_subm ihn rfl) | (have e9 : laL V (la V to_ k) at_ met (n + 1) = minI (laL V (la V to_ k) at_ met n) (V (25 + at_) n + la V to_ k n (met ||| (1 <<< (nI n &&& 31)))) := (if_neg (b2i_z c_37)).trans (if_neg c_47); rw [e9] at ihn; exact x_subm ihn rfl)
      refine x_aload_n (i := 0) C dX2_leastAlong_50 rfl rfl ?_
      refine x_iload (i := 6) C dX2_leastAlong_51 rfl ?_
      refine x_iload_n (i := 2) C dX2_leastAlong_53 rfl rfl ?_
      refine x_iload_n (i := 3) C dX2_leastAlong_54 rfl rfl ?_
      refine x_iconst (v := 1) C dX2_leastAlong_55 (by decide) ?_
      refine x_iload (i := 6) C dX2_leastAlong_56 rfl ?_
      refine x_ishl C dX2_leastAlong_58 ?_
      refine x_ior C dX2_leastAlong_59 ?_
      refine x_iload (i := 4) C dX2_leastAlong_60 rfl ?_
      refine x_iconst (v := 1) C dX2_leastAlong_62 (by decide) ?_
      refine x_iadd C dX2_leastAlong_63 ?_
      refine x_topi (y := nI (8 - k)) (by rw [nI_1]; congr 1; omega) ?_
      refine x_callSi C hE (ih (by omega) n hn _) (va_cwS 5 C.2.2.2.2.1 gX2_leastAlong_X2_leastAlong rfl rfl rfl (by decide +kernel) ⟨(by first | exact Nat.le_of_ble_eq_true rfl | (simp [rmLA, rmX3_has, Value.category]; done) | (simp [rmLA, rmX3_has, Value.category]; omega)), (by first | exact Nat.le_of_ble_eq_true rfl | (simp [rmLA, rmX3_has, Value.category]; done) | (simp [rmLA, rmX3_has, Value.category]; omega))⟩)  rfl rfl ((by first | exact Nat.le_of_ble_eq_true rfl | (simp [rmLA, rmX3_has, Value.category]; done) | (simp [rmLA, rmX3_has, Value.category]; omega))) dX2_leastAlong_64 ⟨(by first | exact Nat.le_of_ble_eq_true rfl | (simp [rmLA, rmX3_has, Value.category]; done) | (simp [rmLA, rmX3_has, Value.category]; omega)), (by first | exact Nat.le_of_ble_eq_true rfl | (simp [rmLA, rmX3_has, Value.category]; done) | (simp [rmLA, rmX3_has, Value.category]; omega))⟩ (fun r_64 u_64 h_64 => ?_)
      obtain ⟨rfl, e9_64⟩ := h_64
      rw [e9_64]
      refine x_istore (i := 7) C dX2_leastAlong_67 (by decide) ?_
      refine x_iload (i := 5) C dX2_leastAlong_69 rfl ?_
      refine x_aload_n (i := 0) C dX2_leastAlong_71 rfl rfl ?_
      refine x_iload_n (i := 1) C dX2_leastAlong_72 rfl rfl ?_
      refine x_aaldDe C (in8 ha) (cl8 ha) dX2_leastAlong_73 ?_
      refine x_iload (i := 6) C dX2_leastAlong_74 rfl ?_
      refine x_ialdC C (by unfold cI; omega) (in8 hn) (cl8 hn) dX2_leastAlong_76 ?_
      refine x_iload (i := 7) C dX2_leastAlong_77 rfl ?_
      refine x_iadd C dX2_leastAlong_79 ?_
      refine x_min C (by decide +kernel) (by decide +kernel) (by decide +kernel) (by decide +kernel) ⟨(by first | exact Nat.le_of_ble_eq_true rfl | (simp [rmLA, rmX3_has, Value.category]; done) | (simp [rmLA, rmX3_has, Value.category]; omega)), (by first | exact Nat.le_of_ble_eq_true rfl | (simp [rmLA, rmX3_has, Value.category]; done) | (simp [rmLA, rmX3_has, Value.category]; omega)), (by first | exact Nat.le_of_ble_eq_true rfl | (simp [rmLA, rmX3_has, Value.category]; done) | (simp [rmLA, rmX3_has, Value.category]; omega)), (by first | exact Nat.le_of_ble_eq_true rfl | (simp [rmLA, rmX3_has, Value.category]; done) | (simp [rmLA, rmX3_has, Value.category]; omega))⟩ dX2_leastAlong_80 rfl ?_
      refine x_istore (i := 5) C dX2_leastAlong_83 (by decide) ?_
      refine x_iinc (v := nI (n + 1)) C dX2_leastAlong_85 rfl (inc1 n) ?_
      refine x_goto C 24 dX2_leastAlong_88 (by decide) ?_
      first | (have e9 : laL V (la V to_ k) at_ met (n + 1) = laL V (la V to_ k) at_ met n := if_pos (b2i_n0 c_37); rw [e9] at ihn; exact x_subm ihn rfl) | (have e9 : laL V (la V to_ k) at_ met (n + 1) = laL V (la V to_ k) at_ met n := (if_neg (b2i_z c_37)).trans (if_pos c_47); rw [e9] at ihn; exact x_subm ihn rfl) | (have e9 : laL V (la V to_ k) at_ met (n + 1) = minI (laL V (la V to_ k) at_ met n) (V (25 + at_) n + la V to_ k n (met ||| (1 <<< (nI n &&& 31)))) := (if_neg (b2i_z c_37)).trans (if_neg c_47); rw [e9] at ihn; exact x_subm ihn rfl)
    refine x_iconst (v := 0) C dX2_leastAlong_5 (by decide) ?_
    exact x_iret  C dX2_leastAlong_6 ⟨(by first | exact Nat.le_of_ble_eq_true rfl | (simp [rmLA, rmX3_has, Value.category]; done) | (simp [rmLA, rmX3_has, Value.category]; omega)), (by first | exact Nat.le_of_ble_eq_true rfl | (simp [rmLA, rmX3_has, Value.category]; done) | (simp [rmLA, rmX3_has, Value.category]; omega))⟩ ⟨(if_pos ((nI_eq (by omega) (by omega)).mp c_2)).symm, rfl⟩
theorem hinX2_leastBytesOfAllWays_X2 : ∀ w ∈ wsX20, w ∈ wsX2_leastBytesOfAllWays := by decide +kernel
def rmX2_leastBytesOfAllWays : Room := { frames := 10, cells := 0, slots := 0, locals := 273 }
set_option maxHeartbeats 4000000 in
set_option maxRecDepth 100000 in
theorem k_X2_leastBytesOfAllWays (l : Launch) (D : va_G) (cy : Nat → ClassId) (a : Nat → Nat) (A : Nat → Prop) (X : va_W) (V : XV) {f t : Nat} (hf : f < 8) (ht : t < 8) : Met l yX2_leastBytesOfAllWays wsX2_leastBytesOfAllWays rmX2_leastBytesOfAllWays (va_Pc [.ref (a 2), .int (nI f), .int (nI t)] (xPre D (tyC cy) A (cW cy a X V))) (va_Qi (fun (r : Int32) (u : XV) => r = awI V f t ∧ u = V) (fun u t => xPost D (tyC cy) A (cW cy a X u) t) A) 0 0 A := by
  refine x_met (own := RX2) (by decide) rfl rfl (Nat.le_of_ble_eq_true rfl) rfl ?_
  intro p e s m below meth c hnm C hE
  refine x_iload_n (i := 1) C dX2_leastBytesOfAllWays_0 rfl rfl ?_
  refine x_iload_n (i := 2) C dX2_leastBytesOfAllWays_1 rfl rfl ?_
  refine x_icmp_ne C 7 dX2_leastBytesOfAllWays_2 (by decide) (fun c_2 => ?_) (fun c_2 => ?_)
  · refine x_aload_n (i := 0) C dX2_leastBytesOfAllWays_7 rfl rfl ?_
    refine x_getWr C 1 (by decide) hinX2_leastBytesOfAllWays_X2 (by decide +kernel) dX2_leastBytesOfAllWays_8 ?_
    refine x_iload_n (i := 1) C dX2_leastBytesOfAllWays_11 rfl rfl ?_
    refine x_iload_n (i := 2) C dX2_leastBytesOfAllWays_12 rfl rfl ?_
    refine x_iconst (v := 1) C dX2_leastBytesOfAllWays_13 (by decide) ?_
    refine x_iload_n (i := 1) C dX2_leastBytesOfAllWays_14 rfl rfl ?_
    refine x_ishl C dX2_leastBytesOfAllWays_15 ?_
    refine x_iconst (v := 0) C dX2_leastBytesOfAllWays_16 (by decide) ?_
    refine x_topi (y := nI (8 - 8)) (by decide) ?_
    refine x_callSi C hE (k_X2_leastAlong l D cy a A X _ ht 8 (by decide) _ (by assumption) _) (va_cwS 5 C.2.2.2.2.1 gX2_leastBytesOfAllWays_X2_leastAlong rfl rfl rfl (by decide +kernel) ⟨Nat.le_of_ble_eq_true rfl, Nat.le_of_ble_eq_true rfl⟩)  rfl rfl (Nat.le_of_ble_eq_true rfl) dX2_leastBytesOfAllWays_17 ⟨Nat.le_of_ble_eq_true rfl, Nat.le_of_ble_eq_true rfl⟩ (fun r_17 u_17 h_17 => ?_)
    obtain ⟨rfl, e9_17⟩ := h_17
    rw [e9_17]
    refine x_istore_n (i := 3) C dX2_leastBytesOfAllWays_20 rfl (by decide) ?_
    refine x_iconst (v := 0) C dX2_leastBytesOfAllWays_21 (by decide) ?_
    refine x_istore (i := 4) C dX2_leastBytesOfAllWays_22 (by decide) ?_
    refine x_subm (lv' := [(4, .int (nI 0)), (3, .int (awL V t f 0)), (0, .ref (a 2)), (1, .int (nI f)), (2, .int (nI t))]) ?_ rfl
    refine x_count (N := 8) (fun v => xA p l e _ s m _ below meth c D A 5 0 0 _ 24 [(4, .int (nI v)), (3, .int (awL V t f v)), (0, .ref (a 2)), (1, .int (nI f)), (2, .int (nI t))] [] (cW cy a X V)) ?_ ?_
    · refine x_iload (i := 4) C dX2_leastBytesOfAllWays_24 rfl ?_
      refine x_bipush (v := 8) C dX2_leastBytesOfAllWays_26 (by decide) ?_
      refine x_icmp_ge C 76 dX2_leastBytesOfAllWays_28 (by decide) (fun c_28 => ?_) (fun c_28 => absurd le8 c_28)
      refine x_iload_n (i := 3) C dX2_leastBytesOfAllWays_76 rfl rfl ?_
      refine x_callSi C hE (k_X2_orNone l D _ A _ _) (va_cwS 1 C.2.2.2.2.1 gX2_leastBytesOfAllWays_X2_orNone rfl rfl rfl (by decide +kernel) ⟨Nat.le_of_ble_eq_true rfl, Nat.le_of_ble_eq_true rfl⟩)  rfl rfl (Nat.le_of_ble_eq_true rfl) dX2_leastBytesOfAllWays_77 ⟨Nat.le_of_ble_eq_true rfl, Nat.le_of_ble_eq_true rfl⟩ (fun r_77 u_77 h_77 => ?_)
      subst h_77
      exact x_iret  C dX2_leastBytesOfAllWays_80 ⟨Nat.le_of_ble_eq_true rfl, Nat.le_of_ble_eq_true rfl⟩ ⟨(if_neg (fun z => c_2 ((nI_eq (by omega) (by omega)).mpr z))).symm, rfl⟩
    intro v hv ihv
    refine x_iload (i := 4) C dX2_leastBytesOfAllWays_24 rfl ?_
    refine x_bipush (v := 8) C dX2_leastBytesOfAllWays_26 (by decide) ?_
    refine x_icmp_ge C 76 dX2_leastBytesOfAllWays_28 (by decide) (fun c_28 => absurd c_28 (lt8 hv)) (fun c_28 => ?_)
    refine x_aload_n (i := 0) C dX2_leastBytesOfAllWays_31 rfl rfl ?_
    refine x_getWr C 0 (by decide) hinX2_leastBytesOfAllWays_X2 (by decide +kernel) dX2_leastBytesOfAllWays_32 ?_
    refine x_iload (i := 4) C dX2_leastBytesOfAllWays_35 rfl ?_
    refine x_ialdC C (by unfold cI; omega) (in8 hv) (cl8 hv) dX2_leastBytesOfAllWays_37 ?_
    refine x_iconst (v := (-1)) C dX2_leastBytesOfAllWays_38 (by decide) ?_
    refine x_icmp_eq C 70 dX2_leastBytesOfAllWays_39 (by decide) (fun c_39 => ?_) (fun c_39 => ?_)
    · refine x_iinc (v := nI (v + 1)) C dX2_leastBytesOfAllWays_70 rfl (inc1 v) ?_
      refine x_goto C 24 dX2_leastBytesOfAllWays_73 (by decide) ?_
      first | (have e9 : awL V t f (v + 1) = awL V t f v := if_pos c_39; rw [e9] at ihv; exact x_subm ihv rfl) | (have e9 : awL V t f (v + 1) = minI (awL V t f v) (V 5 v + la V t 8 v (1 <<< (nI v &&& 31))) := if_neg c_39; rw [e9] at ihv; exact x_subm ihv rfl)
    refine x_iload_n (i := 3) C dX2_leastBytesOfAllWays_42 rfl rfl ?_
    refine x_aload_n (i := 0) C dX2_leastBytesOfAllWays_43 rfl rfl ?_
    refine x_getWr C 0 (by decide) hinX2_leastBytesOfAllWays_X2 (by decide +kernel) dX2_leastBytesOfAllWays_44 ?_
    refine x_iload (i := 4) C dX2_leastBytesOfAllWays_47 rfl ?_
    refine x_ialdC C (by unfold cI; omega) (in8 hv) (cl8 hv) dX2_leastBytesOfAllWays_49 ?_
    refine x_aload_n (i := 0) C dX2_leastBytesOfAllWays_50 rfl rfl ?_
    refine x_getWr C 1 (by decide) hinX2_leastBytesOfAllWays_X2 (by decide +kernel) dX2_leastBytesOfAllWays_51 ?_
    refine x_iload (i := 4) C dX2_leastBytesOfAllWays_54 rfl ?_
    refine x_iload_n (i := 2) C dX2_leastBytesOfAllWays_56 rfl rfl ?_
    refine x_iconst (v := 1) C dX2_leastBytesOfAllWays_57 (by decide) ?_
    refine x_iload (i := 4) C dX2_leastBytesOfAllWays_58 rfl ?_
    refine x_ishl C dX2_leastBytesOfAllWays_60 ?_
    refine x_iconst (v := 0) C dX2_leastBytesOfAllWays_61 (by decide) ?_
    refine x_topi (y := nI (8 - 8)) (by decide) ?_
    refine x_callSi C hE (k_X2_leastAlong l D cy a A X _ ht 8 (by decide) _ (by assumption) _) (va_cwS 5 C.2.2.2.2.1 gX2_leastBytesOfAllWays_X2_leastAlong rfl rfl rfl (by decide +kernel) ⟨Nat.le_of_ble_eq_true rfl, Nat.le_of_ble_eq_true rfl⟩)  rfl rfl (Nat.le_of_ble_eq_true rfl) dX2_leastBytesOfAllWays_62 ⟨Nat.le_of_ble_eq_true rfl, Nat.le_of_ble_eq_true rfl⟩ (fun r_62 u_62 h_62 => ?_)
    obtain ⟨rfl, e9_62⟩ := h_62
    rw [e9_62]
    refine x_iadd C dX2_leastBytesOfAllWays_65 ?_
    refine x_min C (by decide +kernel) (by decide +kernel) (by decide +kernel) (by decide +kernel) ⟨Nat.le_of_ble_eq_true rfl, Nat.le_of_ble_eq_true rfl, Nat.le_of_ble_eq_true rfl, Nat.le_of_ble_eq_true rfl⟩ dX2_leastBytesOfAllWays_66 rfl ?_
    refine x_istore_n (i := 3) C dX2_leastBytesOfAllWays_69 rfl (by decide) ?_
    refine x_iinc (v := nI (v + 1)) C dX2_leastBytesOfAllWays_70 rfl (inc1 v) ?_
    refine x_goto C 24 dX2_leastBytesOfAllWays_73 (by decide) ?_
    first | (have e9 : awL V t f (v + 1) = awL V t f v := if_pos c_39; rw [e9] at ihv; exact x_subm ihv rfl) | (have e9 : awL V t f (v + 1) = minI (awL V t f v) (V 5 v + la V t 8 v (1 <<< (nI v &&& 31))) := if_neg c_39; rw [e9] at ihv; exact x_subm ihv rfl)
  refine x_iconst (v := 0) C dX2_leastBytesOfAllWays_5 (by decide) ?_
  exact x_iret  C dX2_leastBytesOfAllWays_6 ⟨Nat.le_of_ble_eq_true rfl, Nat.le_of_ble_eq_true rfl⟩ ⟨(if_pos ((nI_eq (by omega) (by omega)).mp c_2)).symm, rfl⟩
end
