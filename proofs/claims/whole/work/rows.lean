section
-- ===== PART A: goes FIRST, ahead of the names: the tables' words, and 'selects' of the private methods out of them =====
/-- a private method of a class that the tables say can be made, by its rows of tables_1 -/
def lw_okq (q : MethodName × Nat) : Prop := (q.1.cls ≠ "java/lang/invoke/MethodHandle" ∧ q.1.cls ≠ "java/lang/invoke/VarHandle") ∧ Cond.instantiable q.1.cls q.2 ∈ tables_1 ∧ Cond.privateMethod q.1 ∈ tables_1 ∧ Cond.instanceMethod q.1 ∈ tables_1
theorem lw_p0 : lw_okq (⟨"Ringroll$Ways", "measure", "()V"⟩, 4) := ⟨⟨by decide +kernel, by decide +kernel⟩, List.mem_of_getElem? (i := 23) (by decide +kernel), List.mem_of_getElem? (i := 34) (by decide +kernel), List.mem_of_getElem? (i := 35) (by decide +kernel)⟩
theorem lw_p1 : lw_okq (⟨"Ringroll$Ways", "measureVia", "(I)V"⟩, 4) := ⟨⟨by decide +kernel, by decide +kernel⟩, List.mem_of_getElem? (i := 23) (by decide +kernel), List.mem_of_getElem? (i := 42) (by decide +kernel), List.mem_of_getElem? (i := 43) (by decide +kernel)⟩
theorem lw_p2 : lw_okq (⟨"java/lang/Throwable", "fillInStackTrace", "(I)Ljava/lang/Throwable;"⟩, 6) := ⟨⟨by decide +kernel, by decide +kernel⟩, List.mem_of_getElem? (i := 246) (by decide +kernel), List.mem_of_getElem? (i := 244) (by decide +kernel), List.mem_of_getElem? (i := 245) (by decide +kernel)⟩
theorem lw_p3 : lw_okq (⟨"Ringroll", "deviceAt", "(I)LRingroll$Device;"⟩, 7) := ⟨⟨by decide +kernel, by decide +kernel⟩, List.mem_of_getElem? (i := 15) (by decide +kernel), List.mem_of_getElem? (i := 387) (by decide +kernel), List.mem_of_getElem? (i := 388) (by decide +kernel)⟩
theorem lw_p4 : lw_okq (⟨"Ringroll", "campaignAt", "(I)LRingroll$Campaign;"⟩, 7) := ⟨⟨by decide +kernel, by decide +kernel⟩, List.mem_of_getElem? (i := 15) (by decide +kernel), List.mem_of_getElem? (i := 407) (by decide +kernel), List.mem_of_getElem? (i := 408) (by decide +kernel)⟩
theorem lw_p5 : lw_okq (⟨"Ringroll", "needCampaign", "(I)V"⟩, 7) := ⟨⟨by decide +kernel, by decide +kernel⟩, List.mem_of_getElem? (i := 15) (by decide +kernel), List.mem_of_getElem? (i := 411) (by decide +kernel), List.mem_of_getElem? (i := 412) (by decide +kernel)⟩
theorem lw_p6 : lw_okq (⟨"Ringroll", "mayTake", "(LRingroll$Device;LRingroll$Campaign;)Z"⟩, 7) := ⟨⟨by decide +kernel, by decide +kernel⟩, List.mem_of_getElem? (i := 15) (by decide +kernel), List.mem_of_getElem? (i := 514) (by decide +kernel), List.mem_of_getElem? (i := 515) (by decide +kernel)⟩
theorem lw_p7 : lw_okq (⟨"Ringroll$Campaign", "drawOf", "(LRingroll$Device;)I"⟩, 13) := ⟨⟨by decide +kernel, by decide +kernel⟩, List.mem_of_getElem? (i := 112) (by decide +kernel), List.mem_of_getElem? (i := 523) (by decide +kernel), List.mem_of_getElem? (i := 524) (by decide +kernel)⟩
theorem lw_p8 : lw_okq (⟨"Ringroll$Campaign", "share", "()I"⟩, 13) := ⟨⟨by decide +kernel, by decide +kernel⟩, List.mem_of_getElem? (i := 112) (by decide +kernel), List.mem_of_getElem? (i := 527) (by decide +kernel), List.mem_of_getElem? (i := 528) (by decide +kernel)⟩
theorem lw_p9 : lw_okq (⟨"Ringroll", "passOneHour", "()I"⟩, 7) := ⟨⟨by decide +kernel, by decide +kernel⟩, List.mem_of_getElem? (i := 15) (by decide +kernel), List.mem_of_getElem? (i := 538) (by decide +kernel), List.mem_of_getElem? (i := 539) (by decide +kernel)⟩
theorem lw_p10 : lw_okq (⟨"Ringroll", "takeLowestCampaign", "(LRingroll$Device;)V"⟩, 7) := ⟨⟨by decide +kernel, by decide +kernel⟩, List.mem_of_getElem? (i := 15) (by decide +kernel), List.mem_of_getElem? (i := 542) (by decide +kernel), List.mem_of_getElem? (i := 543) (by decide +kernel)⟩
theorem lw_p11 : lw_okq (⟨"Ringroll$Device", "isInWindow", "(I)Z"⟩, 9) := ⟨⟨by decide +kernel, by decide +kernel⟩, List.mem_of_getElem? (i := 67) (by decide +kernel), List.mem_of_getElem? (i := 554) (by decide +kernel), List.mem_of_getElem? (i := 555) (by decide +kernel)⟩
theorem lw_p12 : lw_okq (⟨"RingrollModel", "refused", "(I)Z"⟩, 27) := ⟨⟨by decide +kernel, by decide +kernel⟩, List.mem_of_getElem? (i := 565) (by decide +kernel), List.mem_of_getElem? (i := 668) (by decide +kernel), List.mem_of_getElem? (i := 669) (by decide +kernel)⟩
theorem lw_p13 : lw_okq (⟨"RingrollModel", "sizeOf", "(II)I"⟩, 27) := ⟨⟨by decide +kernel, by decide +kernel⟩, List.mem_of_getElem? (i := 565) (by decide +kernel), List.mem_of_getElem? (i := 688) (by decide +kernel), List.mem_of_getElem? (i := 689) (by decide +kernel)⟩
theorem lw_p14 : lw_okq (⟨"RingrollModel", "isDevice", "(I)Z"⟩, 27) := ⟨⟨by decide +kernel, by decide +kernel⟩, List.mem_of_getElem? (i := 565) (by decide +kernel), List.mem_of_getElem? (i := 706) (by decide +kernel), List.mem_of_getElem? (i := 707) (by decide +kernel)⟩
theorem lw_p15 : lw_okq (⟨"RingrollModel", "judge", "(I)V"⟩, 27) := ⟨⟨by decide +kernel, by decide +kernel⟩, List.mem_of_getElem? (i := 565) (by decide +kernel), List.mem_of_getElem? (i := 718) (by decide +kernel), List.mem_of_getElem? (i := 719) (by decide +kernel)⟩
def lw_privs_1 : List (MethodName × Nat) := [(⟨"Ringroll$Ways", "measure", "()V"⟩, 4), (⟨"Ringroll$Ways", "measureVia", "(I)V"⟩, 4), (⟨"java/lang/Throwable", "fillInStackTrace", "(I)Ljava/lang/Throwable;"⟩, 6), (⟨"Ringroll", "deviceAt", "(I)LRingroll$Device;"⟩, 7), (⟨"Ringroll", "campaignAt", "(I)LRingroll$Campaign;"⟩, 7), (⟨"Ringroll", "needCampaign", "(I)V"⟩, 7), (⟨"Ringroll", "mayTake", "(LRingroll$Device;LRingroll$Campaign;)Z"⟩, 7), (⟨"Ringroll$Campaign", "drawOf", "(LRingroll$Device;)I"⟩, 13), (⟨"Ringroll$Campaign", "share", "()I"⟩, 13), (⟨"Ringroll", "passOneHour", "()I"⟩, 7), (⟨"Ringroll", "takeLowestCampaign", "(LRingroll$Device;)V"⟩, 7), (⟨"Ringroll$Device", "isInWindow", "(I)Z"⟩, 9), (⟨"RingrollModel", "refused", "(I)Z"⟩, 27), (⟨"RingrollModel", "sizeOf", "(II)I"⟩, 27), (⟨"RingrollModel", "isDevice", "(I)Z"⟩, 27), (⟨"RingrollModel", "judge", "(I)V"⟩, 27)]
theorem lw_r1 : ∀ q ∈ lw_privs_1, lw_okq q := List.forall_mem_cons.mpr ⟨lw_p0, List.forall_mem_cons.mpr ⟨lw_p1, List.forall_mem_cons.mpr ⟨lw_p2, List.forall_mem_cons.mpr ⟨lw_p3, List.forall_mem_cons.mpr ⟨lw_p4, List.forall_mem_cons.mpr ⟨lw_p5, List.forall_mem_cons.mpr ⟨lw_p6, List.forall_mem_cons.mpr ⟨lw_p7, List.forall_mem_cons.mpr ⟨lw_p8, List.forall_mem_cons.mpr ⟨lw_p9, List.forall_mem_cons.mpr ⟨lw_p10, List.forall_mem_cons.mpr ⟨lw_p11, List.forall_mem_cons.mpr ⟨lw_p12, List.forall_mem_cons.mpr ⟨lw_p13, List.forall_mem_cons.mpr ⟨lw_p14, List.forall_mem_cons.mpr ⟨lw_p15, fun _ h => absurd h List.not_mem_nil⟩⟩⟩⟩⟩⟩⟩⟩⟩⟩⟩⟩⟩⟩⟩⟩
theorem lw_p16 : lw_okq (⟨"RingrollModel", "fine", "(I)I"⟩, 27) := ⟨⟨by decide +kernel, by decide +kernel⟩, List.mem_of_getElem? (i := 565) (by decide +kernel), List.mem_of_getElem? (i := 726) (by decide +kernel), List.mem_of_getElem? (i := 727) (by decide +kernel)⟩
theorem lw_p17 : lw_okq (⟨"RingrollModel", "noDevice", "(I)Z"⟩, 27) := ⟨⟨by decide +kernel, by decide +kernel⟩, List.mem_of_getElem? (i := 565) (by decide +kernel), List.mem_of_getElem? (i := 734) (by decide +kernel), List.mem_of_getElem? (i := 735) (by decide +kernel)⟩
theorem lw_p18 : lw_okq (⟨"RingrollModel", "isCampaign", "(I)Z"⟩, 27) := ⟨⟨by decide +kernel, by decide +kernel⟩, List.mem_of_getElem? (i := 565) (by decide +kernel), List.mem_of_getElem? (i := 758) (by decide +kernel), List.mem_of_getElem? (i := 759) (by decide +kernel)⟩
theorem lw_p19 : lw_okq (⟨"RingrollModel", "noCampaign", "(I)Z"⟩, 27) := ⟨⟨by decide +kernel, by decide +kernel⟩, List.mem_of_getElem? (i := 565) (by decide +kernel), List.mem_of_getElem? (i := 770) (by decide +kernel), List.mem_of_getElem? (i := 771) (by decide +kernel)⟩
theorem lw_p20 : lw_okq (⟨"RingrollModel", "mayTake", "(II)Z"⟩, 27) := ⟨⟨by decide +kernel, by decide +kernel⟩, List.mem_of_getElem? (i := 565) (by decide +kernel), List.mem_of_getElem? (i := 790) (by decide +kernel), List.mem_of_getElem? (i := 791) (by decide +kernel)⟩
theorem lw_p21 : lw_okq (⟨"RingrollModel", "take", "(I)V"⟩, 27) := ⟨⟨by decide +kernel, by decide +kernel⟩, List.mem_of_getElem? (i := 565) (by decide +kernel), List.mem_of_getElem? (i := 798) (by decide +kernel), List.mem_of_getElem? (i := 799) (by decide +kernel)⟩
theorem lw_p22 : lw_okq (⟨"RingrollModel", "isOpen", "(I)Z"⟩, 27) := ⟨⟨by decide +kernel, by decide +kernel⟩, List.mem_of_getElem? (i := 565) (by decide +kernel), List.mem_of_getElem? (i := 802) (by decide +kernel), List.mem_of_getElem? (i := 803) (by decide +kernel)⟩
def lw_privs_2 : List (MethodName × Nat) := [(⟨"RingrollModel", "fine", "(I)I"⟩, 27), (⟨"RingrollModel", "noDevice", "(I)Z"⟩, 27), (⟨"RingrollModel", "isCampaign", "(I)Z"⟩, 27), (⟨"RingrollModel", "noCampaign", "(I)Z"⟩, 27), (⟨"RingrollModel", "mayTake", "(II)Z"⟩, 27), (⟨"RingrollModel", "take", "(I)V"⟩, 27), (⟨"RingrollModel", "isOpen", "(I)Z"⟩, 27)]
theorem lw_r2 : ∀ q ∈ lw_privs_2, lw_okq q := List.forall_mem_cons.mpr ⟨lw_p16, List.forall_mem_cons.mpr ⟨lw_p17, List.forall_mem_cons.mpr ⟨lw_p18, List.forall_mem_cons.mpr ⟨lw_p19, List.forall_mem_cons.mpr ⟨lw_p20, List.forall_mem_cons.mpr ⟨lw_p21, List.forall_mem_cons.mpr ⟨lw_p22, fun _ h => absurd h List.not_mem_nil⟩⟩⟩⟩⟩⟩⟩
def lw_privs : List (MethodName × Nat) := lw_privs_1 ++ (lw_privs_2)
def lw_tbl : List Cond := k2_sels lw_privs ++ tables_1
theorem lw_privs_ok : ∀ q ∈ lw_privs, lw_okq q := by
  show ∀ q ∈ lw_privs_1 ++ (lw_privs_2), lw_okq q
  exact List.forall_mem_append.mpr ⟨lw_r1, lw_r2⟩
-- ===== end of PART A; then your names; then what follows =====
end
section
/-! ===== BEGIN words of one list among another's, by their places ===== -/
theorem goodIn_r {big : List Cond} (ws : List Cond) (ps : List Nat) (hp : ws = ps.filterMap (fun i => big[i]?)) (h : ws.all goodWord = true) : GoodIn big ws := by
  intro w hw
  have h1 := List.all_eq_true.mp h w hw
  rw [hp] at hw
  obtain ⟨i, -, hi⟩ := List.mem_filterMap.mp hw
  have hm : w ∈ big := by first | exact List.mem_of_getElem? hi | exact List.getElem?_mem hi
  exact ⟨hm, good_of_word h1⟩
theorem goodIn_app {big a b : List Cond} (ha : GoodIn big a) (hb : GoodIn big b) : GoodIn big (a ++ b) := fun w h => (List.mem_append.mp h).elim (ha w) (hb w)
theorem goodIn_ca {big a b : List Cond} {c : Cond} (ha : GoodIn big (c :: a)) (hb : GoodIn big b) : GoodIn big (c :: (a ++ b)) := fun w h => (List.mem_cons.mp h).elim (fun e => ha w (List.mem_cons.mpr (Or.inl e))) (fun h => (List.mem_append.mp h).elim (fun h => ha w (List.mem_cons.mpr (Or.inr h))) (hb w))
theorem goodIn_sub {big ws : List Cond} (hm : ∀ w ∈ ws, w ∈ big) (h : ws.all goodWord = true) : GoodIn big ws := fun w hw => ⟨hm w hw, good_of_word (List.all_eq_true.mp h w hw)⟩
/-! ===== END ===== -/

/-! ===== BEGIN new T[n][m]: the outer array a place, the inner ones among the pooled ===== -/
/-- f, but v at every address of l -/
def vr_up {α : Type} (f : Nat → α) (l : List Nat) (v : α) : Nat → α := fun a => if a ∈ l then v else f a
theorem vr_up_in {α : Type} {f : Nat → α} {l : List Nat} {v : α} {a : Nat} (h : a ∈ l) : vr_up f l v a = v := if_pos h
theorem vr_up_ne {α : Type} {f : Nat → α} {l : List Nat} {v : α} {a : Nat} (h : a ∉ l) : vr_up f l v a = f a := if_neg h
theorem vr_rows {L l : List Nat} {f : Nat → va_E} {e : va_E} (h : ∀ a, a ∈ l → a ∉ L) : va_pl L f ++ l.map (fun a => (a, e)) = va_pl (L ++ l) (vr_up f l e) := by
  unfold va_pl
  rw [List.map_append]
  congr 1
  · apply List.map_congr_left
    intro a ha
    rw [vr_up_ne (fun q => h a q ha)]
  · apply List.map_congr_left
    intro a ha
    rw [vr_up_in ha]
theorem vr_lay {X rows : va_W} {x : Nat × va_E} {pl : va_W} {D : va_G} {cl : List vw_C} {H : Heap} (hP : va_P D cl (((X ++ pl) ++ [x]) ++ rows) H) : va_P D cl ((X ++ [x]) ++ (pl ++ rows)) H := by
  rw [List.append_assoc (X ++ pl)] at hP
  have h := va_P.swap hP
  rw [← List.append_assoc X] at h
  have h2 := va_P.swap h
  rw [List.append_assoc (X ++ [x])] at h2
  exact h2
theorem vr_layD {X rows : va_W} {x : Nat × va_E} {pl : va_W} {A : Nat → Prop} (hD : va_D A (((X ++ pl) ++ [x]) ++ rows)) : va_D A ((X ++ [x]) ++ (pl ++ rows)) := by
  rw [List.append_assoc (X ++ pl)] at hD
  have h := va_D.swap hD
  rw [← List.append_assoc X] at h
  have h2 := va_D.swap h
  rw [List.append_assoc (X ++ [x])] at h2
  exact h2
theorem vr_outer (c : ClassId) (N h0 : Nat) : ∀ i : Nat, Jvm.Free.Multi.outerC c N h0 i = arrV c N (fun j => va_rf (if j < i then some (h0 + 1 + j) else none))
  | 0 => by
    show ({ cls := c, slots := Array.replicate N .null, vm := .none } : Cell) = _
    rw [arrV_new]
    refine congrArg (arrV c N) (funext fun j => ?_)
    simp [va_rf]
  | i + 1 => by
    show (Jvm.Free.Multi.outerC c N h0 i).setSlot i (.ref (h0 + 1 + i)) = _
    rw [vr_outer c N h0 i, arrV_store]
    refine congrArg (arrV c N) (funext fun j => ?_)
    by_cases e : j = i
    · subst e
      simp [updV, va_rf]
    · by_cases h : j < i
      · simp [updV, e, h, Nat.lt_succ_of_lt h]
      · simp [updV, e, h, show ¬ j < i + 1 by omega]
/-- arrays of arrays may be made (a word of the tables); the printed laws name it -/
def va_AOA (ty : FieldType) (U : State) : Prop := (Cond.arrayOver (.array ty)).before #[] U = true
theorem va_AOA.use {ty : FieldType} {A : Array Value} {U : State} (h : va_AOA ty U) : (Cond.arrayOver (.array ty)).before A U = true := h
section VGM
variable {p : Program} {l : Launch} {e : Env} {R : Room} {s : State} {m : MethodId} {args : Array Value} {below : List Frame} {meth : Method} {c : Code} {H : Heap} {locs : List Loc} {cells slots : Nat} {Q : State → Prop}
variable {cc : ByteArray} {pc : Nat} {ls : Array Slot} {rest : List Value} {D : va_G} {cl : List vw_C} {A : Nat → Prop} {a : Nat} {tys : List (ClassId × FieldType)} {ws : va_W} {H0 : Heap}
theorem va_mna {X : va_W} {L : List Nat} {f : Nat → va_E} {cc : ByteArray} (hexec : p.tables.exec = Jvm.exec) (hb : c.code = cc) {own : String} {index : Nat} {ty : FieldType} {cy : ClassId} (hown : s.vm.findClass own = some m.cls) (hclink : (Cond.classLink own index ("[" ++ (FieldType.array ty).toString)).before args s = true) (hover : va_AOA ty s) (harr : (Cond.arrayClass ty).before args s = true) (hcy : s.vm.findClass (FieldType.array ty).toString = some cy)
    (hK : va_K D cl tys s) (hP : va_P D cl (X ++ va_pl L f) H) (hD : va_D A (X ++ va_pl L f)) (hS : va_S A H0 H locs) (hA : ∀ q, H0.size ≤ q → A q) {n k : Int32} {N' K' : Nat} {z : vp_A} (hn : ¬ n < 0) (hk : ¬ k < 0) (hN : n.toNatClampNeg = N') (hM : k.toNatClampNeg = K')
    (hb1 : N' * 4 ≤ 536870912) (hb2 : K' * componentBytes ty ≤ 536870912) (hb3 : K' ≤ 536870912) (hdf : fits ty (defaultValue ty) = true) (hdd : (defaultValue ty).isDefault = true) (hcells : cells + (1 + N') ≤ R.cells) (hslots : slots + (N' + N' * K') ≤ R.slots) (hz : ∀ c : ClassId, Jvm.Free.Multi.innerC c K' (defaultValue ty) = vp_cell c z) (hdg : decode cc pc = .ok (.multianewarray index 2, 4))
    (kk : ∀ (q : Nat) (r : Nat → Nat) (cA : ClassId) (H1 : Heap), (∀ i j : Nat, i < N' → j < N' → r i = r j → i = j) → (∀ i : Nat, i < N' → r i ∉ L) → va_K D cl (tys ++ [(cA, .array ty)]) s →
      va_P D cl ((X ++ [(q, .inl (cA, N', .inr (.inr (.inr (.inr (fun i => if i < N' then some (r i) else none))))))]) ++ va_pl (L ++ (List.range N').map r) (vr_up f ((List.range N').map r) (.inl (cy, z)))) H1 → va_D A ((X ++ [(q, .inl (cA, N', .inr (.inr (.inr (.inr (fun i => if i < N' then some (r i) else none))))))]) ++ va_pl (L ++ (List.range N').map r) (vr_up f ((List.range N').map r) (.inl (cy, z)))) → va_S A H0 H1 locs →
      W p l e R s m args below meth c H1 locs (cells + 1 + N') (slots + N' + N' * K') Q (F0 m (pc + 4) ls (.ref q :: rest))) : W p l e R s m args below meth c H locs cells slots Q (F0 m pc ls (.int k :: .int n :: rest)) := by
  subst hN
  subst hM
  intro T hT Xs
  obtain ⟨vm₁, cA, comp, -, fA, fC, hO, -, X', step⟩ := Xs.multianewarray2F hexec hown hclink (va_AOA.use hover) harr (g := F0 m pc ls (.int k :: .int n :: rest)) rfl (by rw [hb]; exact hdg) rfl hn hk hb1 hb2 hb3 hdf hdd hcells hslots
  have ec : some cy = some comp := hcy.symm.trans fC
  cases ec
  generalize hF : Jvm.Free.Multi.fill (T.setVm vm₁) cA cy n.toNatClampNeg k.toNatClampNeg (defaultValue ty) n.toNatClampNeg = F at X' step
  have hTh : (T.setVm vm₁).heap = H := hT
  obtain ⟨f1, f2, -, -⟩ := Jvm.Free.Multi.fill_facts (T.setVm vm₁) cA cy n.toNatClampNeg k.toNatClampNeg (defaultValue ty) n.toNatClampNeg
  rw [hF, hTh] at f1 f2
  have hold : ∀ x : Nat, x < H.size → F.heap[x]? = H[x]? := fun x hx => by
    have := Jvm.Free.Multi.fill_old (T.setVm vm₁) cA cy n.toNatClampNeg k.toNatClampNeg (defaultValue ty) (a := x) (by rw [hTh]; exact hx) n.toNatClampNeg
    rw [hF, hTh] at this
    exact this
  have hrow : ∀ j : Nat, j < n.toNatClampNeg → F.heap[H.size + 1 + j]? = some (vp_cell cy z) := fun j hj => by
    have := Jvm.Free.Multi.fill_inner (T.setVm vm₁) cA cy n.toNatClampNeg k.toNatClampNeg (defaultValue ty) n.toNatClampNeg j hj
    rw [hF, hTh, hz] at this
    exact this
  have hout : Jvm.Free.Multi.outerC cA n.toNatClampNeg H.size n.toNatClampNeg = vp_cell cA (n.toNatClampNeg, .inr (.inr (.inr (.inr (fun i => if i < n.toNatClampNeg then some (H.size + 1 + i) else none))))) := by
    rw [vp_cell_q]
    exact vr_outer cA n.toNatClampNeg H.size n.toNatClampNeg
  rw [hout] at f2
  have hlt : ∀ a, a ∈ L → a < H.size := fun a ha => by
    obtain ⟨k9, hk9⟩ := va_pl_get (X := X) (f := f) ha
    exact (hP k9 _ hk9).lt
  have hnl : ∀ i : Nat, i < n.toNatClampNeg → H.size + 1 + i ∉ L := fun i _ h => by
    have := hlt _ h
    omega
  have hnm : ∀ a, a ∈ (List.range n.toNatClampNeg).map (fun i => H.size + 1 + i) → a ∉ L := fun a ha h => by
    obtain ⟨i, -, rfl⟩ := List.mem_map.mp ha
    have := hlt _ h
    omega
  have hP0 : va_P D cl (X ++ va_pl L f) F.heap := hP.kept (fun k9 x hx => hold x.1 ((hP k9 x hx).lt))
  have hP1 : va_P D cl ((X ++ va_pl L f) ++ [(H.size, .inl (cA, n.toNatClampNeg, .inr (.inr (.inr (.inr (fun i => if i < n.toNatClampNeg then some (H.size + 1 + i) else none))))))]) F.heap := hP0.app (fun k9 x hx => by
    have h0 : k9 < 1 := (List.getElem?_eq_some_iff.mp hx).1
    rw [show k9 = 0 by omega] at hx
    cases hx
    exact f2)
  have hP2 : va_P D cl (((X ++ va_pl L f) ++ [(H.size, .inl (cA, n.toNatClampNeg, .inr (.inr (.inr (.inr (fun i => if i < n.toNatClampNeg then some (H.size + 1 + i) else none))))))]) ++ ((List.range n.toNatClampNeg).map (fun i => H.size + 1 + i)).map (fun a => (a, .inl (cy, z)))) F.heap := hP1.app (fun k9 x hx => by
    obtain ⟨a, ha, rfl⟩ := List.mem_map.mp (List.mem_of_getElem? hx)
    obtain ⟨i, hi, rfl⟩ := List.mem_map.mp ha
    exact hrow i (List.mem_range.mp hi))
  have hD2 : va_D A (((X ++ va_pl L f) ++ [(H.size, .inl (cA, n.toNatClampNeg, .inr (.inr (.inr (.inr (fun i => if i < n.toNatClampNeg then some (H.size + 1 + i) else none))))))]) ++ ((List.range n.toNatClampNeg).map (fun i => H.size + 1 + i)).map (fun a => (a, .inl (cy, z)))) := by
    have hD1 := hD.push (e := .inl (cA, n.toNatClampNeg, .inr (.inr (.inr (.inr (fun i => if i < n.toNatClampNeg then some (H.size + 1 + i) else none)))))) hP rfl (hA _ hS.1)
    generalize hW1 : (X ++ va_pl L f) ++ [(H.size, .inl (cA, n.toNatClampNeg, .inr (.inr (.inr (.inr (fun i => if i < n.toNatClampNeg then some (H.size + 1 + i) else none))))))] = W1 at hD1 hP1 ⊢
    have hle : ∀ (k9 : Nat) (x : Nat × va_E), W1[k9]? = some x → x.1 ≤ H.size := fun k9 x hx => by
      rw [← hW1] at hx
      by_cases hl : k9 < (X ++ va_pl L f).length
      · rw [List.getElem?_append_left hl] at hx
        exact Nat.le_of_lt ((hP k9 x hx).lt)
      · rw [List.getElem?_append_right (by omega)] at hx
        have h0 : k9 - (X ++ va_pl L f).length < 1 := (List.getElem?_eq_some_iff.mp hx).1
        rw [show k9 - (X ++ va_pl L f).length = 0 by omega] at hx
        cases hx
        exact Nat.le_refl _
    have hr : ∀ (k9 : Nat) (x : Nat × va_E), (((List.range n.toNatClampNeg).map (fun i => H.size + 1 + i)).map (fun a => ((a, .inl (cy, z)) : Nat × va_E)))[k9]? = some x → x.1 = H.size + 1 + k9 := fun k9 x hx => by
      rw [List.getElem?_map, List.getElem?_map] at hx
      by_cases h9 : k9 < n.toNatClampNeg
      · rw [List.getElem?_range h9] at hx
        cases hx
        rfl
      · have hn0 : (List.range n.toNatClampNeg)[k9]? = none := List.getElem?_eq_none (by rw [List.length_range]; omega)
        rw [hn0] at hx
        cases hx
    refine ⟨fun i j x y hi hj hxy => ?_, fun k9 x hx => ?_⟩
    · by_cases h1 : i < W1.length <;> by_cases h2 : j < W1.length
      · rw [List.getElem?_append_left h1] at hi
        rw [List.getElem?_append_left h2] at hj
        exact hD1.1 i j x y hi hj hxy
      · rw [List.getElem?_append_left h1] at hi
        rw [List.getElem?_append_right (by omega)] at hj
        have := hle _ _ hi
        have := hr _ _ hj
        omega
      · rw [List.getElem?_append_right (by omega)] at hi
        rw [List.getElem?_append_left h2] at hj
        have := hle _ _ hj
        have := hr _ _ hi
        omega
      · rw [List.getElem?_append_right (by omega)] at hi hj
        have := hr _ _ hi
        have := hr _ _ hj
        omega
    · by_cases h1 : k9 < W1.length
      · rw [List.getElem?_append_left h1] at hx
        exact hD1.2 k9 x hx
      · rw [List.getElem?_append_right (by omega)] at hx
        have := hr _ _ hx
        exact hA _ (by have := hS.1; omega)
  have hAr : ArrOfT s cA (.array ty) := fun N9 z9 => by
    obtain ⟨-, k9, hk9, cm9, hkk9⟩ := (hO 0 0 0).1
    exact ⟨(fun q hq => by cases hq), k9, hk9, cm9, hkk9⟩
  have hK2 : va_K D cl (tys ++ [(cA, .array ty)]) s := ⟨hK.1, fun k9 x hx => by
    by_cases hl : k9 < tys.length
    · rw [List.getElem?_append_left hl] at hx
      exact hK.2 k9 x hx
    · rw [List.getElem?_append_right (by omega)] at hx
      have h0 : k9 - tys.length < 1 := (List.getElem?_eq_some_iff.mp hx).1
      rw [show k9 - tys.length = 0 by omega] at hx
      cases hx
      exact ⟨hAr, fA⟩⟩
  obtain ⟨t, a1, b1⟩ := kk H.size (fun i => H.size + 1 + i) cA F.heap (fun i j _ _ h => by have h9 : H.size + 1 + i = H.size + 1 + j := h; omega) hnl hK2 (by rw [← vr_rows hnm]; exact vr_lay hP2) (by rw [← vr_rows hnm]; exact vr_layD hD2) ⟨by rw [f1]; have := hS.1; omega, fun x h1 h2 => (hold x (Nat.lt_of_lt_of_le h1 hS.1)).trans (hS.2.1 x h1 h2), hS.2.2⟩ F rfl X'
  refine ⟨t, step t ?_, b1⟩
  have e : T.heap.size = H.size := by rw [hT]
  rw [e]
  exact a1
end VGM
/-! ===== END ===== -/

/-! ===== BEGIN exceptions that leave a method, and their catching by the caller (launches without stack traces) ===== -/
section VXA
/-! The laws vx_back, vx_callV, vx_callS, vx_callSW, vx_throw0, vx_throwS follow proofs of the library, with one case more: JvmDerived/Free/Laws.lean (Back.of_free), Shelf42/LK1.lean (callV, callS), Shelf/KitTraced.lean (throwNew0V, throwNewS). -/
/-- where a method has thrown q: the class by its name, the cell, what was written, the world -/
def vx_T (XC : String → State → State → Prop) (st : State) (q : Addr) (t : State) (mc ms : Nat) (free : Addr → Prop) : Prop :=
  ∃ (E : String) (ce : Cell) (L : List Loc), XC E st t ∧ t.heap[q]? = some ce ∧ ce.vm = .none ∧ st.vm.findClass E = some ce.cls ∧ st.WarmedH t.vm ∧ st.sameButNew ({ t with vm := st.vm } : State) L mc ms ∧ ∀ z ∈ L, free z.base
def vx_Q (Qc : Array Value → State → Outcome → State → Prop) (XC : String → State → State → Prop) (mc ms : Nat) (free : Addr → Prop) : Array Value → State → Outcome → State → Prop := fun a st o t =>
  (Qc a st o t ∧ ∃ L, FrameEnd st o t L mc ms ∧ ∀ q ∈ L, free q.base) ∨ ∃ q, o = .threw q ∧ vx_T XC st q t mc ms free
/-- a callee that returns or throws -/
def vx_Met (l : Launch) (y : MethodName) (ws : List Cond) (rm : Room) (Pc : Array Value → State → Prop) (Qc : Array Value → State → Outcome → State → Prop) (XC : String → State → State → Prop) (mc ms : Nat) (free : Addr → Prop) : Prop :=
  MetFree l y (headSpec ws rm) Pc (fun _ _ _ _ _ => True) (vx_Q Qc XC mc ms free)
def vx_Post (XC : String → State → State → Prop) (mc ms : Nat) (free : Addr → Prop) : Pt → Array Value → Addr → Pt → Prop := fun A a q B =>
  ∃ (g : JFrame) (mk : MethodId) (t : State) (L : List Loc) (E : String) (ce : Cell), B.U.heap = t.heap ∧ B.U.vm = t.vm ∧ XC E (A.U.calling g mk a) t ∧ t.heap[q]? = some ce ∧ ce.vm = .none ∧ A.U.vm.findClass E = some ce.cls ∧ B.locs = A.locs ++ L ∧ (∀ z ∈ L, free z.base) ∧ B.cells = A.cells + mc ∧ B.slots = A.slots + ms
def vx_Back (l : Launch) (R : Room) (p : Program) (e : Env) (below : List Frame) (s : State) (sargs : Array Value) (y : MethodName) (len W9 : Nat)
    (Pre : Pt → Array Value → Prop) (Post : Pt → Array Value → Option Value → Pt → Prop) (PostX : Pt → Array Value → Addr → Pt → Prop) : Prop :=
  ∀ (m : MethodId) (meth : Method) (c : Code) (A : Pt) (g : JFrame) (ig : Instr) (mk : MethodId) (a : Array Value),
    Stand p l e R s m sargs below meth c A.U A.locs A.cells A.slots → g.method = m → g.locals.size = c.maxLocals → decode c.code g.pc = .ok (ig, len) →
    2 * g.monitorRoom + (g.stack.map fun v => v.category).sum ≤ W9 → A.U.methodNamed? y = some mk → Pre A a →
    (∃ (v : Option Value) (B : Pt), Stand p l e R s m sargs below meth c B.U B.locs B.cells B.slots ∧ Post A a v B ∧
      Steps p.tables e below (doInvoke e (A.U.setTop g) [] mk a).1 (B.U.setTop { g with pc := g.pc + len, stack := v.toList ++ g.stack })) ∨
    (∃ (q : Addr) (B : Pt), Stand p l e R s m sargs below meth c B.U B.locs B.cells B.slots ∧ PostX A a q B ∧
      Steps p.tables e below (doInvoke e (A.U.setTop g) [] mk a).1 ((B.U.setTop g).pushFrame (.throwing q)))
section Payer
variable {l : Launch} {R : Room} {p : Program} {e : Env} {below : List Frame} {s : State} {sargs : Array Value} {y : MethodName} {len W9 : Nat}
theorem vx_back {ws : List Cond} {rm : Room} {Pc : Array Value → State → Prop} {Qc : Array Value → State → Outcome → State → Prop} {XC : String → State → State → Prop} {mc ms : Nat} {free : Addr → Prop} {bytes : ByteArray} {maxL : Nat} {ret : Option FieldType}
    (hM : vx_Met l y ws rm Pc Qc XC mc ms free) (hblind : FrameBlind Pc) (hrc : rm.cells = mc) (hrs : rm.slots = ms)
    (hframes : rm.frames + 1 ≤ R.frames) (hlocals : W9 + (maxL + 11) + rm.locals ≤ R.locals)
    (hws : ∀ w ∈ ws, ∀ a' U, s.WarmedH U.vm → w.before a' U = true) (hcode : Cond.code y bytes maxL ret ∈ ws) (hinit : ∀ a' U, s.WarmedH U.vm → (Cond.initialized y.cls).before a' U = true) :
    vx_Back l R p e below s sargs y len W9 (PreOf R mc ms Pc) (PostOf Qc mc ms free) (vx_Post XC mc ms free) := by
  intro m meth c A g ig mk a X hg hsize hdg hW hn hp
  have h1 : (headSpec ws rm).pre.before a A.U = true := atoms_intro fun w hw => hws w hw _ _ X.warmed
  have h2 : (Cond.code y bytes maxL ret).before a A.U = true := hws _ hcode _ _ X.warmed
  have h3 : (Cond.initialized y.cls).before a A.U = true := hinit _ _ X.warmed
  have h4 : A.cells + (headSpec ws rm).room.cells ≤ R.cells := by rw [show (headSpec ws rm).room.cells = mc from hrc]; exact hp.1
  have h5 : A.slots + (headSpec ws rm).room.slots ≤ R.slots := by rw [show (headSpec ws rm).room.slots = ms from hrs]; exact hp.2.1
  have hPc : Pc a (A.U.calling g mk a) := hblind _ _ _ _ hp.2.2
  obtain ⟨U, Ls, c0, s0⟩ := A
  dsimp only [Pt.U, Pt.locs, Pt.cells, Pt.slots] at h1 h2 h3 h4 h5 X hn hPc ⊢
  obtain ⟨methY, cY, hmY, hcY, -, hlY, -, -, -, -⟩ := Cond.code_spec hn h2
  obtain ⟨kY, hkY, -⟩ := className_of_methodNamed hn
  have hinitY : kY.init = .initialized := Cond.initialized_spec (findClass_of_methodNamed hn) hkY h3
  have h : At U g.method c below := by rw [hg]; exact X.here
  have hlocals9 : W9 + (maxL + 11) + (headSpec ws rm).room.locals ≤ R.locals := hlocals
  have happ : (headSpec ws rm).appliesLoose y e.platform (U.calling g mk a) = true :=
    Spec.appliesLoose_calling (g := g) h hdg hn hkY hinitY
      (X.room_calling (g := g) (R' := (headSpec ws rm).room) hsize hmY hcY hframes (by rw [hlY]; omega) h4 h5) h1
  obtain ⟨mid, hmid⟩ := h.above
  have hfr : (U.setTop g).frames = (.java g :: mid) ++ below := by rw [State.frames_setTop' g h.top, hmid]; rfl
  obtain ⟨o, s₂, hsteps, -, hend, hq⟩ := Steps.callFree hM p X.admits X.cas X.clock (acts := []) hfr happ hPc trivial
  have hq' : vx_Q Qc XC mc ms free a (U.calling g mk a) o s₂ := hq
  rw [State.frames_setTop' g h.top] at hend
  obtain ⟨g₀, hg0⟩ := Option.isSome_iff_exists.mp h.top
  obtain ⟨r, hr⟩ := State.topJava?_eq_some.mp hg0
  have hr' : (({ U with heap := s₂.heap, slotsUsed := s₂.slotsUsed } : State).setVm s₂.vm).frames = .java g₀ :: r := hr
  rcases hq' with ⟨hqc, L, hfe, hL⟩ | ⟨q, rfl, E, ce, L, hx, hce, hcv, hcl, hW₂, hsm, hL⟩
  · obtain ⟨⟨v, rfl⟩, hW₂, e2, q2, q3, q4, q5, q6⟩ := id hfe
    have e3 : s₂ = ({ (U.calling g mk a).setFrames s₂.frames with heap := s₂.heap, slotsUsed := s₂.slotsUsed } : State).setVm s₂.vm := by
      have : s₂ = ({ s₂ with vm := (U.calling g mk a).vm } : State).setVm s₂.vm := rfl
      rw [e2] at this
      exact this
    obtain ⟨c₂, i₂, len₂, hc₂, hd₂, hf₂⟩ := hend
    have hW' : U.WarmedH s₂.vm := hW₂
    have hcc : c₂ = c := by
      have h1 : s₂.code? g.method = U.code? g.method := by
        rw [State.code?_eq, State.code?_eq, hW'.alike.method?]
      exact Option.some.inj (hc₂.symm.trans (h1.trans h.code))
    subst hcc
    have hlen : len₂ = len := by rw [hdg] at hd₂; cases hd₂; rfl
    subst hlen
    have hs₂ : s₂ = (({ U with heap := s₂.heap, slotsUsed := s₂.slotsUsed } : State).setVm s₂.vm).setTop { g with pc := g.pc + len₂, stack := v.toList ++ g.stack } := by
      refine e3.trans ?_
      rw [hf₂, State.calling_eq h.top, State.setFrames_setFrames, State.setTop_of_frames _ hr', hr]
      rfl
    have hsame : U.sameButNew ({ U with heap := s₂.heap, slotsUsed := s₂.slotsUsed } : State) L mc ms := by
      refine ⟨?_, q2, q3, q4, q5, q6⟩
      obtain ⟨t, ht, -⟩ := State.frames_cons hr
      show ({ U with heap := s₂.heap, slotsUsed := s₂.slotsUsed } : State) = { U.setFrames U.frames with heap := s₂.heap, slotsUsed := s₂.slotsUsed }
      rw [State.setFrames_self ht]
    subst hg
    refine Or.inl ⟨v, ⟨(({ U with heap := s₂.heap, slotsUsed := s₂.slotsUsed } : State).setVm s₂.vm), Ls ++ L, c0 + mc, s0 + ms⟩,
      ⟨X.admits, X.cas, X.clock, X.frames, X.room, X.hears, X.method, X.code, (X.here.setHeapUsed s₂.heap s₂.slotsUsed).setVm hW'.alike, X.tail, State.WarmedH.trans X.warmed hW', X.limits, X.bytes, X.same.trans (hsame.setVm s.vm)⟩,
      ⟨g, mk, s₂, L, rfl, rfl, hqc, rfl, hL, rfl, rfl⟩, ?_⟩
    show Steps p.tables e below _ ((({ U with heap := s₂.heap, slotsUsed := s₂.slotsUsed } : State).setVm s₂.vm).setTop { g with pc := g.pc + len₂, stack := v.toList ++ g.stack })
    rw [← hs₂]
    exact hsteps
  · obtain ⟨e2, q2, q3, q4, q5, q6⟩ := id hsm
    have e3 : s₂ = ({ (U.calling g mk a).setFrames s₂.frames with heap := s₂.heap, slotsUsed := s₂.slotsUsed } : State).setVm s₂.vm := by
      have : s₂ = ({ s₂ with vm := (U.calling g mk a).vm } : State).setVm s₂.vm := rfl
      rw [e2] at this
      exact this
    have hf₂ : s₂.frames = .throwing q :: .java g :: U.frames.tail := hend
    have hW' : U.WarmedH s₂.vm := hW₂
    have hs₂ : s₂ = ((({ U with heap := s₂.heap, slotsUsed := s₂.slotsUsed } : State).setVm s₂.vm).setTop g).pushFrame (.throwing q) := by
      refine e3.trans ?_
      rw [hf₂, State.calling_eq h.top, State.setFrames_setFrames, State.pushFrame, State.frames_setTop _ hr', State.setTop_of_frames _ hr', State.setFrames_setFrames, hr]
      rfl
    have hsame : U.sameButNew ({ U with heap := s₂.heap, slotsUsed := s₂.slotsUsed } : State) L mc ms := by
      refine ⟨?_, q2, q3, q4, q5, q6⟩
      obtain ⟨t, ht, -⟩ := State.frames_cons hr
      show ({ U with heap := s₂.heap, slotsUsed := s₂.slotsUsed } : State) = { U.setFrames U.frames with heap := s₂.heap, slotsUsed := s₂.slotsUsed }
      rw [State.setFrames_self ht]
    subst hg
    refine Or.inr ⟨q, ⟨(({ U with heap := s₂.heap, slotsUsed := s₂.slotsUsed } : State).setVm s₂.vm), Ls ++ L, c0 + mc, s0 + ms⟩,
      ⟨X.admits, X.cas, X.clock, X.frames, X.room, X.hears, X.method, X.code, (X.here.setHeapUsed s₂.heap s₂.slotsUsed).setVm hW'.alike, X.tail, State.WarmedH.trans X.warmed hW', X.limits, X.bytes, X.same.trans (hsame.setVm s.vm)⟩,
      ⟨g, mk, s₂, L, E, ce, rfl, rfl, hx, hce, hcv, hcl, rfl, hL, rfl, rfl⟩, ?_⟩
    show Steps p.tables e below _ (((({ U with heap := s₂.heap, slotsUsed := s₂.slotsUsed } : State).setVm s₂.vm).setTop g).pushFrame (.throwing q))
    rw [← hs₂]
    exact hsteps
end Payer
section Calls
variable {p : Program} {l : Launch} {e : Env} {R : Room} {s : State} {m : MethodId} {args : Array Value} {below : List Frame} {meth : Method} {c : Code} {T : State} {locs : List Loc} {cells slots : Nat}
theorem vx_callV (X : Stand p l e R s m args below meth c T locs cells slots) (hexec : p.tables.exec = Jvm.exec) {own C : String} {index : Nat} {y : MethodName} {bytes : ByteArray} {maxL : Nat} {ret : Option FieldType}
    (hown : s.vm.findClass own = some m.cls) (hlink : (Cond.methodLink own index y).before args s = true) (hinst : (Cond.instanceMethod y).before args s = true) (hsel : (Cond.selects C y y).before args s = true)
    (hcode : (Cond.code y bytes maxL ret).before args s = true) (hy : y.cls ≠ "java/lang/invoke/MethodHandle" ∧ y.cls ≠ "java/lang/invoke/VarHandle")
    {W9 : Nat} {Pre : Pt → Array Value → Prop} {Post : Pt → Array Value → Option Value → Pt → Prop} {PostX : Pt → Array Value → Addr → Pt → Prop} (hK : vx_Back l R p e below s args y 3 W9 Pre Post PostX)
    {b : Addr} {cellB : Cell} (hcell : T.heap[b]? = some cellB) (hobj : cellB.vm.isStatics = false) (hcls : s.vm.findClass C = some cellB.cls)
    {g : JFrame} (hg : g.method = m) (hsize : g.locals.size = c.maxLocals) {argsL rest : List Value} (hlen : ∀ sig, parseMethodDescriptor y.desc = some sig → argsL.length = sig.parameters.length)
    (hstack : g.stack = argsL.reverse ++ .ref b :: rest) (hW : 2 * g.monitorRoom + (rest.map fun v => v.category).sum ≤ W9) (hdg : decode c.code g.pc = .ok (.invokevirtual index, 3))
    (hpre : ∀ vm₁, s.WarmedH vm₁ → Pre ⟨T.setVm vm₁, locs, cells, slots⟩ (Value.ref b :: argsL).toArray) :
    (∃ (v : Option Value) (vm₁ : Vm) (B : Pt), s.WarmedH vm₁ ∧ Stand p l e R s m args below meth c B.U B.locs B.cells B.slots ∧ Post ⟨T.setVm vm₁, locs, cells, slots⟩ (Value.ref b :: argsL).toArray v B ∧
      ∀ target, Steps p.tables e below (B.U.setTop { g with pc := g.pc + 3, stack := v.toList ++ rest }) target → Steps p.tables e below (T.setTop g) target) ∨
    (∃ (q : Addr) (vm₁ : Vm) (B : Pt), s.WarmedH vm₁ ∧ Stand p l e R s m args below meth c B.U B.locs B.cells B.slots ∧ PostX ⟨T.setVm vm₁, locs, cells, slots⟩ (Value.ref b :: argsL).toArray q B ∧
      Steps p.tables e below (T.setTop g) ((B.U.setTop { g with stack := rest }).pushFrame (.throwing q))) := by
  obtain ⟨mk, methM, hnamed, hmethM, hstM, habM⟩ := Cond.instanceMethod_spec hinst
  obtain ⟨methM', cM, hmethM', -, -, -, -, -, -, hsigM⟩ := Cond.code_spec hnamed hcode
  cases hmethM.symm.trans hmethM'
  obtain ⟨c2, r2, m2, q1, q2, q3, q4, kP, hkP, hkPi⟩ := Cond.selects_spec hsel
  cases hcls.symm.trans q1
  cases (State.methodFound?_of_named hnamed hy).symm.trans q2
  cases hnamed.symm.trans q3
  have hselP : selectMethod e.platform s.vm cellB.cls mk = .method mk := by rw [Launch.admits_selectMethod X.admits]; exact q4
  obtain ⟨vm₁, X₁, hstep₁⟩ := X.invokevirtual hexec hown hlink hnamed hmethM hstM hkP hkPi hy (a := b) (cell := cellB) hcell
    (fun z h => by rw [h] at hobj; cases hobj) hselP hmethM habM hkP hkPi (g := g) hg (argsL := argsL) (rest := rest) (hlen _ hsigM) hstack hdg
  rcases hK m meth c ⟨T.setVm vm₁, locs, cells, slots⟩ { g with stack := rest } (.invokevirtual index) mk (Value.ref b :: argsL).toArray X₁ hg hsize hdg hW (X₁.named hnamed) (hpre vm₁ X₁.warmed) with ⟨v, B, X', hpost, hsteps⟩ | ⟨q, B, X', hpost, hsteps⟩
  · exact Or.inl ⟨v, vm₁, B, X₁.warmed, X', hpost, fun target h => hstep₁ _ fun acts => by rw [doInvoke_state]; exact hsteps.trans h⟩
  · exact Or.inr ⟨q, vm₁, B, X₁.warmed, X', hpost, hstep₁ _ fun acts => by rw [doInvoke_state]; exact hsteps⟩
theorem vx_callS (X : Stand p l e R s m args below meth c T locs cells slots) (hexec : p.tables.exec = Jvm.exec) {own : String} {index : Nat} {y : MethodName} {bytes : ByteArray} {maxL : Nat} {ret : Option FieldType}
    (hown : s.vm.findClass own = some m.cls) (hlink : (Cond.methodLink own index y).before args s = true) (hstat : (Cond.static y).before args s = true) (hinit : (Cond.initialized y.cls).before args s = true)
    (hcode : (Cond.code y bytes maxL ret).before args s = true) (hy : y.cls ≠ "java/lang/invoke/MethodHandle" ∧ y.cls ≠ "java/lang/invoke/VarHandle")
    {W9 : Nat} {Pre : Pt → Array Value → Prop} {Post : Pt → Array Value → Option Value → Pt → Prop} {PostX : Pt → Array Value → Addr → Pt → Prop} (hK : vx_Back l R p e below s args y 3 W9 Pre Post PostX)
    {g : JFrame} (hg : g.method = m) (hsize : g.locals.size = c.maxLocals) {argsL rest : List Value} (hlen : ∀ sig, parseMethodDescriptor y.desc = some sig → argsL.length = sig.parameters.length)
    (hstack : g.stack = argsL.reverse ++ rest) (hW : 2 * g.monitorRoom + (rest.map fun v => v.category).sum ≤ W9) (hdg : decode c.code g.pc = .ok (.invokestatic index, 3))
    (hpre : ∀ vm₁, s.WarmedH vm₁ → Pre ⟨T.setVm vm₁, locs, cells, slots⟩ argsL.toArray) :
    (∃ (v : Option Value) (vm₁ : Vm) (B : Pt), s.WarmedH vm₁ ∧ Stand p l e R s m args below meth c B.U B.locs B.cells B.slots ∧ Post ⟨T.setVm vm₁, locs, cells, slots⟩ argsL.toArray v B ∧
      ∀ target, Steps p.tables e below (B.U.setTop { g with pc := g.pc + 3, stack := v.toList ++ rest }) target → Steps p.tables e below (T.setTop g) target) ∨
    (∃ (q : Addr) (vm₁ : Vm) (B : Pt), s.WarmedH vm₁ ∧ Stand p l e R s m args below meth c B.U B.locs B.cells B.slots ∧ PostX ⟨T.setVm vm₁, locs, cells, slots⟩ argsL.toArray q B ∧
      Steps p.tables e below (T.setTop g) ((B.U.setTop { g with stack := rest }).pushFrame (.throwing q))) := by
  obtain ⟨mk, hnamed⟩ := Cond.code_named hcode
  obtain ⟨methM, cM, hmethM, -, -, -, -, -, -, hsigM⟩ := Cond.code_spec hnamed hcode
  have hstatic : methM.isStatic = true := Cond.static_spec hnamed hmethM hstat
  obtain ⟨kP, hkP, -⟩ := className_of_methodNamed hnamed
  have hinitP : kP.init = .initialized := Cond.initialized_spec (findClass_of_methodNamed hnamed) hkP hinit
  obtain ⟨vm₁, X₁, hstep₁⟩ := X.invokestatic hexec hown hlink hnamed hmethM hstatic hkP hinitP hy (g := g) hg (argsL := argsL) (rest := rest) (hlen _ hsigM) hstack hdg
  rcases hK m meth c ⟨T.setVm vm₁, locs, cells, slots⟩ { g with stack := rest } (.invokestatic index) mk argsL.toArray X₁ hg hsize hdg hW (X₁.named hnamed) (hpre vm₁ X₁.warmed) with ⟨v, B, X', hpost, hsteps⟩ | ⟨q, B, X', hpost, hsteps⟩
  · exact Or.inl ⟨v, vm₁, B, X₁.warmed, X', hpost, fun target h => hstep₁ _ fun acts => by rw [doInvoke_state]; exact hsteps.trans h⟩
  · exact Or.inr ⟨q, vm₁, B, X₁.warmed, X', hpost, hstep₁ _ fun acts => by rw [doInvoke_state]; exact hsteps⟩
end Calls
theorem vx_cls {s : State} {T : State} {vm₁ : Vm} {E : String} {k : ClassId} (hW : s.WarmedH vm₁) (h : (T.setVm vm₁).vm.findClass E = some k) : s.vm.findClass E = some k := by
  have h1 : vm₁.findClass E = some k := h
  rw [hW.alike.findClass] at h1
  exact h1
/-- the method's frame g, with q thrown over it -/
def vx_W (p : Program) (l : Launch) (e : Env) (R : Room) (s : State) (m : MethodId) (args : Array Value) (below : List Frame) (meth : Method) (c : Code) (H : Heap) (locs : List Loc) (cells slots : Nat) (Q : State → Prop) (g : JFrame) (q : Addr) : Prop :=
  ∀ T : State, T.heap = H → Stand p l e R s m args below meth c T locs cells slots → ∃ t, Steps p.tables e below ((T.setTop g).pushFrame (.throwing q)) t ∧ Q t
def vx_Run (p : Program) (l : Launch) (e : Env) (R : Room) (s : State) (m : MethodId) (args : Array Value) (below : List Frame) (meth : Method) (c : Code) (H : Heap) (locs : List Loc) (cells slots mc ms : Nat) (g : JFrame) (rest : List Value) (Qa : State → Outcome → State → Prop) (XC : String → State → State → Prop) (free : Addr → Prop) : Prop :=
  ∀ T : State, T.heap = H → Stand p l e R s m args below meth c T locs cells slots →
    (∃ (v : Option Value) (st₀ t T' : State) (L : List Loc), st₀.heap = H ∧ Stand p l e R s m args below meth c T' (locs ++ L) (cells + mc) (slots + ms) ∧ (∀ q ∈ L, free q.base) ∧ T'.heap = t.heap ∧ T'.vm = t.vm ∧ Qa st₀ (.returned v) t ∧
      Goes p e below T g T' { g with pc := g.pc + 3, stack := v.toList ++ rest }) ∨
    (∃ (q : Addr) (st₀ t T' : State) (L : List Loc) (E : String) (ce : Cell), st₀.heap = H ∧ Stand p l e R s m args below meth c T' (locs ++ L) (cells + mc) (slots + ms) ∧ (∀ z ∈ L, free z.base) ∧ T'.heap = t.heap ∧ T'.vm = t.vm ∧ XC E st₀ t ∧ t.heap[q]? = some ce ∧ ce.vm = .none ∧ s.vm.findClass E = some ce.cls ∧
      Steps p.tables e below (T.setTop g) ((T'.setTop { g with stack := rest }).pushFrame (.throwing q)))
def vx_X {S : Type} (px : S → Prop) (B : String → S → State → Prop) (A : Nat → Prop) : String → State → State → Prop := fun E st t => ∃ u : S, px u ∧ B E u t ∧ va_F A st t
section Runs
variable {p : Program} {l : Launch} {e : Env} {R : Room} {s : State} {m : MethodId} {args : Array Value} {below : List Frame} {meth : Method} {c : Code} {H : Heap} {locs : List Loc} {cells slots : Nat}
variable {y : MethodName} {bytes cc : ByteArray} {maxL nL mc ms n index : Nat} {ret : Option FieldType} {ws : List Cond} {rm : Room} {Pc : Array Value → State → Prop} {Qc : Array Value → State → Outcome → State → Prop} {XC : String → State → State → Prop} {free : Addr → Prop} {Ts : List Cond} {own C : String} {b : Addr} {As rest : List Value} {g : JFrame}
theorem vx_callBack (cb : CallB R s args own index y bytes maxL ret ws rm mc ms n) (hM : vx_Met l y ws rm Pc Qc XC mc ms free) (hbl : FrameBlind Pc) : vx_Back l R p e below s args y 3 8 (PreOf R mc ms Pc) (PostOf Qc mc ms free) (vx_Post XC mc ms free) := by
  obtain ⟨hrc, hrs, hfr, hlo, hws, hcw, -, hini, -⟩ := cb
  exact vx_back (bytes := bytes) (maxL := maxL) (ret := ret) hM hbl hrc hrs hfr hlo hws hcw (fun a' U hW => word_at hW (Or.inl (by first | rfl | simp [Cond.onTables, Cond.keeps, Cond.steady])) hini)
theorem vx_runV (S : CallFix p m c cc nL s args Ts own) (hM : vx_Met l y ws rm Pc Qc XC mc ms free) (cw : CallW R s args own C index y bytes maxL ret ws rm mc ms n) (hp : PreV s H C b Pc As)
    (hg : g.method = m) (hn : As.length = n) (hsize : g.locals.size = nL) (hstack : g.stack = As.reverse ++ .ref b :: rest) (hW : 2 * g.monitorRoom + (rest.map fun v => v.category).sum ≤ 8) (hdg : decode cc g.pc = .ok (.invokevirtual index, 3)) (hf : cells + mc ≤ R.cells ∧ slots + ms ≤ R.slots) :
    vx_Run p l e R s m args below meth c H locs cells slots mc ms g rest (Qc (Value.ref b :: As).toArray) XC free := by
  have hK : vx_Back l R p e below s args y 3 8 (PreOf R mc ms Pc) (PostOf Qc mc ms free) (vx_Post XC mc ms free) := vx_callBack cw.1 hM hp.1
  obtain ⟨⟨-, -, -, -, -, -, hcode, -, hy, hlen, hl⟩, hin, hse⟩ := cw
  obtain ⟨hx, hb, hml, ho, -⟩ := S
  obtain ⟨-, ⟨cellB, hcB, hoB, hclB⟩, hPc⟩ := hp
  intro T hT X
  rcases vx_callV X hx (C := C) (bytes := bytes) (maxL := maxL) (ret := ret) ho hl hin hse hcode hy hK (by rw [hT]; exact hcB) hoB hclB hg (hsize.trans hml.symm) (argsL := As) (rest := rest) (fun sig h => hn.trans (hlen sig h)) hstack hW (by rw [hb]; exact hdg)
    (fun vm₁ hW₁ => ⟨hf.1, hf.2, hPc (T.setVm vm₁) hT hW₁⟩) with ⟨v, vm₁, ⟨U', l2, c2, s2⟩, hW₁, X', ⟨g', mk, t, L, e1, e2, hq, h1, hL, h2, h3⟩, st⟩ | ⟨q, vm₁, ⟨U', l2, c2, s2⟩, hW₁, X', ⟨g', mk, t, L, E, ce, e1, e2, hq, hce, hcv, hcl, h1, hL, h2, h3⟩, st⟩
  · dsimp only [Pt.U, Pt.locs, Pt.cells, Pt.slots] at X' e1 e2 h1 h2 h3 st
    subst h1; subst h2; subst h3
    exact Or.inl ⟨v, (T.setVm vm₁).calling g' mk (Value.ref b :: As).toArray, t, U', L, hT, X', hL, e1, e2, hq, st⟩
  · dsimp only [Pt.U, Pt.locs, Pt.cells, Pt.slots] at X' e1 e2 h1 h2 h3 st hcl
    subst h1; subst h2; subst h3
    exact Or.inr ⟨q, (T.setVm vm₁).calling g' mk (Value.ref b :: As).toArray, t, U', L, E, ce, hT, X', hL, e1, e2, hq, hce, hcv, vx_cls hW₁ hcl, st⟩
theorem vx_runS (S : CallFix p m c cc nL s args Ts own) (hM : vx_Met l y ws rm Pc Qc XC mc ms free) (cw : CallB R s args own index y bytes maxL ret ws rm mc ms n ∧ (Cond.static y).before args s = true) (hp : PreS s H Pc As)
    (hg : g.method = m) (hn : As.length = n) (hsize : g.locals.size = nL) (hstack : g.stack = As.reverse ++ rest) (hW : 2 * g.monitorRoom + (rest.map fun v => v.category).sum ≤ 8) (hdg : decode cc g.pc = .ok (.invokestatic index, 3)) (hf : cells + mc ≤ R.cells ∧ slots + ms ≤ R.slots) :
    vx_Run p l e R s m args below meth c H locs cells slots mc ms g rest (Qc As.toArray) XC free := by
  have hK : vx_Back l R p e below s args y 3 8 (PreOf R mc ms Pc) (PostOf Qc mc ms free) (vx_Post XC mc ms free) := vx_callBack cw.1 hM hp.1
  obtain ⟨⟨-, -, -, -, -, -, hcode, hini, hy, hlen, hl⟩, hstt⟩ := cw
  obtain ⟨hx, hb, hml, ho, -⟩ := S
  intro T hT X
  rcases vx_callS X hx (bytes := bytes) (maxL := maxL) (ret := ret) ho hl hstt hini hcode hy hK hg (hsize.trans hml.symm) (argsL := As) (rest := rest) (fun sig h => hn.trans (hlen sig h)) hstack hW (by rw [hb]; exact hdg)
    (fun vm₁ hW₁ => ⟨hf.1, hf.2, hp.2 (T.setVm vm₁) hT hW₁⟩) with ⟨v, vm₁, ⟨U', l2, c2, s2⟩, hW₁, X', ⟨g', mk, t, L, e1, e2, hq, h1, hL, h2, h3⟩, st⟩ | ⟨q, vm₁, ⟨U', l2, c2, s2⟩, hW₁, X', ⟨g', mk, t, L, E, ce, e1, e2, hq, hce, hcv, hcl, h1, hL, h2, h3⟩, st⟩
  · dsimp only [Pt.U, Pt.locs, Pt.cells, Pt.slots] at X' e1 e2 h1 h2 h3 st
    subst h1; subst h2; subst h3
    exact Or.inl ⟨v, (T.setVm vm₁).calling g' mk As.toArray, t, U', L, hT, X', hL, e1, e2, hq, st⟩
  · dsimp only [Pt.U, Pt.locs, Pt.cells, Pt.slots] at X' e1 e2 h1 h2 h3 st hcl
    subst h1; subst h2; subst h3
    exact Or.inr ⟨q, (T.setVm vm₁).calling g' mk As.toArray, t, U', L, E, ce, hT, X', hL, e1, e2, hq, hce, hcv, vx_cls hW₁ hcl, st⟩
end Runs
section Rows
variable {p : Program} {l : Launch} {e : Env} {R : Room} {s : State} {m : MethodId} {args : Array Value} {below : List Frame} {meth : Method} {c : Code} {H : Heap} {locs : List Loc} {cells slots : Nat} {Q : State → Prop}
variable {mc ms : Nat} {free : Addr → Prop} {A0 A1 : Nat → Prop} {H0 : Heap} {a : Array Value} {pc : Nat} {ls : Array Slot} {st0 rest : List Value}
theorem vx_keep {st₀ t T' : State} {L : List Loc} (h0 : st₀.heap = H) (e1 : T'.heap = t.heap) (hS : va_S A0 H0 H locs) (hA : ∀ q, q < H.size → A1 q → A0 q) (hf : ∀ q, free q → A0 q) (hL : ∀ q ∈ L, free q.base) (hF : va_F A1 st₀ t) :
    H.size ≤ T'.heap.size ∧ (∀ q : Nat, q < H.size → ¬ A1 q → T'.heap[q]? = H[q]?) ∧ va_S A0 H0 T'.heap (locs ++ L) := by
  obtain ⟨hz, hk⟩ := hF
  rw [h0] at hz hk
  exact ⟨by rw [e1]; exact hz, fun q h1 h2 => by rw [e1]; exact hk q h1 h2,
    ⟨Nat.le_trans hS.1 (by rw [e1]; exact hz), fun q h1 h2 => by rw [e1, hk q (Nat.lt_of_lt_of_le h1 hS.1) (fun z => h2 (hA q (Nat.lt_of_lt_of_le h1 hS.1) z))]; exact hS.2.1 q h1 h2, fun q hq => by
      rcases List.mem_append.mp hq with h | h
      · exact hS.2.2 q h
      · exact hf _ (hL q h)⟩⟩
theorem vx_calli {S SX : Type} {post : Int32 → S → Prop} {px : SX → Prop} {B : S → State → Prop} {BX : String → SX → State → Prop} {AX : Nat → Prop} (hr : vx_Run p l e R s m args below meth c H locs cells slots mc ms (F0 m pc ls st0) rest (va_Qi post B A1 a) (vx_X px BX AX) free) (hS : va_S A0 H0 H locs) (hA : ∀ q, q < H.size → A1 q → A0 q) (hf : ∀ q, free q → A0 q) (hAX : ∀ q, q < H.size → AX q → A0 q)
    (kx : ∀ (E : String) (ce : Cell) (q9 : Addr) (u : SX) (t : State) (H1 : Heap) (locs1 : List Loc), t.heap = H1 → s.vm.Alike t.vm → px u → BX E u t → H.size ≤ H1.size → (∀ q : Nat, q < H.size → ¬ AX q → H1[q]? = H[q]?) → va_S A0 H0 H1 locs1 → H1[q9]? = some ce → ce.vm = .none → s.vm.findClass E = some ce.cls → vx_W p l e R s m args below meth c H1 locs1 (cells + mc) (slots + ms) Q (F0 m pc ls rest) q9)
    (kk : ∀ (r : Int32) (u : S) (t : State) (H1 : Heap) (locs1 : List Loc), t.heap = H1 → s.vm.Alike t.vm → post r u → B u t → H.size ≤ H1.size → (∀ q : Nat, q < H.size → ¬ A1 q → H1[q]? = H[q]?) → va_S A0 H0 H1 locs1 → W p l e R s m args below meth c H1 locs1 (cells + mc) (slots + ms) Q (F0 m (pc + 3) ls (.int r :: rest))) : W p l e R s m args below meth c H locs cells slots Q (F0 m pc ls st0) := by
  intro T hT X
  rcases hr T hT X with ⟨v, st₀, t, T', L, h0, X', hL, e1, e2, ⟨⟨r, u, hv, hp, hb⟩, hF⟩, st⟩ | ⟨q, st₀, t, T', L, E, ce, h0, X', hL, e1, e2, ⟨u, hp, hb, hF⟩, hce, hcv, hcl, st⟩
  · cases hv
    obtain ⟨k1, k2, k3⟩ := vx_keep h0 e1 hS hA hf hL hF
    obtain ⟨t2, a1, b1⟩ := kk r u t T'.heap (locs ++ L) e1.symm (by rw [← e2]; exact X'.warmed.alike) hp hb k1 k2 k3 T' rfl X'
    exact ⟨t2, st t2 a1, b1⟩
  · obtain ⟨k1, k2, k3⟩ := vx_keep h0 e1 hS hAX hf hL hF
    obtain ⟨t2, a1, b1⟩ := kx E ce q u t T'.heap (locs ++ L) e1.symm (by rw [← e2]; exact X'.warmed.alike) hp hb k1 k2 k3 (by rw [e1]; exact hce) hcv hcl T' rfl X'
    exact ⟨t2, st.trans a1, b1⟩
theorem vx_calll {S SX : Type} {post : Int64 → S → Prop} {px : SX → Prop} {B : S → State → Prop} {BX : String → SX → State → Prop} {AX : Nat → Prop} (hr : vx_Run p l e R s m args below meth c H locs cells slots mc ms (F0 m pc ls st0) rest (va_Ql post B A1 a) (vx_X px BX AX) free) (hS : va_S A0 H0 H locs) (hA : ∀ q, q < H.size → A1 q → A0 q) (hf : ∀ q, free q → A0 q) (hAX : ∀ q, q < H.size → AX q → A0 q)
    (kx : ∀ (E : String) (ce : Cell) (q9 : Addr) (u : SX) (t : State) (H1 : Heap) (locs1 : List Loc), t.heap = H1 → s.vm.Alike t.vm → px u → BX E u t → H.size ≤ H1.size → (∀ q : Nat, q < H.size → ¬ AX q → H1[q]? = H[q]?) → va_S A0 H0 H1 locs1 → H1[q9]? = some ce → ce.vm = .none → s.vm.findClass E = some ce.cls → vx_W p l e R s m args below meth c H1 locs1 (cells + mc) (slots + ms) Q (F0 m pc ls rest) q9)
    (kk : ∀ (r : Int64) (u : S) (t : State) (H1 : Heap) (locs1 : List Loc), t.heap = H1 → s.vm.Alike t.vm → post r u → B u t → H.size ≤ H1.size → (∀ q : Nat, q < H.size → ¬ A1 q → H1[q]? = H[q]?) → va_S A0 H0 H1 locs1 → W p l e R s m args below meth c H1 locs1 (cells + mc) (slots + ms) Q (F0 m (pc + 3) ls (.long r :: rest))) : W p l e R s m args below meth c H locs cells slots Q (F0 m pc ls st0) := by
  intro T hT X
  rcases hr T hT X with ⟨v, st₀, t, T', L, h0, X', hL, e1, e2, ⟨⟨r, u, hv, hp, hb⟩, hF⟩, st⟩ | ⟨q, st₀, t, T', L, E, ce, h0, X', hL, e1, e2, ⟨u, hp, hb, hF⟩, hce, hcv, hcl, st⟩
  · cases hv
    obtain ⟨k1, k2, k3⟩ := vx_keep h0 e1 hS hA hf hL hF
    obtain ⟨t2, a1, b1⟩ := kk r u t T'.heap (locs ++ L) e1.symm (by rw [← e2]; exact X'.warmed.alike) hp hb k1 k2 k3 T' rfl X'
    exact ⟨t2, st t2 a1, b1⟩
  · obtain ⟨k1, k2, k3⟩ := vx_keep h0 e1 hS hAX hf hL hF
    obtain ⟨t2, a1, b1⟩ := kx E ce q u t T'.heap (locs ++ L) e1.symm (by rw [← e2]; exact X'.warmed.alike) hp hb k1 k2 k3 (by rw [e1]; exact hce) hcv hcl T' rfl X'
    exact ⟨t2, st.trans a1, b1⟩
theorem vx_callf {S SX : Type} {post : UInt32 → S → Prop} {px : SX → Prop} {B : S → State → Prop} {BX : String → SX → State → Prop} {AX : Nat → Prop} (hr : vx_Run p l e R s m args below meth c H locs cells slots mc ms (F0 m pc ls st0) rest (va_Qf post B A1 a) (vx_X px BX AX) free) (hS : va_S A0 H0 H locs) (hA : ∀ q, q < H.size → A1 q → A0 q) (hf : ∀ q, free q → A0 q) (hAX : ∀ q, q < H.size → AX q → A0 q)
    (kx : ∀ (E : String) (ce : Cell) (q9 : Addr) (u : SX) (t : State) (H1 : Heap) (locs1 : List Loc), t.heap = H1 → s.vm.Alike t.vm → px u → BX E u t → H.size ≤ H1.size → (∀ q : Nat, q < H.size → ¬ AX q → H1[q]? = H[q]?) → va_S A0 H0 H1 locs1 → H1[q9]? = some ce → ce.vm = .none → s.vm.findClass E = some ce.cls → vx_W p l e R s m args below meth c H1 locs1 (cells + mc) (slots + ms) Q (F0 m pc ls rest) q9)
    (kk : ∀ (r : UInt32) (u : S) (t : State) (H1 : Heap) (locs1 : List Loc), t.heap = H1 → s.vm.Alike t.vm → post r u → B u t → H.size ≤ H1.size → (∀ q : Nat, q < H.size → ¬ A1 q → H1[q]? = H[q]?) → va_S A0 H0 H1 locs1 → W p l e R s m args below meth c H1 locs1 (cells + mc) (slots + ms) Q (F0 m (pc + 3) ls (.float r :: rest))) : W p l e R s m args below meth c H locs cells slots Q (F0 m pc ls st0) := by
  intro T hT X
  rcases hr T hT X with ⟨v, st₀, t, T', L, h0, X', hL, e1, e2, ⟨⟨r, u, hv, hp, hb⟩, hF⟩, st⟩ | ⟨q, st₀, t, T', L, E, ce, h0, X', hL, e1, e2, ⟨u, hp, hb, hF⟩, hce, hcv, hcl, st⟩
  · cases hv
    obtain ⟨k1, k2, k3⟩ := vx_keep h0 e1 hS hA hf hL hF
    obtain ⟨t2, a1, b1⟩ := kk r u t T'.heap (locs ++ L) e1.symm (by rw [← e2]; exact X'.warmed.alike) hp hb k1 k2 k3 T' rfl X'
    exact ⟨t2, st t2 a1, b1⟩
  · obtain ⟨k1, k2, k3⟩ := vx_keep h0 e1 hS hAX hf hL hF
    obtain ⟨t2, a1, b1⟩ := kx E ce q u t T'.heap (locs ++ L) e1.symm (by rw [← e2]; exact X'.warmed.alike) hp hb k1 k2 k3 (by rw [e1]; exact hce) hcv hcl T' rfl X'
    exact ⟨t2, st.trans a1, b1⟩
theorem vx_calld {S SX : Type} {post : UInt64 → S → Prop} {px : SX → Prop} {B : S → State → Prop} {BX : String → SX → State → Prop} {AX : Nat → Prop} (hr : vx_Run p l e R s m args below meth c H locs cells slots mc ms (F0 m pc ls st0) rest (va_Qd post B A1 a) (vx_X px BX AX) free) (hS : va_S A0 H0 H locs) (hA : ∀ q, q < H.size → A1 q → A0 q) (hf : ∀ q, free q → A0 q) (hAX : ∀ q, q < H.size → AX q → A0 q)
    (kx : ∀ (E : String) (ce : Cell) (q9 : Addr) (u : SX) (t : State) (H1 : Heap) (locs1 : List Loc), t.heap = H1 → s.vm.Alike t.vm → px u → BX E u t → H.size ≤ H1.size → (∀ q : Nat, q < H.size → ¬ AX q → H1[q]? = H[q]?) → va_S A0 H0 H1 locs1 → H1[q9]? = some ce → ce.vm = .none → s.vm.findClass E = some ce.cls → vx_W p l e R s m args below meth c H1 locs1 (cells + mc) (slots + ms) Q (F0 m pc ls rest) q9)
    (kk : ∀ (r : UInt64) (u : S) (t : State) (H1 : Heap) (locs1 : List Loc), t.heap = H1 → s.vm.Alike t.vm → post r u → B u t → H.size ≤ H1.size → (∀ q : Nat, q < H.size → ¬ A1 q → H1[q]? = H[q]?) → va_S A0 H0 H1 locs1 → W p l e R s m args below meth c H1 locs1 (cells + mc) (slots + ms) Q (F0 m (pc + 3) ls (.double r :: rest))) : W p l e R s m args below meth c H locs cells slots Q (F0 m pc ls st0) := by
  intro T hT X
  rcases hr T hT X with ⟨v, st₀, t, T', L, h0, X', hL, e1, e2, ⟨⟨r, u, hv, hp, hb⟩, hF⟩, st⟩ | ⟨q, st₀, t, T', L, E, ce, h0, X', hL, e1, e2, ⟨u, hp, hb, hF⟩, hce, hcv, hcl, st⟩
  · cases hv
    obtain ⟨k1, k2, k3⟩ := vx_keep h0 e1 hS hA hf hL hF
    obtain ⟨t2, a1, b1⟩ := kk r u t T'.heap (locs ++ L) e1.symm (by rw [← e2]; exact X'.warmed.alike) hp hb k1 k2 k3 T' rfl X'
    exact ⟨t2, st t2 a1, b1⟩
  · obtain ⟨k1, k2, k3⟩ := vx_keep h0 e1 hS hAX hf hL hF
    obtain ⟨t2, a1, b1⟩ := kx E ce q u t T'.heap (locs ++ L) e1.symm (by rw [← e2]; exact X'.warmed.alike) hp hb k1 k2 k3 (by rw [e1]; exact hce) hcv hcl T' rfl X'
    exact ⟨t2, st.trans a1, b1⟩
theorem vx_callv {S SX : Type} {post : S → Prop} {px : SX → Prop} {B : S → State → Prop} {BX : String → SX → State → Prop} {AX : Nat → Prop} (hr : vx_Run p l e R s m args below meth c H locs cells slots mc ms (F0 m pc ls st0) rest (va_Qv post B A1 a) (vx_X px BX AX) free) (hS : va_S A0 H0 H locs) (hA : ∀ q, q < H.size → A1 q → A0 q) (hf : ∀ q, free q → A0 q) (hAX : ∀ q, q < H.size → AX q → A0 q)
    (kx : ∀ (E : String) (ce : Cell) (q9 : Addr) (u : SX) (t : State) (H1 : Heap) (locs1 : List Loc), t.heap = H1 → s.vm.Alike t.vm → px u → BX E u t → H.size ≤ H1.size → (∀ q : Nat, q < H.size → ¬ AX q → H1[q]? = H[q]?) → va_S A0 H0 H1 locs1 → H1[q9]? = some ce → ce.vm = .none → s.vm.findClass E = some ce.cls → vx_W p l e R s m args below meth c H1 locs1 (cells + mc) (slots + ms) Q (F0 m pc ls rest) q9)
    (kk : ∀ (u : S) (t : State) (H1 : Heap) (locs1 : List Loc), t.heap = H1 → s.vm.Alike t.vm → post u → B u t → H.size ≤ H1.size → (∀ q : Nat, q < H.size → ¬ A1 q → H1[q]? = H[q]?) → va_S A0 H0 H1 locs1 → W p l e R s m args below meth c H1 locs1 (cells + mc) (slots + ms) Q (F0 m (pc + 3) ls (rest))) : W p l e R s m args below meth c H locs cells slots Q (F0 m pc ls st0) := by
  intro T hT X
  rcases hr T hT X with ⟨v, st₀, t, T', L, h0, X', hL, e1, e2, ⟨⟨u, hv, hp, hb⟩, hF⟩, st⟩ | ⟨q, st₀, t, T', L, E, ce, h0, X', hL, e1, e2, ⟨u, hp, hb, hF⟩, hce, hcv, hcl, st⟩
  · cases hv
    obtain ⟨k1, k2, k3⟩ := vx_keep h0 e1 hS hA hf hL hF
    obtain ⟨t2, a1, b1⟩ := kk u t T'.heap (locs ++ L) e1.symm (by rw [← e2]; exact X'.warmed.alike) hp hb k1 k2 k3 T' rfl X'
    exact ⟨t2, st t2 a1, b1⟩
  · obtain ⟨k1, k2, k3⟩ := vx_keep h0 e1 hS hAX hf hL hF
    obtain ⟨t2, a1, b1⟩ := kx E ce q u t T'.heap (locs ++ L) e1.symm (by rw [← e2]; exact X'.warmed.alike) hp hb k1 k2 k3 (by rw [e1]; exact hce) hcv hcl T' rfl X'
    exact ⟨t2, st.trans a1, b1⟩
/-- caught by the row x of this method's table; the rows ahead don't take it -/
theorem vx_catch {own name : String} {E : String} {ce : Cell} {q : Addr} (hown : s.vm.findClass own = some m.cls) (pre : List ExceptionTableEntry) (x : ExceptionTableEntry) (suf : List ExceptionTableEntry) (hsplit : c.exceptionTable.toList = pre ++ x :: suf)
    (hpass : ∀ z ∈ pre, covers z pc = false ∨ (z.catchType ≠ 0 ∧ ∃ nm : String, (Cond.classLink own z.catchType nm).before args s = true ∧ va_Nc E nm s)) (hx : covers x pc = true) (h0 : x.catchType ≠ 0)
    (hlink : (Cond.classLink own x.catchType name).before args s = true) (hcast : (Cond.castable E name).before args s = true) (hcell : H[q]? = some ce) (hv : ce.vm = .none) (hcl : s.vm.findClass E = some ce.cls)
    (kk : W p l e R s m args below meth c H locs cells slots Q (F0 m x.handlerPc ls [.ref q])) : vx_W p l e R s m args below meth c H locs cells slots Q (F0 m pc ls rest) q := by
  intro T hT X
  have hpl : e.platform.magicAccessors = ({} : Platform).magicAccessors := by rw [X.admits.platform]
  obtain ⟨c3, c4, hc3, hc4, hasg⟩ := Cond.castable_spec hcast
  cases Option.some.inj (hc3.symm.trans hcl)
  obtain ⟨c5, hc5, hcl5⟩ := Cond.classLink_spec hown hlink e.platform hpl
  cases Option.some.inj (hc4.symm.trans hc5)
  obtain ⟨vm', X', st⟩ := X.thenCaughtThrough q (g := F0 m pc ls rest) rfl (Steps.refl _) (by rw [hT]; exact hcell) (by rw [hv]; rfl) (by obtain ⟨k9, h9, -⟩ := Vm.findClass_spec hcl; exact ⟨k9, h9⟩) pre x suf hsplit
    (fun z hz => by
      rcases hpass z hz with h | ⟨hz0, nm, hl1, hn1⟩
      · exact Or.inl h
      · obtain ⟨c6, hc6, hcl6⟩ := Cond.classLink_spec hown hl1 e.platform hpl
        obtain ⟨a8, b8, h1, h2, h3⟩ := hn1
        cases Option.some.inj (h1.symm.trans hcl)
        cases Option.some.inj (h2.symm.trans hc6)
        exact Or.inr ⟨hz0, _, hcl6, h3⟩) hx (Or.inr ⟨h0, c4, hcl5, hasg⟩)
  obtain ⟨t, a1, b1⟩ := kk (T.setVm vm') hT X'
  exact ⟨t, st.trans a1, b1⟩
end Rows
section Ends
variable {p : Program} {l : Launch} {e : Env} {R : Room} {s : State} {m : MethodId} {args : Array Value} {below : List Frame} {meth : Method} {c : Code} {H : Heap} {locs : List Loc} {cells slots : Nat} {Q : State → Prop}
variable {mc ms : Nat} {free : Addr → Prop} {A0 A1 : Nat → Prop} {H0 : Heap} {a : Array Value} {ls : Array Slot} {st0 rest : List Value}
variable {Qc : Array Value → State → Outcome → State → Prop} {XC : String → State → State → Prop}
/-- what a body that may throw owes at its end -/
def vx_MQ (below : List Frame) (Qc : Array Value → State → Outcome → State → Prop) (XC : String → State → State → Prop) (a : Array Value) (s : State) (mc ms : Nat) (free : Addr → Prop) : State → Prop := fun t =>
  ∃ o, t.status = .running ∧ Ended t below o ∧ vx_Q Qc XC mc ms free a s o t
theorem vx_ret {g : JFrame} {mc ms : Nat} (k : W p l e R s m args below meth c H locs cells slots (MQ below Qc args s mc ms free) g) : W p l e R s m args below meth c H locs cells slots (vx_MQ below Qc XC args s mc ms free) g := by
  intro T hT X
  obtain ⟨t, a1, o, b1, b2, b3, b4⟩ := k T hT X
  exact ⟨t, a1, o, b1, b2, Or.inl ⟨b3, b4⟩⟩
/-- not caught here: it goes on to the caller -/
theorem vx_widen {g : JFrame} {q : Addr} {k n : Nat} (h1 : cells ≤ k) (h2 : slots ≤ n) (kk : vx_W p l e R s m args below meth c H locs k n Q g q) : vx_W p l e R s m args below meth c H locs cells slots Q g q := fun T hT X => kk T hT (stand_widen X h1 h2)
theorem vx_out {pc : Nat} {E : String} {ce : Cell} {q : Addr} {mc ms : Nat} (hout : ∀ x ∈ c.exceptionTable.toList, covers x pc = false) (hlocks : meth.locks = false) (hcell : H[q]? = some ce) (hv : ce.vm = .none) (hcl : s.vm.findClass E = some ce.cls)
    (hx : ∀ t : State, t.heap = H → s.vm.Alike t.vm → XC E s t) (hf : ∀ z ∈ locs, free z.base) (hc : cells ≤ mc) (hs : slots ≤ ms) :
    vx_W p l e R s m args below meth c H locs cells slots (vx_MQ below Qc XC args s mc ms free) (F0 m pc ls rest) q := by
  intro T hT X
  obtain ⟨st1, hrun, hend, hW, hsm⟩ := X.leaveThrown q (g := F0 m pc ls rest) rfl rfl rfl hout hlocks
  have hcell9 : (T.setFrames (.throwing q :: below)).heap[q]? = some ce := by
    show T.heap[q]? = some ce
    rw [hT]; exact hcell
  exact ⟨_, st1, .threw q, hrun, hend, Or.inr ⟨q, rfl, E, ce, locs, hx _ hT hW.alike, hcell9, hv, hcl, hW, hsm.mono hc hs, hf⟩⟩
theorem vx_frame {U : State} {k n : Nat} (h : s.sameButNew ({ U with vm := s.vm } : State) locs k n) : s.heap.size ≤ U.heap.size ∧ ∀ q : Nat, q < s.heap.size → (∀ z ∈ locs, z.base ≠ q) → U.heap[q]? = s.heap[q]? := by
  obtain ⟨-, h2, -, -, -, h6⟩ := h
  refine ⟨h2, fun q hq hz => ?_⟩
  obtain ⟨c9, e1, e2, e3, e4⟩ := h6 q _ (Array.getElem?_eq_getElem hq)
  have hs : c9.slots = (s.heap[q]).slots := Array.ext_getElem? fun i => e4 i fun hm => hz _ hm rfl
  have h9 : c9 = s.heap[q] := by
    rw [hs] at e2
    exact e2
  have e5 : U.heap[q]? = some c9 := e1
  rw [e5, h9, Array.getElem?_eq_getElem hq]
/-- the words of a throw but the four that speak of the heap -/
def vx_no (w : Cond) : Bool := decide (w ≠ .isRef (.static Bundle.tN "UNASSIGNED_STACK" Bundle.steD)) && decide (w ≠ .isRef (.static Bundle.tN "SUPPRESSED_SENTINEL" Bundle.listD)) && decide (w ≠ .laysStatic Bundle.tN "UNASSIGNED_STACK" Bundle.steD) && decide (w ≠ .laysStatic Bundle.tN "SUPPRESSED_SENTINEL" Bundle.listD)
def vx_at0 (own : String) (ic : Nat) (X : String) (names : List String) : List Cond := (Bundle.ownAtoms0 own ic X names).filter vx_no
def vx_atS (own : String) (ic : Nat) (X : String) (names : List String) : List Cond := (Bundle.ownAtoms own ic X names).filter vx_no
/-- a word that the tables alone decide, or a good one -/
def vx_ot (w : Cond) : Bool := w.onTables || goodWord w
theorem vx_ot_at {args a' : Array Value} {s U : State} {w : Cond} (hW : s.WarmedH U.vm) (hvm : s.vm = U.vm) (hg : vx_ot w = true) (h : w.before args s = true) : w.before a' U = true := by
  simp only [vx_ot, Bool.or_eq_true] at hg
  rcases hg with hg | hg
  · exact va_tabs hg hvm h
  · exact word_at hW (good_of_word hg) h
/-- a list's words: the good ones out of the method's own list, the others by premises of their own -/
theorem vx_hat {args : Array Value} {s : State} {L B : List Cond} (h1 : ∀ w ∈ L.filter goodWord, w.before args s = true) (h2 : ∀ w ∈ L.filter (fun w => !goodWord w), w ∈ B) (h3 : ∀ w ∈ B, w.before args s = true) : ∀ w ∈ L, w.before args s = true := by
  intro w hw
  by_cases g : goodWord w = true
  · exact h1 w (List.mem_filter.mpr ⟨hw, g⟩)
  · refine h3 w (h2 w (List.mem_filter.mpr ⟨hw, ?_⟩))
    show (!goodWord w) = true
    cases hgw : goodWord w
    · rfl
    · exact absurd hgw g
theorem vx_c {args : Array Value} {s : State} {w : Cond} {B : List Cond} (h : w.before args s = true) (t : ∀ w ∈ B, w.before args s = true) : ∀ w' ∈ w :: B, w'.before args s = true := fun w' h' => (List.mem_cons.mp h').elim (fun e => by rw [e]; exact h) (t w')
theorem vx_n {args : Array Value} {s : State} : ∀ w ∈ ([] : List Cond), w.before args s = true := fun _ h => nomatch h
theorem vx_own {args : Array Value} {s : State} {L : List Cond} (h1 : ∀ w ∈ L.filter vx_no, w.before args s = true)
    (hU : (Cond.isRef (.static Bundle.tN "UNASSIGNED_STACK" Bundle.steD)).before args s = true) (hN : (Cond.isRef (.static Bundle.tN "SUPPRESSED_SENTINEL" Bundle.listD)).before args s = true)
    (lU : (Cond.laysStatic Bundle.tN "UNASSIGNED_STACK" Bundle.steD).before args s = true) (lN : (Cond.laysStatic Bundle.tN "SUPPRESSED_SENTINEL" Bundle.listD).before args s = true) : ∀ w ∈ L, w.before args s = true := by
  intro w hw
  by_cases e1 : w = .isRef (.static Bundle.tN "UNASSIGNED_STACK" Bundle.steD)
  · rw [e1]; exact hU
  · by_cases e2 : w = .isRef (.static Bundle.tN "SUPPRESSED_SENTINEL" Bundle.listD)
    · rw [e2]; exact hN
    · by_cases e3 : w = .laysStatic Bundle.tN "UNASSIGNED_STACK" Bundle.steD
      · rw [e3]; exact lU
      · by_cases e4 : w = .laysStatic Bundle.tN "SUPPRESSED_SENTINEL" Bundle.listD
        · rw [e4]; exact lN
        · exact h1 w (List.mem_filter.mpr ⟨hw, by unfold vx_no; rw [decide_eq_true e1, decide_eq_true e2, decide_eq_true e3, decide_eq_true e4]; rfl⟩)
/-- where a static field lies, its class's statics cell in H -/
def vx_L (C n d : String) (A : Nat → Prop) (U : State) (H : Heap) : Prop := ∃ (c : ClassId) (k : Class) (i : Nat) (f : Field) (a : Nat) (cell : Cell), U.vm.findClass C = some c ∧ U.fieldFound? C n d = some (c, k, i, f) ∧ f.isStatic = true ∧ k.statics = some a ∧ H[a]? = some cell ∧ cell.vm.isStatics = true ∧ cell.cls = c ∧ f.slot < cell.slots.size ∧ k.staticTypes[f.slot]? = some f.type ∧ ¬ A a
theorem vx_L.moved {C n d : String} {A : Nat → Prop} {u U : State} {H : Heap} (hvm : u.vm.Alike U.vm) (h : vx_L C n d A u H) : vx_L C n d A U H := by
  obtain ⟨c, k, i, f, a, cell, h1, h2, h3, h4, h5, h6, h7, h8, h9, h10⟩ := h
  obtain ⟨k', hi', he⟩ := State.fieldFound?_setVm hvm h2
  exact ⟨c, k', i, f, a, cell, by rw [hvm.findClass]; exact h1, hi', h3, by rw [he]; exact h4, h5, h6, h7, h8, by rw [he]; exact h9, h10⟩
theorem vx_L.kept {C n d : String} {A : Nat → Prop} {U : State} {H H1 : Heap} (h : vx_L C n d A U H) (hq : ∀ a : Nat, a < H.size → ¬ A a → H1[a]? = H[a]?) : vx_L C n d A U H1 := by
  obtain ⟨c, k, i, f, a, cell, h1, h2, h3, h4, h5, h6, h7, h8, h9, h10⟩ := h
  exact ⟨c, k, i, f, a, cell, h1, h2, h3, h4, by rw [hq a (Array.getElem?_eq_some_iff.mp h5).1 h10]; exact h5, h6, h7, h8, h9, h10⟩
theorem vx_L.narrow {C n d : String} {A B : Nat → Prop} {U : State} {H : Heap} (h : vx_L C n d A U H) (hAB : ∀ q, B q → A q) : vx_L C n d B U H := by
  obtain ⟨c, k, i, f, a, cell, h1, h2, h3, h4, h5, h6, h7, h8, h9, h10⟩ := h
  exact ⟨c, k, i, f, a, cell, h1, h2, h3, h4, h5, h6, h7, h8, h9, fun z => h10 (hAB _ z)⟩
theorem vx_L.word {C n d : String} {A : Nat → Prop} {s : State} {args : Array Value} (h : vx_L C n d A s s.heap) : (Cond.laysStatic C n d).before args s = true := by
  obtain ⟨c, k, i, f, a, cell, h1, h2, h3, h4, h5, h6, h7, h8, h9, -⟩ := h
  show (Cond.laysStatic C n d).holds args s none s [] = true
  exact Cond.laysStatic_of h1 h2 h3 h4 h5 h6 h7 h8 h9
/-- .. and what it holds: null or some reference -/
def vx_Zq (C n d : String) (A : Nat → Prop) (U : State) (H : Heap) : Prop := va_Zq C n d A U H ∧ vx_L C n d A U H
theorem vx_Zq.moved {C n d : String} {A : Nat → Prop} {u U : State} {H : Heap} (hvm : u.vm.Alike U.vm) (h : vx_Zq C n d A u H) : vx_Zq C n d A U H := ⟨va_Zq.moved hvm h.1, vx_L.moved hvm h.2⟩
theorem vx_Zq.kept {C n d : String} {A : Nat → Prop} {U : State} {H H1 : Heap} (h : vx_Zq C n d A U H) (hq : ∀ a : Nat, a < H.size → ¬ A a → H1[a]? = H[a]?) : vx_Zq C n d A U H1 := ⟨va_Zq.kept h.1 hq, vx_L.kept h.2 hq⟩
theorem vx_Zq.narrow {C n d : String} {A B : Nat → Prop} {U : State} {H : Heap} (h : vx_Zq C n d A U H) (hAB : ∀ q, B q → A q) : vx_Zq C n d B U H := ⟨va_Zq.narrow h.1 hAB, vx_L.narrow h.2 hAB⟩
theorem vx_Zqof {args : Array Value} {s : State} {C n d : String} {A : Nat → Prop} (hl : (Cond.laysStatic C n d).before args s = true) (hini : (Cond.initialized C).before args s = true) (h : (Cond.isRef (.static C n d)).before args s = true) (hA : ∀ a : Nat, a < s.heap.size → ¬ A a) : vx_Zq C n d A s s.heap := by
  refine ⟨va_Zqof hl hini h hA, ?_⟩
  obtain ⟨c, k, i, f, a, cell, h1, h2, h3, h4, h5, h6, h7, h8, h9⟩ := Cond.laysStatic_spec hl
  exact ⟨c, k, i, f, a, cell, h1, h2, h3, h4, h5, h6, h7, h8, h9, hA a (Array.getElem?_eq_some_iff.mp h5).1⟩
theorem vx_isRef {C n d : String} {v : Value} {A : Nat → Prop} {s : State} {args : Array Value} (h : va_Z C n d v A s s.heap) (hv : v.isRef = true) : (Cond.isRef (.static C n d)).before args s = true := by
  obtain ⟨cf, kf, fi, f, a, cell, h1, h2, h3, h4, h5, h6, h7, -⟩ := h
  have he : (Term.static C n d).eval args s none [] s = some v := by
    simp [Term.eval, State.fieldNamed?, h1, h2, h4, h5, h6, h7]
  simp only [Cond.before, Cond.holds, Cond.value, he]
  cases v <;> simp_all [Value.isRef]
theorem vx_isRefq {C n d : String} {A : Nat → Prop} {s : State} {args : Array Value} (h : va_Zq C n d A s s.heap) : (Cond.isRef (.static C n d)).before args s = true := by
  rcases h with h | ⟨t, h⟩
  · exact vx_isRef h rfl
  · exact vx_isRef h rfl
/-- the same frame, seen from here: as if the method were called anew in this heap -/
theorem vx_rebase {T : State} (X : Stand p l e R s m args below meth c T locs cells slots) {R' : Room} (hf : R'.frames ≤ R.frames) (hl : R'.locals ≤ R.locals) (hc : cells + R'.cells ≤ R.cells) (hs : slots + R'.slots ≤ R.slots) :
    Stand p l e R' ((T.setVm s.vm).setFrames (.invoking m args :: below)) m args below meth c T [] 0 0 := by
  have htop : (T.setVm s.vm).topJava?.isSome := X.here.top
  have hF : ((T.setVm s.vm).setFrames (.invoking m args :: below)).frames = .invoking m args :: below := State.frames_setFrames _ (State.cur_lt_of_top htop)
  obtain ⟨g₀, hg0⟩ := Option.isSome_iff_exists.mp htop
  obtain ⟨r, hr⟩ := State.topJava?_eq_some.mp hg0
  have hl9 : e.platform.stackLimits (T.setVm s.vm).me = e.platform.stackLimits s.me := X.limits
  have hb9 : (T.setVm s.vm).me.stackBytes = s.me.stackBytes := X.bytes
  refine ⟨X.admits, X.cas, X.clock, hF, ?_, X.hears, X.method, X.code, X.here, X.tail, X.warmed, ?_, ?_, ?_⟩
  · have h := X.room
    have hU : ((T.setVm s.vm).setFrames (.invoking m args :: below)).localsInUse = s.localsInUse := by
      rw [State.localsInUse_invoking hF (meth := meth) (c := c) X.method X.code, State.localsInUse_invoking X.frames X.method X.code]
    simp only [State.hasRoom, Bool.and_eq_true, decide_eq_true_eq] at h ⊢
    obtain ⟨⟨⟨⟨h1, h2, h3, h4, h5, h6⟩, h7⟩, h8⟩, h9⟩ := h
    rw [X.frames, List.length_cons] at h2 h3
    have q1 := X.heapSize
    have q2 := X.used
    simp only [hF, hU, List.length_cons, State.stackLimits_setFrames, State.stackBytes_setFrames, hl9, hb9]
    refine ⟨⟨⟨⟨by omega, by omega, by omega, by omega, by omega, h6⟩, ?_⟩, ?_⟩, X.book⟩
    · show T.heap.size + R'.cells ≤ e.platform.maxCells
      omega
    · show T.slotsUsed + R'.slots ≤ e.platform.maxSlots
      omega
  · rw [State.stackLimits_setFrames]; rfl
  · rw [State.stackBytes_setFrames]; rfl
  · refine ⟨?_, Nat.le_refl _, Nat.le_refl _, ?_, ?_, fun a c9 h9 => ⟨c9, h9, rfl, rfl, fun _ _ => rfl⟩⟩
    · obtain ⟨t, ht, -⟩ := State.frames_cons hr
      show T.setVm s.vm = { ((T.setVm s.vm).setFrames (.invoking m args :: below)).setFrames (T.setVm s.vm).frames with heap := T.heap, slotsUsed := T.slotsUsed }
      rw [State.setFrames_setFrames, State.setFrames_self ht]
      rfl
    · show T.slotsUsed = T.slotsUsed + ((T.heap.toList.drop T.heap.size).map (·.slots.size)).sum
      rw [List.drop_eq_nil_of_le (Nat.le_of_eq Array.length_toList)]
      rfl
    · show ((T.heap.toList.drop T.heap.size).map (·.slots.size)).sum ≤ 0
      rw [List.drop_eq_nil_of_le (Nat.le_of_eq Array.length_toList)]
      exact Nat.le_refl _
/-- 'throw new E()': new; dup; invokespecial; athrow -/
theorem vx_throw0 {cc : ByteArray} {pc : Nat} (hexec : p.tables.exec = Jvm.exec) (hb : c.code = cc) (hl : l.stackTraces = false) {own cls : String} {names : List String} {ik ic mc ms : Nat} {A : Nat → Prop}
    (hown : s.vm.findClass own = some m.cls) (hcls : Bundle.fit cls = true) (hnames : ∀ n ∈ names, Bundle.fit n = true)
    (hk : (Cond.classLink own ik cls).before args s = true) (hini : (Cond.initialized cls).before args s = true) (hat : ∀ w ∈ vx_at0 own ic cls names, w.before args s = true)
    (hgood : ∀ w ∈ Cond.classLink own ik cls :: Cond.initialized cls :: vx_at0 own ic cls names, vx_ot w = true)
    (hU : vx_Zq Bundle.tN "UNASSIGNED_STACK" Bundle.steD A s s.heap) (hN : vx_Zq Bundle.tN "SUPPRESSED_SENTINEL" Bundle.listD A s s.heap) (hS : va_S A s.heap H locs) (hsize : ls.size = c.maxLocals)
    (d0 : decode cc pc = .ok (.new ik, 3)) (d3 : decode cc (pc + 3) = .ok (.dup, 1)) (d4 : decode cc (pc + 4) = .ok (.invokespecial ic, 3)) (d7 : decode cc (pc + 7) = .ok (.athrow, 1))
    (hout : ∀ x ∈ c.exceptionTable.toList, covers x (pc + 7) = false)
    (hRframes : names.length + 3 < R.frames) (hRlocals : (rest.map fun v => v.category).sum + (13 * (names.length + 1) + 42) ≤ R.locals) (hRcells : cells + 1 ≤ R.cells) (hRslots : slots + 6 ≤ R.slots) (hlocks : meth.locks = false)
    (hx : ∀ t : State, s.vm.Alike t.vm → H.size ≤ t.heap.size → (∀ q : Nat, q < H.size → t.heap[q]? = H[q]?) → XC cls s t)
    (hf : ∀ z ∈ locs, free z.base) (hc : cells + 1 ≤ mc) (hs : slots + 6 ≤ ms) :
    W p l e R s m args below meth c H locs cells slots (vx_MQ below Qc XC args s mc ms free) (F0 m pc ls rest) := by
  intro T hT X
  have htr : e.platform.stackTraces = false := (show e.platform.stackTraces = l.stackTraces by rw [X.admits.platform]).trans hl
  have Y := vx_rebase X (R' := { frames := R.frames, locals := R.locals, cells := 1, slots := 6 }) (Nat.le_refl _) (Nat.le_refl _) hRcells hRslots
  obtain ⟨s', hA⟩ : ∃ z, z = (T.setVm s.vm).setFrames (.invoking m args :: below) := ⟨_, rfl⟩
  rw [← hA] at Y
  have hvm : s'.vm = s.vm := by rw [hA]; rfl
  have hhp : s'.heap = H := by rw [hA]; exact hT
  have hW0 : s.WarmedH s'.vm := by rw [hvm]; exact State.WarmedH.refl s
  have hat' : ∀ w ∈ vx_at0 own ic cls names, w.before args s' = true := fun w hw => vx_ot_at hW0 hvm.symm (hgood w (List.mem_cons_of_mem _ (List.mem_cons_of_mem _ hw))) (hat w hw)
  have hk' : (Cond.classLink own ik cls).before args s' = true := vx_ot_at hW0 hvm.symm (hgood _ List.mem_cons_self) hk
  have hini' : (Cond.initialized cls).before args s' = true := vx_ot_at hW0 hvm.symm (hgood _ (List.mem_cons_of_mem _ List.mem_cons_self)) hini
  have hU' : vx_Zq Bundle.tN "UNASSIGNED_STACK" Bundle.steD A s' s'.heap := by rw [hhp]; exact vx_Zq.moved hW0.alike (hU.kept hS.2.1)
  have hN' : vx_Zq Bundle.tN "SUPPRESSED_SENTINEL" Bundle.listD A s' s'.heap := by rw [hhp]; exact vx_Zq.moved hW0.alike (hN.kept hS.2.1)
  have h : ∀ w ∈ Bundle.ownAtoms0 own ic cls names, w.before args s' = true := vx_own hat' (vx_isRefq hU'.1) (vx_isRefq hN'.1) hU'.2.word hN'.2.word
  have hown' : s'.vm.findClass own = some m.cls := by rw [hvm]; exact hown
  have hins : (Cond.instantiable cls 6).before args s' = true := h _ (by simp [Bundle.ownAtoms0])
  obtain ⟨vm₁, cX, kX, hfX, hkX, -, -, X₁, st1⟩ := Y.newCold hexec (own := own) (C := cls) (index := ik) (n := 6) hown' hk' hins hini'
    (g := F0 m pc ls rest) rfl (by rw [hb]; exact d0) (Nat.le_refl _) (Nat.le_refl _)
  generalize hT1 : (T.setVm vm₁).pushCell { cls := cX, slots := kX.instanceTypes.map defaultValue, vm := .none } = T1 at X₁ st1
  have hcat : (Value.ref T.heap.size).category = 1 := rfl
  have hcellA : T1.heap[T.heap.size]? = some (freshCell cX kX) := by rw [← hT1]; exact State.heap_pushCell_size _ _
  have d3' : decode c.code (pc + 3) = .ok (.dup, 1) := by rw [hb]; exact d3
  obtain ⟨U, hsteps, hrun, hend, hW, hsame, ce, hce, hO⟩ := X₁.ctorThrow0 hexec htr (own := own) (cls := cls) (names := names) (ic := ic) hown' hcls hnames h (fun x hx => nomatch hx) hfX hkX hcellA (by rw [hhp, hT]; exact Nat.le_refl _)
    (g := { method := m, pc := pc + 4, locals := ls, stack := .ref T.heap.size :: .ref T.heap.size :: rest, locked := none }) rfl hsize rfl rfl (rest := rest) rfl
    (by rw [hb]; exact d4) (by rw [hb]; exact d7) hout hRframes (by simp only [List.map_cons, List.sum_cons, hcat]; omega) hlocks
  obtain ⟨f1, f2⟩ := vx_frame hsame
  rw [hhp] at f1 f2
  have hWs : s.WarmedH U.vm := State.WarmedH.trans hW0 hW
  have hcl : s.vm.findClass cls = some ce.cls := by
    have h9 := hO.cls
    rw [hvm] at h9
    exact h9
  have hall : s.sameButNew ({ U with vm := s.vm } : State) locs mc ms := by
    subst hA
    obtain ⟨e1, e2⟩ := hsame
    rw [State.setFrames_setFrames] at e1
    have h2 : (T.setVm s.vm).sameButNew ({ U with vm := s.vm } : State) [] (0 + 1) (0 + 6) := ⟨e1, e2⟩
    have h3 := X.same.trans h2
    rw [List.append_nil] at h3
    exact h3.mono hc hs
  refine ⟨U, ?_, .threw T.heap.size, hrun, hend, Or.inr ⟨T.heap.size, rfl, cls, ce, locs, hx U hWs.alike f1 (fun q hq => f2 q hq (fun z hz => nomatch hz)), hce, hO.vm, hcl, hWs, hall, hf⟩⟩
  refine st1 _ ?_
  show Steps p.tables e below (T1.setTop { method := m, pc := pc + 3, locals := ls, stack := .ref T.heap.size :: rest, locked := none }) _
  jvm_step X₁.here [X₁.here.top, hexec, d3', Value.category]
  exact hsteps
/-- 'throw new E("text")': new; dup; ldc; invokespecial; athrow -/
theorem vx_throwS {cc : ByteArray} {pc : Nat} (hexec : p.tables.exec = Jvm.exec) (hb : c.code = cc) (hl : l.stackTraces = false) {own cls text : String} {names : List String} {ik is ic mc ms sa : Nat} {A : Nat → Prop}
    (hown : s.vm.findClass own = some m.cls) (hcls : Bundle.fit cls = true) (hnames : ∀ n ∈ names, Bundle.fit n = true)
    (hk : (Cond.classLink own ik cls).before args s = true) (hini : (Cond.initialized cls).before args s = true) (hstr : vk_R own is text sa s) (hat : ∀ w ∈ vx_atS own ic cls names, w.before args s = true)
    (hgood : ∀ w ∈ Cond.classLink own ik cls :: Cond.initialized cls :: vx_atS own ic cls names, vx_ot w = true)
    (hU : vx_Zq Bundle.tN "UNASSIGNED_STACK" Bundle.steD A s s.heap) (hN : vx_Zq Bundle.tN "SUPPRESSED_SENTINEL" Bundle.listD A s s.heap) (hS : va_S A s.heap H locs) (hsize : ls.size = c.maxLocals)
    (d0 : decode cc pc = .ok (.new ik, 3)) (d3 : decode cc (pc + 3) = .ok (.dup, 1)) (d4 : decode cc (pc + 4) = .ok (.ldc is, 2)) (d6 : decode cc (pc + 6) = .ok (.invokespecial ic, 3)) (d9 : decode cc (pc + 9) = .ok (.athrow, 1))
    (hout : ∀ x ∈ c.exceptionTable.toList, covers x (pc + 9) = false)
    (hRframes : names.length + 3 < R.frames) (hRlocals : (rest.map fun v => v.category).sum + (13 * (names.length + 1) + 43) ≤ R.locals) (hRcells : cells + 1 ≤ R.cells) (hRslots : slots + 6 ≤ R.slots) (hlocks : meth.locks = false)
    (hx : ∀ t : State, s.vm.Alike t.vm → H.size ≤ t.heap.size → (∀ q : Nat, q < H.size → t.heap[q]? = H[q]?) → XC cls s t)
    (hf : ∀ z ∈ locs, free z.base) (hc : cells + 1 ≤ mc) (hs : slots + 6 ≤ ms) :
    W p l e R s m args below meth c H locs cells slots (vx_MQ below Qc XC args s mc ms free) (F0 m pc ls rest) := by
  intro T hT X
  have htr : e.platform.stackTraces = false := (show e.platform.stackTraces = l.stackTraces by rw [X.admits.platform]).trans hl
  have Y := vx_rebase X (R' := { frames := R.frames, locals := R.locals, cells := 1, slots := 6 }) (Nat.le_refl _) (Nat.le_refl _) hRcells hRslots
  obtain ⟨s', hA⟩ : ∃ z, z = (T.setVm s.vm).setFrames (.invoking m args :: below) := ⟨_, rfl⟩
  rw [← hA] at Y
  have hvm : s'.vm = s.vm := by rw [hA]; rfl
  have hhp : s'.heap = H := by rw [hA]; exact hT
  have hW0 : s.WarmedH s'.vm := by rw [hvm]; exact State.WarmedH.refl s
  have hat' : ∀ w ∈ vx_atS own ic cls names, w.before args s' = true := fun w hw => vx_ot_at hW0 hvm.symm (hgood w (List.mem_cons_of_mem _ (List.mem_cons_of_mem _ hw))) (hat w hw)
  have hk' : (Cond.classLink own ik cls).before args s' = true := vx_ot_at hW0 hvm.symm (hgood _ List.mem_cons_self) hk
  have hini' : (Cond.initialized cls).before args s' = true := vx_ot_at hW0 hvm.symm (hgood _ (List.mem_cons_of_mem _ List.mem_cons_self)) hini
  have hU' : vx_Zq Bundle.tN "UNASSIGNED_STACK" Bundle.steD A s' s'.heap := by rw [hhp]; exact vx_Zq.moved hW0.alike (hU.kept hS.2.1)
  have hN' : vx_Zq Bundle.tN "SUPPRESSED_SENTINEL" Bundle.listD A s' s'.heap := by rw [hhp]; exact vx_Zq.moved hW0.alike (hN.kept hS.2.1)
  have h : ∀ w ∈ Bundle.ownAtoms own ic cls names, w.before args s' = true := vx_own hat' (vx_isRefq hU'.1) (vx_isRefq hN'.1) hU'.2.word hN'.2.word
  have hown' : s'.vm.findClass own = some m.cls := by rw [hvm]; exact hown
  have hins : (Cond.instantiable cls 6).before args s' = true := h _ (by simp [Bundle.ownAtoms])
  obtain ⟨vm₁, cX, kX, hfX, hkX, -, -, X₁, st1⟩ := Y.newCold hexec (own := own) (C := cls) (index := ik) (n := 6) hown' hk' hins hini'
    (g := F0 m pc ls rest) rfl (by rw [hb]; exact d0) (Nat.le_refl _) (Nat.le_refl _)
  generalize hT1 : (T.setVm vm₁).pushCell { cls := cX, slots := kX.instanceTypes.map defaultValue, vm := .none } = T1 at X₁ st1
  have hcat : (Value.ref T.heap.size).category = 1 := rfl
  have hcellA : T1.heap[T.heap.size]? = some (freshCell cX kX) := by rw [← hT1]; exact State.heap_pushCell_size _ _
  have d3' : decode c.code (pc + 3) = .ok (.dup, 1) := by rw [hb]; exact d3
  have d4' : decode c.code (pc + 4) = .ok (.ldc is, 2) := by rw [hb]; exact d4
  have hstr' : vk_R own is text sa s' := vk_R.warm hW0 hstr
  obtain ⟨U, hsteps, hrun, hend, hW, hsame, ce, hce, hO⟩ := X₁.ctorThrowS hexec htr (own := own) (cls := cls) (names := names) (ic := ic) hown' hcls hnames h (fun x hx => nomatch hx) hfX hkX hcellA (by rw [hhp, hT]; exact Nat.le_refl _) (msg := .ref sa) rfl
    (g := { method := m, pc := pc + 6, locals := ls, stack := .ref sa :: .ref T.heap.size :: .ref T.heap.size :: rest, locked := none }) rfl hsize rfl rfl (rest := rest) rfl
    (by rw [hb]; exact d6) (by rw [hb]; exact d9) hout hRframes (by simp only [List.map_cons, List.sum_cons, hcat]; omega) hlocks
  obtain ⟨f1, f2⟩ := vx_frame hsame
  rw [hhp] at f1 f2
  have hWs : s.WarmedH U.vm := State.WarmedH.trans hW0 hW
  have hcl : s.vm.findClass cls = some ce.cls := by
    have h9 := hO.cls
    rw [hvm] at h9
    exact h9
  have hall : s.sameButNew ({ U with vm := s.vm } : State) locs mc ms := by
    subst hA
    obtain ⟨e1, e2⟩ := hsame
    rw [State.setFrames_setFrames] at e1
    have h2 : (T.setVm s.vm).sameButNew ({ U with vm := s.vm } : State) [] (0 + 1) (0 + 6) := ⟨e1, e2⟩
    have h3 := X.same.trans h2
    rw [List.append_nil] at h3
    exact h3.mono hc hs
  refine ⟨U, ?_, .threw T.heap.size, hrun, hend, Or.inr ⟨T.heap.size, rfl, cls, ce, locs, hx U hWs.alike f1 (fun q hq => f2 q hq (fun z hz => nomatch hz)), hce, hO.vm, hcl, hWs, hall, hf⟩⟩
  refine st1 _ ?_
  show Steps p.tables e below (T1.setTop { method := m, pc := pc + 3, locals := ls, stack := .ref T.heap.size :: rest, locked := none }) _
  jvm_step X₁.here [X₁.here.top, hexec, d3', Value.category]
  exact X₁.ldcString hexec (own := own) (text := text) (index := is) (a := sa) hown' hstr'.1 hstr'.2
    (g := { method := m, pc := pc + 4, locals := ls, stack := .ref T.heap.size :: .ref T.heap.size :: rest, locked := none }) rfl d4' _ hsteps
/-- 'throw new E("text")', the text by a wide index -/
theorem vx_throwSW {cc : ByteArray} {pc : Nat} (hexec : p.tables.exec = Jvm.exec) (hb : c.code = cc) (hl : l.stackTraces = false) {own cls text : String} {names : List String} {ik is ic mc ms sa : Nat} {A : Nat → Prop}
    (hown : s.vm.findClass own = some m.cls) (hcls : Bundle.fit cls = true) (hnames : ∀ n ∈ names, Bundle.fit n = true)
    (hk : (Cond.classLink own ik cls).before args s = true) (hini : (Cond.initialized cls).before args s = true) (hstr : vk_R own is text sa s) (hat : ∀ w ∈ vx_atS own ic cls names, w.before args s = true)
    (hgood : ∀ w ∈ Cond.classLink own ik cls :: Cond.initialized cls :: vx_atS own ic cls names, vx_ot w = true)
    (hU : vx_Zq Bundle.tN "UNASSIGNED_STACK" Bundle.steD A s s.heap) (hN : vx_Zq Bundle.tN "SUPPRESSED_SENTINEL" Bundle.listD A s s.heap) (hS : va_S A s.heap H locs) (hsize : ls.size = c.maxLocals)
    (d0 : decode cc pc = .ok (.new ik, 3)) (d3 : decode cc (pc + 3) = .ok (.dup, 1)) (d4 : decode cc (pc + 4) = .ok (.ldc_w is, 3)) (d7 : decode cc (pc + 7) = .ok (.invokespecial ic, 3)) (d10 : decode cc (pc + 10) = .ok (.athrow, 1))
    (hout : ∀ x ∈ c.exceptionTable.toList, covers x (pc + 10) = false)
    (hRframes : names.length + 3 < R.frames) (hRlocals : (rest.map fun v => v.category).sum + (13 * (names.length + 1) + 43) ≤ R.locals) (hRcells : cells + 1 ≤ R.cells) (hRslots : slots + 6 ≤ R.slots) (hlocks : meth.locks = false)
    (hx : ∀ t : State, s.vm.Alike t.vm → H.size ≤ t.heap.size → (∀ q : Nat, q < H.size → t.heap[q]? = H[q]?) → XC cls s t)
    (hf : ∀ z ∈ locs, free z.base) (hc : cells + 1 ≤ mc) (hs : slots + 6 ≤ ms) :
    W p l e R s m args below meth c H locs cells slots (vx_MQ below Qc XC args s mc ms free) (F0 m pc ls rest) := by
  intro T hT X
  have htr : e.platform.stackTraces = false := (show e.platform.stackTraces = l.stackTraces by rw [X.admits.platform]).trans hl
  have Y := vx_rebase X (R' := { frames := R.frames, locals := R.locals, cells := 1, slots := 6 }) (Nat.le_refl _) (Nat.le_refl _) hRcells hRslots
  obtain ⟨s', hA⟩ : ∃ z, z = (T.setVm s.vm).setFrames (.invoking m args :: below) := ⟨_, rfl⟩
  rw [← hA] at Y
  have hvm : s'.vm = s.vm := by rw [hA]; rfl
  have hhp : s'.heap = H := by rw [hA]; exact hT
  have hW0 : s.WarmedH s'.vm := by rw [hvm]; exact State.WarmedH.refl s
  have hat' : ∀ w ∈ vx_atS own ic cls names, w.before args s' = true := fun w hw => vx_ot_at hW0 hvm.symm (hgood w (List.mem_cons_of_mem _ (List.mem_cons_of_mem _ hw))) (hat w hw)
  have hk' : (Cond.classLink own ik cls).before args s' = true := vx_ot_at hW0 hvm.symm (hgood _ List.mem_cons_self) hk
  have hini' : (Cond.initialized cls).before args s' = true := vx_ot_at hW0 hvm.symm (hgood _ (List.mem_cons_of_mem _ List.mem_cons_self)) hini
  have hU' : vx_Zq Bundle.tN "UNASSIGNED_STACK" Bundle.steD A s' s'.heap := by rw [hhp]; exact vx_Zq.moved hW0.alike (hU.kept hS.2.1)
  have hN' : vx_Zq Bundle.tN "SUPPRESSED_SENTINEL" Bundle.listD A s' s'.heap := by rw [hhp]; exact vx_Zq.moved hW0.alike (hN.kept hS.2.1)
  have h : ∀ w ∈ Bundle.ownAtoms own ic cls names, w.before args s' = true := vx_own hat' (vx_isRefq hU'.1) (vx_isRefq hN'.1) hU'.2.word hN'.2.word
  have hown' : s'.vm.findClass own = some m.cls := by rw [hvm]; exact hown
  have hins : (Cond.instantiable cls 6).before args s' = true := h _ (by simp [Bundle.ownAtoms])
  obtain ⟨vm₁, cX, kX, hfX, hkX, -, -, X₁, st1⟩ := Y.newCold hexec (own := own) (C := cls) (index := ik) (n := 6) hown' hk' hins hini'
    (g := F0 m pc ls rest) rfl (by rw [hb]; exact d0) (Nat.le_refl _) (Nat.le_refl _)
  generalize hT1 : (T.setVm vm₁).pushCell { cls := cX, slots := kX.instanceTypes.map defaultValue, vm := .none } = T1 at X₁ st1
  have hcat : (Value.ref T.heap.size).category = 1 := rfl
  have hcellA : T1.heap[T.heap.size]? = some (freshCell cX kX) := by rw [← hT1]; exact State.heap_pushCell_size _ _
  have d3' : decode c.code (pc + 3) = .ok (.dup, 1) := by rw [hb]; exact d3
  have d4' : decode c.code (pc + 4) = .ok (.ldc_w is, 3) := by rw [hb]; exact d4
  have hstr' : vk_R own is text sa s' := vk_R.warm hW0 hstr
  obtain ⟨U, hsteps, hrun, hend, hW, hsame, ce, hce, hO⟩ := X₁.ctorThrowS hexec htr (own := own) (cls := cls) (names := names) (ic := ic) hown' hcls hnames h (fun x hx => nomatch hx) hfX hkX hcellA (by rw [hhp, hT]; exact Nat.le_refl _) (msg := .ref sa) rfl
    (g := { method := m, pc := pc + 7, locals := ls, stack := .ref sa :: .ref T.heap.size :: .ref T.heap.size :: rest, locked := none }) rfl hsize rfl rfl (rest := rest) rfl
    (by rw [hb]; exact d7) (by rw [hb]; exact d10) hout hRframes (by simp only [List.map_cons, List.sum_cons, hcat]; omega) hlocks
  obtain ⟨f1, f2⟩ := vx_frame hsame
  rw [hhp] at f1 f2
  have hWs : s.WarmedH U.vm := State.WarmedH.trans hW0 hW
  have hcl : s.vm.findClass cls = some ce.cls := by
    have h9 := hO.cls
    rw [hvm] at h9
    exact h9
  have hall : s.sameButNew ({ U with vm := s.vm } : State) locs mc ms := by
    subst hA
    obtain ⟨e1, e2⟩ := hsame
    rw [State.setFrames_setFrames] at e1
    have h2 : (T.setVm s.vm).sameButNew ({ U with vm := s.vm } : State) [] (0 + 1) (0 + 6) := ⟨e1, e2⟩
    have h3 := X.same.trans h2
    rw [List.append_nil] at h3
    exact h3.mono hc hs
  refine ⟨U, ?_, .threw T.heap.size, hrun, hend, Or.inr ⟨T.heap.size, rfl, cls, ce, locs, hx U hWs.alike f1 (fun q hq => f2 q hq (fun z hz => nomatch hz)), hce, hO.vm, hcl, hWs, hall, hf⟩⟩
  refine st1 _ ?_
  show Steps p.tables e below (T1.setTop { method := m, pc := pc + 3, locals := ls, stack := .ref T.heap.size :: rest, locked := none }) _
  jvm_step X₁.here [X₁.here.top, hexec, d3', Value.category]
  exact X₁.ldcStringW hexec (own := own) (text := text) (index := is) (a := sa) hown' hstr'.1 hstr'.2
    (g := { method := m, pc := pc + 4, locals := ls, stack := .ref T.heap.size :: .ref T.heap.size :: rest, locked := none }) rfl d4' _ hsteps
end Ends
section Bodies
variable {l : Launch}
theorem vx_ofW {y : MethodName} {ws ws' : List Cond} {rm : Room} {Pc : Array Value → State → Prop} {Qc : Array Value → State → Outcome → State → Prop} {XC : String → State → State → Prop} {mc ms : Nat} {free : Addr → Prop} {cc : ByteArray} {maxL : Nat} {ret : Option FieldType}
    (hy : plainName y.cls = true) (hw : ws = Cond.code y cc maxL ret :: ws')
    (body : ∀ p e s m args below meth c s₁, BodyLoose p l y (headSpec ws rm) cc maxL ret e s m args below meth c s₁ → c.maxLocals = maxL → (∀ x ∈ c.exceptionTable.toList, False) → Pc args s →
      W p l e (headSpec ws rm).room s m args below meth c s.heap [] 0 0 (vx_MQ below Qc XC args s mc ms free) (entryFrame m args maxL)) : vx_Met l y ws rm Pc Qc XC mc ms free := by
  refine MetFree.of_bodyS (code := cc) (maxLocals := maxL) (ret := ret) hy ?_ ?_
  · intro args s m h hn
    obtain ⟨meth, c, h1, h2, h3, h4, h5, h6, -, -⟩ := Cond.code_spec hn (atoms_spec (ws := ws) h _ (by rw [hw]; exact List.mem_cons_self))
    exact ⟨meth, c, h1, h2, h3, h4, h5, h6⟩
  · intro p e s m args below meth c s₁ B hml hP _
    have hh0 : s₁.heap = s.heap := by rw [B.state]; rfl
    have ht : ∀ x ∈ c.exceptionTable.toList, False := by
      obtain ⟨meth9, c9, h1, h2, -, -, -, -, h7, -⟩ := Cond.code_spec B.named (atoms_spec (ws := ws) B.pre _ (by rw [hw]; exact List.mem_cons_self))
      cases Option.some.inj (h1.symm.trans B.method)
      cases Option.some.inj (h2.symm.trans (Stand.of_body B).code)
      intro x hx
      rw [Array.isEmpty_iff.mp h7] at hx
      cases hx
    obtain ⟨t, a1, o, b1, b2, b3⟩ := body p e s m args below meth c s₁ B hml ht hP s₁ hh0 (Stand.of_body B)
    exact ⟨t, o, a1, b1, b2, b3⟩
/-- the table of a body with handlers -/
theorem vx_table {p : Program} {x y : MethodName} {S : Spec} {cc bytes : ByteArray} {maxL maxL' : Nat} {ret ret' : Option FieldType} {e : Env} {s s₁ : State} {m : MethodId} {args : Array Value} {below : List Frame} {meth : Method} {c : Code} {hh : List (Nat × Nat × Nat × Nat)}
    (B : BodyLoose p l y S cc maxL ret e s m args below meth c s₁) (h : (Cond.codeWith y bytes maxL' ret' hh).before args s = true) : c.exceptionTable.toList = tableOf hh := by
  obtain ⟨m9, meth9, c9, hn9, h1, h2, -, -, h6, -⟩ := Cond.codeWith_spec h
  cases Option.some.inj (hn9.symm.trans B.named)
  cases Option.some.inj (h1.symm.trans B.method)
  cases Option.some.inj (h2.symm.trans (Stand.of_body B).code)
  rw [← h6, table_eq]
end Bodies
end VXA
/-! ===== END ===== -/
/-! ===== BEGIN a static call of a method with an exception table ===== -/
section VXS
variable {p : Program} {l : Launch} {e : Env} {R : Room} {s : State} {m : MethodId} {args : Array Value} {below : List Frame} {meth : Method} {c : Code} {T : State} {H : Heap} {locs : List Loc} {cells slots : Nat}
abbrev vx_CSW (R : Room) (s : State) (args : Array Value) (own : String) (index : Nat) (y : MethodName) (bytes : ByteArray) (maxL : Nat) (ret : Option FieldType) (hh : List (Nat × Nat × Nat × Nat)) (ws : List Cond) (rm : Room) (mc ms n : Nat) : Prop :=
  (rm.cells = mc ∧ rm.slots = ms ∧ rm.frames + 1 ≤ R.frames ∧ 8 + (maxL + 11) + rm.locals ≤ R.locals ∧ (∀ w ∈ ws, ∀ (a' : Array Value) (U : State), s.WarmedH U.vm → w.before a' U = true) ∧ Cond.codeWith y bytes maxL ret hh ∈ ws) ∧
  (Cond.codeWith y bytes maxL ret hh).before args s = true ∧ (Cond.initialized y.cls).before args s = true ∧ (y.cls ≠ "java/lang/invoke/MethodHandle" ∧ y.cls ≠ "java/lang/invoke/VarHandle") ∧
  (∀ sig, parseMethodDescriptor y.desc = some sig → n = sig.parameters.length) ∧ (Cond.methodLink own index y).before args s = true ∧ (Cond.static y).before args s = true
theorem vx_cwSW {own : String} {index maxL mc ms : Nat} {y : MethodName} {bytes : ByteArray} {ret : Option FieldType} {hh : List (Nat × Nat × Nat × Nat)} {Ts ws ws' : List Cond} {rm : Room} (n : Nat) (ht : ∀ w ∈ Ts, w.before args s = true) (hT : GoodIn Ts (va_wsS own index y ws)) (hw : ws = Cond.codeWith y bytes maxL ret hh :: ws') (hrc : rm.cells = mc) (hrs : rm.slots = ms)
    (hd : y.cls ≠ "java/lang/invoke/MethodHandle" ∧ y.cls ≠ "java/lang/invoke/VarHandle" ∧ (parseMethodDescriptor y.desc).map (fun d => d.parameters.length) = some n) (hR : rm.frames + 1 ≤ R.frames ∧ 8 + (maxL + 11) + rm.locals ≤ R.locals) :
    vx_CSW R s args own index y bytes maxL ret hh ws rm mc ms n := by
  have ok : ∀ w ∈ va_wsS own index y ws, w.before args s = true := fun w h => ht w (hT w h).1
  have hG : GoodIn Ts ws := fun w h => hT w (by unfold va_wsS; exact List.mem_append_right _ h)
  have hc : Cond.codeWith y bytes maxL ret hh ∈ ws := by rw [hw]; exact List.mem_cons_self
  refine ⟨⟨hrc, hrs, hR.1, hR.2, pay_in ht hG, hc⟩, ht _ (hG _ hc).1, ok _ (by simp [va_wsS]), ⟨hd.1, hd.2.1⟩, fun sig h => ?_, ok _ (by simp [va_wsS]), ok _ (by simp [va_wsS])⟩
  have h2 := hd.2.2
  rw [h] at h2
  exact (Option.some.inj h2).symm
theorem vx_callSW (X : Stand p l e R s m args below meth c T locs cells slots) (hexec : p.tables.exec = Jvm.exec) {own : String} {index : Nat} {y : MethodName} {bytes : ByteArray} {maxL : Nat} {ret : Option FieldType} {hh : List (Nat × Nat × Nat × Nat)}
    (hown : s.vm.findClass own = some m.cls) (hlink : (Cond.methodLink own index y).before args s = true) (hstat : (Cond.static y).before args s = true) (hinit : (Cond.initialized y.cls).before args s = true)
    (hcode : (Cond.codeWith y bytes maxL ret hh).before args s = true) (hy : y.cls ≠ "java/lang/invoke/MethodHandle" ∧ y.cls ≠ "java/lang/invoke/VarHandle")
    {W9 : Nat} {Pre : Pt → Array Value → Prop} {Post : Pt → Array Value → Option Value → Pt → Prop} (hK : Back l R p e below s args y 3 W9 Pre Post)
    {g : JFrame} (hg : g.method = m) (hsize : g.locals.size = c.maxLocals) {argsL rest : List Value} (hlen : ∀ sig, parseMethodDescriptor y.desc = some sig → argsL.length = sig.parameters.length)
    (hstack : g.stack = argsL.reverse ++ rest) (hW : 2 * g.monitorRoom + (rest.map fun v => v.category).sum ≤ W9) (hdg : decode c.code g.pc = .ok (.invokestatic index, 3))
    (hpre : ∀ vm₁, s.WarmedH vm₁ → Pre ⟨T.setVm vm₁, locs, cells, slots⟩ argsL.toArray) :
    ∃ (v : Option Value) (vm₁ : Vm) (B : Pt), s.WarmedH vm₁ ∧ Stand p l e R s m args below meth c B.U B.locs B.cells B.slots ∧ Post ⟨T.setVm vm₁, locs, cells, slots⟩ argsL.toArray v B ∧
      ∀ target, Steps p.tables e below (B.U.setTop { g with pc := g.pc + 3, stack := v.toList ++ rest }) target → Steps p.tables e below (T.setTop g) target := by
  obtain ⟨mk, methM, cM, hnamed, hmethM, -, -, -, -, -, -, hsigM⟩ := Cond.codeWith_spec hcode
  have hstatic : methM.isStatic = true := Cond.static_spec hnamed hmethM hstat
  obtain ⟨kP, hkP, -⟩ := className_of_methodNamed hnamed
  have hinitP : kP.init = .initialized := Cond.initialized_spec (findClass_of_methodNamed hnamed) hkP hinit
  obtain ⟨vm₁, X₁, hstep₁⟩ := X.invokestatic hexec hown hlink hnamed hmethM hstatic hkP hinitP hy (g := g) hg (argsL := argsL) (rest := rest) (hlen _ hsigM) hstack hdg
  obtain ⟨v, B, X', hpost, hsteps⟩ := hK m meth c ⟨T.setVm vm₁, locs, cells, slots⟩ { g with stack := rest } (.invokestatic index) mk argsL.toArray X₁ hg hsize hdg hW (X₁.named hnamed) (hpre vm₁ X₁.warmed)
  exact ⟨v, vm₁, B, X₁.warmed, X', hpost, fun target h => hstep₁ _ fun acts => by rw [doInvoke_state]; exact hsteps.trans h⟩
theorem vx_runSW {y : MethodName} {bytes cc : ByteArray} {maxL nL mc ms n index : Nat} {ret : Option FieldType} {hh : List (Nat × Nat × Nat × Nat)} {ws : List Cond} {rm : Room} {Pc : Array Value → State → Prop} {Qc : Array Value → State → Outcome → State → Prop} {free : Addr → Prop} {Ts : List Cond} {own : String} {As rest : List Value} {g : JFrame}
    (S : CallFix p m c cc nL s args Ts own) (hM : Met l y ws rm Pc Qc mc ms free) (cw : vx_CSW R s args own index y bytes maxL ret hh ws rm mc ms n) (hp : PreS s H Pc As)
    (hg : g.method = m) (hn : As.length = n) (hsize : g.locals.size = nL) (hstack : g.stack = As.reverse ++ rest) (hW : 2 * g.monitorRoom + (rest.map fun v => v.category).sum ≤ 8) (hdg : decode cc g.pc = .ok (.invokestatic index, 3)) (hf : cells + mc ≤ R.cells ∧ slots + ms ≤ R.slots) :
    va_Run p l e R s m args below meth c H locs cells slots mc ms g rest (Qc As.toArray) (free) := by
  obtain ⟨⟨hrc, hrs, hfr, hlo, hws, hcw⟩, hcode, hini, hy, hlen, hl, hstt⟩ := cw
  have hK : Back l R p e below s args y 3 8 (PreOf R mc ms Pc) (PostOf Qc mc ms free) := va_backW (hh := hh) (bytes := bytes) (maxL := maxL) (ret := ret) hM hp.1 hrc hrs hfr hlo hws hcw (fun a' U hW => word_at hW (Or.inl (by first | rfl | simp [Cond.onTables, Cond.keeps, Cond.steady])) hini)
  obtain ⟨hx, hb, hml, ho, -⟩ := S
  intro T hT X
  obtain ⟨v, vm₁, ⟨U', l2, c2, s2⟩, hW₁, X', ⟨g', mk, t, L, e1, e2, hq, h1, hL, h2, h3⟩, st⟩ := vx_callSW X hx (hh := hh) (bytes := bytes) (maxL := maxL) (ret := ret) ho hl hstt hini hcode hy hK hg (hsize.trans hml.symm) (argsL := As) (rest := rest) (fun sig h => hn.trans (hlen sig h)) hstack hW (by rw [hb]; exact hdg)
    (fun vm₁ hW₁ => ⟨hf.1, hf.2, hp.2 (T.setVm vm₁) hT hW₁⟩)
  dsimp only [Pt.U, Pt.locs, Pt.cells, Pt.slots] at X' e1 e2 h1 h2 h3 st
  subst h1; subst h2; subst h3
  exact ⟨v, (T.setVm vm₁).calling g' mk As.toArray, t, U', L, hT, X', hL, e1, e2, hq, st⟩
/-- not caught here, past rows that name other classes: it goes on to the caller -/
theorem vx_outP {p : Program} {l : Launch} {e : Env} {R : Room} {s : State} {m : MethodId} {args : Array Value} {below : List Frame} {meth : Method} {c : Code} {H : Heap} {locs : List Loc} {cells slots : Nat} {free : Addr → Prop} {ls : Array Slot} {rest : List Value} {Qc : Array Value → State → Outcome → State → Prop} {XC : String → State → State → Prop}
    {pc : Nat} {own E : String} {ce : Cell} {q : Addr} {mc ms : Nat} (hown : s.vm.findClass own = some m.cls) (hlocks : meth.locks = false)
    (hpass : ∀ z ∈ c.exceptionTable.toList, covers z pc = false ∨ (z.catchType ≠ 0 ∧ ∃ nm : String, (Cond.classLink own z.catchType nm).before args s = true ∧ va_Nc E nm s)) (hcell : H[q]? = some ce) (hv : ce.vm = .none) (hcl : s.vm.findClass E = some ce.cls)
    (hx : ∀ t : State, t.heap = H → s.vm.Alike t.vm → XC E s t) (hf : ∀ z ∈ locs, free z.base) (hc : cells ≤ mc) (hs : slots ≤ ms) :
    vx_W p l e R s m args below meth c H locs cells slots (vx_MQ below Qc XC args s mc ms free) (F0 m pc ls rest) q := by
  intro T hT X
  have hpl : e.platform.magicAccessors = ({} : Platform).magicAccessors := by rw [X.admits.platform]
  obtain ⟨vm', hW', X', st⟩ := X.outThrough hlocks q (g := F0 m pc ls rest) rfl rfl rfl (cell := ce) (by rw [hT]; exact hcell) (by rw [hv]; rfl)
    (by obtain ⟨k9, h9, -⟩ := Vm.findClass_spec hcl; exact ⟨k9, h9⟩) (fun z hz => by
      rcases hpass z hz with h | ⟨hz0, nm, hl1, hn1⟩
      · exact Or.inl h
      · obtain ⟨c6, hc6, hcl6⟩ := Cond.classLink_spec hown hl1 e.platform hpl
        obtain ⟨a8, b8, h1, h2, h3⟩ := hn1
        cases Option.some.inj (h1.symm.trans hcl)
        cases Option.some.inj (h2.symm.trans hc6)
        exact Or.inr ⟨hz0, _, hcl6, h3⟩)
  obtain ⟨g₀, hfr⟩ := X'.frames_eq
  have hcell9 : ((T.setVm vm').setFrames (.throwing q :: below)).heap[q]? = some ce := by
    show T.heap[q]? = some ce
    rw [hT]; exact hcell
  have hend : Ended ((T.setVm vm').setFrames (.throwing q :: below)) below (.threw q) := State.frames_setFrames _ (State.cur_lt_of_frames hfr)
  refine ⟨(T.setVm vm').setFrames (.throwing q :: below), ?_, .threw q, X'.here.running, hend, Or.inr ⟨q, rfl, E, ce, locs, hx _ hT (X'.ends _).1.alike, hcell9, hv, hcl, (X'.ends _).1, (X'.ends _).2.mono hc hs, hf⟩⟩
  rw [X.pushThrowing_eq]
  exact st
/-- a thing of a world lies in the heap -/
theorem vx_lt {D : va_G} {cl : List vw_C} {ws : va_W} {H1 : Heap} (h : va_P D cl ws H1) {k : Nat} {q : Nat × va_E} (hk : ws[k]? = some q) : q.1 < H1.size := (h k q hk).lt
end VXS
/-! ===== END ===== -/
/-! ===== BEGIN methods with a table of their own: called by a name, returning or throwing ===== -/
section VXH
/-! vx_backW, vx_callVX, vx_callSX, vx_callVW, vx_runVW, vx_runVX, vx_runSX, vx_ofWH follow the same proofs as their sisters above (Free/Laws.lean, Shelf42/LK1.lean); vx_outP calls Shelf42/NT130.lean (outThrough). -/
section
variable {l : Launch} {R : Room} {p : Program} {e : Env} {below : List Frame} {s : State} {sargs : Array Value} {y : MethodName} {len W9 : Nat}
theorem vx_backW {ws : List Cond} {rm : Room} {Pc : Array Value → State → Prop} {Qc : Array Value → State → Outcome → State → Prop} {XC : String → State → State → Prop} {mc ms : Nat} {free : Addr → Prop} {bytes : ByteArray} {maxL : Nat} {ret : Option FieldType} {hh : List (Nat × Nat × Nat × Nat)}
    (hM : vx_Met l y ws rm Pc Qc XC mc ms free) (hblind : FrameBlind Pc) (hrc : rm.cells = mc) (hrs : rm.slots = ms)
    (hframes : rm.frames + 1 ≤ R.frames) (hlocals : W9 + (maxL + 11) + rm.locals ≤ R.locals)
    (hws : ∀ w ∈ ws, ∀ a' U, s.WarmedH U.vm → w.before a' U = true) (hcode : Cond.codeWith y bytes maxL ret hh ∈ ws) (hinit : ∀ a' U, s.WarmedH U.vm → (Cond.initialized y.cls).before a' U = true) :
    vx_Back l R p e below s sargs y len W9 (PreOf R mc ms Pc) (PostOf Qc mc ms free) (vx_Post XC mc ms free) := by
  intro m meth c A g ig mk a X hg hsize hdg hW hn hp
  have h1 : (headSpec ws rm).pre.before a A.U = true := atoms_intro fun w hw => hws w hw _ _ X.warmed
  have h2 : (Cond.codeWith y bytes maxL ret hh).before a A.U = true := hws _ hcode _ _ X.warmed
  have h3 : (Cond.initialized y.cls).before a A.U = true := hinit _ _ X.warmed
  have h4 : A.cells + (headSpec ws rm).room.cells ≤ R.cells := by rw [show (headSpec ws rm).room.cells = mc from hrc]; exact hp.1
  have h5 : A.slots + (headSpec ws rm).room.slots ≤ R.slots := by rw [show (headSpec ws rm).room.slots = ms from hrs]; exact hp.2.1
  have hPc : Pc a (A.U.calling g mk a) := hblind _ _ _ _ hp.2.2
  obtain ⟨U, Ls, c0, s0⟩ := A
  dsimp only [Pt.U, Pt.locs, Pt.cells, Pt.slots] at h1 h2 h3 h4 h5 X hn hPc ⊢
  obtain ⟨m9, methY, cY, hn9, hmY, hcY, -, hlY, -⟩ := Cond.codeWith_spec h2
  cases Option.some.inj (hn9.symm.trans hn)
  obtain ⟨kY, hkY, -⟩ := className_of_methodNamed hn
  have hinitY : kY.init = .initialized := Cond.initialized_spec (findClass_of_methodNamed hn) hkY h3
  have h : At U g.method c below := by rw [hg]; exact X.here
  have hlocals9 : W9 + (maxL + 11) + (headSpec ws rm).room.locals ≤ R.locals := hlocals
  have happ : (headSpec ws rm).appliesLoose y e.platform (U.calling g mk a) = true :=
    Spec.appliesLoose_calling (g := g) h hdg hn hkY hinitY
      (X.room_calling (g := g) (R' := (headSpec ws rm).room) hsize hmY hcY hframes (by rw [hlY]; omega) h4 h5) h1
  obtain ⟨mid, hmid⟩ := h.above
  have hfr : (U.setTop g).frames = (.java g :: mid) ++ below := by rw [State.frames_setTop' g h.top, hmid]; rfl
  obtain ⟨o, s₂, hsteps, -, hend, hq⟩ := Steps.callFree hM p X.admits X.cas X.clock (acts := []) hfr happ hPc trivial
  have hq' : vx_Q Qc XC mc ms free a (U.calling g mk a) o s₂ := hq
  rw [State.frames_setTop' g h.top] at hend
  obtain ⟨g₀, hg0⟩ := Option.isSome_iff_exists.mp h.top
  obtain ⟨r, hr⟩ := State.topJava?_eq_some.mp hg0
  have hr' : (({ U with heap := s₂.heap, slotsUsed := s₂.slotsUsed } : State).setVm s₂.vm).frames = .java g₀ :: r := hr
  rcases hq' with ⟨hqc, L, hfe, hL⟩ | ⟨q, rfl, E, ce, L, hx, hce, hcv, hcl, hW₂, hsm, hL⟩
  · obtain ⟨⟨v, rfl⟩, hW₂, e2, q2, q3, q4, q5, q6⟩ := id hfe
    have e3 : s₂ = ({ (U.calling g mk a).setFrames s₂.frames with heap := s₂.heap, slotsUsed := s₂.slotsUsed } : State).setVm s₂.vm := by
      have : s₂ = ({ s₂ with vm := (U.calling g mk a).vm } : State).setVm s₂.vm := rfl
      rw [e2] at this
      exact this
    obtain ⟨c₂, i₂, len₂, hc₂, hd₂, hf₂⟩ := hend
    have hW' : U.WarmedH s₂.vm := hW₂
    have hcc : c₂ = c := by
      have h1 : s₂.code? g.method = U.code? g.method := by
        rw [State.code?_eq, State.code?_eq, hW'.alike.method?]
      exact Option.some.inj (hc₂.symm.trans (h1.trans h.code))
    subst hcc
    have hlen : len₂ = len := by rw [hdg] at hd₂; cases hd₂; rfl
    subst hlen
    have hs₂ : s₂ = (({ U with heap := s₂.heap, slotsUsed := s₂.slotsUsed } : State).setVm s₂.vm).setTop { g with pc := g.pc + len₂, stack := v.toList ++ g.stack } := by
      refine e3.trans ?_
      rw [hf₂, State.calling_eq h.top, State.setFrames_setFrames, State.setTop_of_frames _ hr', hr]
      rfl
    have hsame : U.sameButNew ({ U with heap := s₂.heap, slotsUsed := s₂.slotsUsed } : State) L mc ms := by
      refine ⟨?_, q2, q3, q4, q5, q6⟩
      obtain ⟨t, ht, -⟩ := State.frames_cons hr
      show ({ U with heap := s₂.heap, slotsUsed := s₂.slotsUsed } : State) = { U.setFrames U.frames with heap := s₂.heap, slotsUsed := s₂.slotsUsed }
      rw [State.setFrames_self ht]
    subst hg
    refine Or.inl ⟨v, ⟨(({ U with heap := s₂.heap, slotsUsed := s₂.slotsUsed } : State).setVm s₂.vm), Ls ++ L, c0 + mc, s0 + ms⟩,
      ⟨X.admits, X.cas, X.clock, X.frames, X.room, X.hears, X.method, X.code, (X.here.setHeapUsed s₂.heap s₂.slotsUsed).setVm hW'.alike, X.tail, State.WarmedH.trans X.warmed hW', X.limits, X.bytes, X.same.trans (hsame.setVm s.vm)⟩,
      ⟨g, mk, s₂, L, rfl, rfl, hqc, rfl, hL, rfl, rfl⟩, ?_⟩
    show Steps p.tables e below _ ((({ U with heap := s₂.heap, slotsUsed := s₂.slotsUsed } : State).setVm s₂.vm).setTop { g with pc := g.pc + len₂, stack := v.toList ++ g.stack })
    rw [← hs₂]
    exact hsteps
  · obtain ⟨e2, q2, q3, q4, q5, q6⟩ := id hsm
    have e3 : s₂ = ({ (U.calling g mk a).setFrames s₂.frames with heap := s₂.heap, slotsUsed := s₂.slotsUsed } : State).setVm s₂.vm := by
      have : s₂ = ({ s₂ with vm := (U.calling g mk a).vm } : State).setVm s₂.vm := rfl
      rw [e2] at this
      exact this
    have hf₂ : s₂.frames = .throwing q :: .java g :: U.frames.tail := hend
    have hW' : U.WarmedH s₂.vm := hW₂
    have hs₂ : s₂ = ((({ U with heap := s₂.heap, slotsUsed := s₂.slotsUsed } : State).setVm s₂.vm).setTop g).pushFrame (.throwing q) := by
      refine e3.trans ?_
      rw [hf₂, State.calling_eq h.top, State.setFrames_setFrames, State.pushFrame, State.frames_setTop _ hr', State.setTop_of_frames _ hr', State.setFrames_setFrames, hr]
      rfl
    have hsame : U.sameButNew ({ U with heap := s₂.heap, slotsUsed := s₂.slotsUsed } : State) L mc ms := by
      refine ⟨?_, q2, q3, q4, q5, q6⟩
      obtain ⟨t, ht, -⟩ := State.frames_cons hr
      show ({ U with heap := s₂.heap, slotsUsed := s₂.slotsUsed } : State) = { U.setFrames U.frames with heap := s₂.heap, slotsUsed := s₂.slotsUsed }
      rw [State.setFrames_self ht]
    subst hg
    refine Or.inr ⟨q, ⟨(({ U with heap := s₂.heap, slotsUsed := s₂.slotsUsed } : State).setVm s₂.vm), Ls ++ L, c0 + mc, s0 + ms⟩,
      ⟨X.admits, X.cas, X.clock, X.frames, X.room, X.hears, X.method, X.code, (X.here.setHeapUsed s₂.heap s₂.slotsUsed).setVm hW'.alike, X.tail, State.WarmedH.trans X.warmed hW', X.limits, X.bytes, X.same.trans (hsame.setVm s.vm)⟩,
      ⟨g, mk, s₂, L, E, ce, rfl, rfl, hx, hce, hcv, hcl, rfl, hL, rfl, rfl⟩, ?_⟩
    show Steps p.tables e below _ (((({ U with heap := s₂.heap, slotsUsed := s₂.slotsUsed } : State).setVm s₂.vm).setTop g).pushFrame (.throwing q))
    rw [← hs₂]
    exact hsteps
end
variable {p : Program} {l : Launch} {e : Env} {R : Room} {s : State} {m : MethodId} {args : Array Value} {below : List Frame} {meth : Method} {c : Code} {T : State} {H : Heap} {locs : List Loc} {cells slots : Nat}
theorem vx_callVX (X : Stand p l e R s m args below meth c T locs cells slots) (hexec : p.tables.exec = Jvm.exec) {own C : String} {index : Nat} {y : MethodName} {bytes : ByteArray} {maxL : Nat} {ret : Option FieldType} {hh : List (Nat × Nat × Nat × Nat)}
    (hown : s.vm.findClass own = some m.cls) (hlink : (Cond.methodLink own index y).before args s = true) (hinst : (Cond.instanceMethod y).before args s = true) (hsel : (Cond.selects C y y).before args s = true)
    (hcode : (Cond.codeWith y bytes maxL ret hh).before args s = true) (hy : y.cls ≠ "java/lang/invoke/MethodHandle" ∧ y.cls ≠ "java/lang/invoke/VarHandle")
    {W9 : Nat} {Pre : Pt → Array Value → Prop} {Post : Pt → Array Value → Option Value → Pt → Prop} {PostX : Pt → Array Value → Addr → Pt → Prop} (hK : vx_Back l R p e below s args y 3 W9 Pre Post PostX)
    {b : Addr} {cellB : Cell} (hcell : T.heap[b]? = some cellB) (hobj : cellB.vm.isStatics = false) (hcls : s.vm.findClass C = some cellB.cls)
    {g : JFrame} (hg : g.method = m) (hsize : g.locals.size = c.maxLocals) {argsL rest : List Value} (hlen : ∀ sig, parseMethodDescriptor y.desc = some sig → argsL.length = sig.parameters.length)
    (hstack : g.stack = argsL.reverse ++ .ref b :: rest) (hW : 2 * g.monitorRoom + (rest.map fun v => v.category).sum ≤ W9) (hdg : decode c.code g.pc = .ok (.invokevirtual index, 3))
    (hpre : ∀ vm₁, s.WarmedH vm₁ → Pre ⟨T.setVm vm₁, locs, cells, slots⟩ (Value.ref b :: argsL).toArray) :
    (∃ (v : Option Value) (vm₁ : Vm) (B : Pt), s.WarmedH vm₁ ∧ Stand p l e R s m args below meth c B.U B.locs B.cells B.slots ∧ Post ⟨T.setVm vm₁, locs, cells, slots⟩ (Value.ref b :: argsL).toArray v B ∧
      ∀ target, Steps p.tables e below (B.U.setTop { g with pc := g.pc + 3, stack := v.toList ++ rest }) target → Steps p.tables e below (T.setTop g) target) ∨
    (∃ (q : Addr) (vm₁ : Vm) (B : Pt), s.WarmedH vm₁ ∧ Stand p l e R s m args below meth c B.U B.locs B.cells B.slots ∧ PostX ⟨T.setVm vm₁, locs, cells, slots⟩ (Value.ref b :: argsL).toArray q B ∧
      Steps p.tables e below (T.setTop g) ((B.U.setTop { g with stack := rest }).pushFrame (.throwing q))) := by
  obtain ⟨mk, methM, hnamed, hmethM, hstM, habM⟩ := Cond.instanceMethod_spec hinst
  obtain ⟨m8, methM', cM, hn8, hmethM', -, -, -, -, -, -, hsigM⟩ := Cond.codeWith_spec hcode
  cases Option.some.inj (hn8.symm.trans hnamed)
  cases hmethM.symm.trans hmethM'
  obtain ⟨c2, r2, m2, q1, q2, q3, q4, kP, hkP, hkPi⟩ := Cond.selects_spec hsel
  cases hcls.symm.trans q1
  cases (State.methodFound?_of_named hnamed hy).symm.trans q2
  cases hnamed.symm.trans q3
  have hselP : selectMethod e.platform s.vm cellB.cls mk = .method mk := by rw [Launch.admits_selectMethod X.admits]; exact q4
  obtain ⟨vm₁, X₁, hstep₁⟩ := X.invokevirtual hexec hown hlink hnamed hmethM hstM hkP hkPi hy (a := b) (cell := cellB) hcell
    (fun z h => by rw [h] at hobj; cases hobj) hselP hmethM habM hkP hkPi (g := g) hg (argsL := argsL) (rest := rest) (hlen _ hsigM) hstack hdg
  rcases hK m meth c ⟨T.setVm vm₁, locs, cells, slots⟩ { g with stack := rest } (.invokevirtual index) mk (Value.ref b :: argsL).toArray X₁ hg hsize hdg hW (X₁.named hnamed) (hpre vm₁ X₁.warmed) with ⟨v, B, X', hpost, hsteps⟩ | ⟨q, B, X', hpost, hsteps⟩
  · exact Or.inl ⟨v, vm₁, B, X₁.warmed, X', hpost, fun target h => hstep₁ _ fun acts => by rw [doInvoke_state]; exact hsteps.trans h⟩
  · exact Or.inr ⟨q, vm₁, B, X₁.warmed, X', hpost, hstep₁ _ fun acts => by rw [doInvoke_state]; exact hsteps⟩
theorem vx_callSX (X : Stand p l e R s m args below meth c T locs cells slots) (hexec : p.tables.exec = Jvm.exec) {own : String} {index : Nat} {y : MethodName} {bytes : ByteArray} {maxL : Nat} {ret : Option FieldType} {hh : List (Nat × Nat × Nat × Nat)}
    (hown : s.vm.findClass own = some m.cls) (hlink : (Cond.methodLink own index y).before args s = true) (hstat : (Cond.static y).before args s = true) (hinit : (Cond.initialized y.cls).before args s = true)
    (hcode : (Cond.codeWith y bytes maxL ret hh).before args s = true) (hy : y.cls ≠ "java/lang/invoke/MethodHandle" ∧ y.cls ≠ "java/lang/invoke/VarHandle")
    {W9 : Nat} {Pre : Pt → Array Value → Prop} {Post : Pt → Array Value → Option Value → Pt → Prop} {PostX : Pt → Array Value → Addr → Pt → Prop} (hK : vx_Back l R p e below s args y 3 W9 Pre Post PostX)
    {g : JFrame} (hg : g.method = m) (hsize : g.locals.size = c.maxLocals) {argsL rest : List Value} (hlen : ∀ sig, parseMethodDescriptor y.desc = some sig → argsL.length = sig.parameters.length)
    (hstack : g.stack = argsL.reverse ++ rest) (hW : 2 * g.monitorRoom + (rest.map fun v => v.category).sum ≤ W9) (hdg : decode c.code g.pc = .ok (.invokestatic index, 3))
    (hpre : ∀ vm₁, s.WarmedH vm₁ → Pre ⟨T.setVm vm₁, locs, cells, slots⟩ argsL.toArray) :
    (∃ (v : Option Value) (vm₁ : Vm) (B : Pt), s.WarmedH vm₁ ∧ Stand p l e R s m args below meth c B.U B.locs B.cells B.slots ∧ Post ⟨T.setVm vm₁, locs, cells, slots⟩ argsL.toArray v B ∧
      ∀ target, Steps p.tables e below (B.U.setTop { g with pc := g.pc + 3, stack := v.toList ++ rest }) target → Steps p.tables e below (T.setTop g) target) ∨
    (∃ (q : Addr) (vm₁ : Vm) (B : Pt), s.WarmedH vm₁ ∧ Stand p l e R s m args below meth c B.U B.locs B.cells B.slots ∧ PostX ⟨T.setVm vm₁, locs, cells, slots⟩ argsL.toArray q B ∧
      Steps p.tables e below (T.setTop g) ((B.U.setTop { g with stack := rest }).pushFrame (.throwing q))) := by
  obtain ⟨mk, methM, cM, hnamed, hmethM, -, -, -, -, -, -, hsigM⟩ := Cond.codeWith_spec hcode
  have hstatic : methM.isStatic = true := Cond.static_spec hnamed hmethM hstat
  obtain ⟨kP, hkP, -⟩ := className_of_methodNamed hnamed
  have hinitP : kP.init = .initialized := Cond.initialized_spec (findClass_of_methodNamed hnamed) hkP hinit
  obtain ⟨vm₁, X₁, hstep₁⟩ := X.invokestatic hexec hown hlink hnamed hmethM hstatic hkP hinitP hy (g := g) hg (argsL := argsL) (rest := rest) (hlen _ hsigM) hstack hdg
  rcases hK m meth c ⟨T.setVm vm₁, locs, cells, slots⟩ { g with stack := rest } (.invokestatic index) mk argsL.toArray X₁ hg hsize hdg hW (X₁.named hnamed) (hpre vm₁ X₁.warmed) with ⟨v, B, X', hpost, hsteps⟩ | ⟨q, B, X', hpost, hsteps⟩
  · exact Or.inl ⟨v, vm₁, B, X₁.warmed, X', hpost, fun target h => hstep₁ _ fun acts => by rw [doInvoke_state]; exact hsteps.trans h⟩
  · exact Or.inr ⟨q, vm₁, B, X₁.warmed, X', hpost, hstep₁ _ fun acts => by rw [doInvoke_state]; exact hsteps⟩
theorem vx_callVW (X : Stand p l e R s m args below meth c T locs cells slots) (hexec : p.tables.exec = Jvm.exec) {own C : String} {index : Nat} {y : MethodName} {bytes : ByteArray} {maxL : Nat} {ret : Option FieldType} {hh : List (Nat × Nat × Nat × Nat)}
    (hown : s.vm.findClass own = some m.cls) (hlink : (Cond.methodLink own index y).before args s = true) (hinst : (Cond.instanceMethod y).before args s = true) (hsel : (Cond.selects C y y).before args s = true)
    (hcode : (Cond.codeWith y bytes maxL ret hh).before args s = true) (hy : y.cls ≠ "java/lang/invoke/MethodHandle" ∧ y.cls ≠ "java/lang/invoke/VarHandle")
    {W9 : Nat} {Pre : Pt → Array Value → Prop} {Post : Pt → Array Value → Option Value → Pt → Prop} (hK : Back l R p e below s args y 3 W9 Pre Post)
    {b : Addr} {cellB : Cell} (hcell : T.heap[b]? = some cellB) (hobj : cellB.vm.isStatics = false) (hcls : s.vm.findClass C = some cellB.cls)
    {g : JFrame} (hg : g.method = m) (hsize : g.locals.size = c.maxLocals) {argsL rest : List Value} (hlen : ∀ sig, parseMethodDescriptor y.desc = some sig → argsL.length = sig.parameters.length)
    (hstack : g.stack = argsL.reverse ++ .ref b :: rest) (hW : 2 * g.monitorRoom + (rest.map fun v => v.category).sum ≤ W9) (hdg : decode c.code g.pc = .ok (.invokevirtual index, 3))
    (hpre : ∀ vm₁, s.WarmedH vm₁ → Pre ⟨T.setVm vm₁, locs, cells, slots⟩ (Value.ref b :: argsL).toArray) :
    ∃ (v : Option Value) (vm₁ : Vm) (B : Pt), s.WarmedH vm₁ ∧ Stand p l e R s m args below meth c B.U B.locs B.cells B.slots ∧ Post ⟨T.setVm vm₁, locs, cells, slots⟩ (Value.ref b :: argsL).toArray v B ∧
      ∀ target, Steps p.tables e below (B.U.setTop { g with pc := g.pc + 3, stack := v.toList ++ rest }) target → Steps p.tables e below (T.setTop g) target := by
  obtain ⟨mk, methM, hnamed, hmethM, hstM, habM⟩ := Cond.instanceMethod_spec hinst
  obtain ⟨m8, methM', cM, hn8, hmethM', -, -, -, -, -, -, hsigM⟩ := Cond.codeWith_spec hcode
  cases Option.some.inj (hn8.symm.trans hnamed)
  cases hmethM.symm.trans hmethM'
  obtain ⟨c2, r2, m2, q1, q2, q3, q4, kP, hkP, hkPi⟩ := Cond.selects_spec hsel
  cases hcls.symm.trans q1
  cases (State.methodFound?_of_named hnamed hy).symm.trans q2
  cases hnamed.symm.trans q3
  have hselP : selectMethod e.platform s.vm cellB.cls mk = .method mk := by rw [Launch.admits_selectMethod X.admits]; exact q4
  obtain ⟨vm₁, X₁, hstep₁⟩ := X.invokevirtual hexec hown hlink hnamed hmethM hstM hkP hkPi hy (a := b) (cell := cellB) hcell
    (fun z h => by rw [h] at hobj; cases hobj) hselP hmethM habM hkP hkPi (g := g) hg (argsL := argsL) (rest := rest) (hlen _ hsigM) hstack hdg
  obtain ⟨v, B, X', hpost, hsteps⟩ := hK m meth c ⟨T.setVm vm₁, locs, cells, slots⟩ { g with stack := rest } (.invokevirtual index) mk (Value.ref b :: argsL).toArray X₁ hg hsize hdg hW (X₁.named hnamed) (hpre vm₁ X₁.warmed)
  exact ⟨v, vm₁, B, X₁.warmed, X', hpost, fun target h => hstep₁ _ fun acts => by rw [doInvoke_state]; exact hsteps.trans h⟩
abbrev vx_CVW (R : Room) (s : State) (args : Array Value) (own C : String) (index : Nat) (y : MethodName) (bytes : ByteArray) (maxL : Nat) (ret : Option FieldType) (hh : List (Nat × Nat × Nat × Nat)) (ws : List Cond) (rm : Room) (mc ms n : Nat) : Prop :=
  (rm.cells = mc ∧ rm.slots = ms ∧ rm.frames + 1 ≤ R.frames ∧ 8 + (maxL + 11) + rm.locals ≤ R.locals ∧ (∀ w ∈ ws, ∀ (a' : Array Value) (U : State), s.WarmedH U.vm → w.before a' U = true) ∧ Cond.codeWith y bytes maxL ret hh ∈ ws) ∧
  (Cond.codeWith y bytes maxL ret hh).before args s = true ∧ (Cond.initialized y.cls).before args s = true ∧ (y.cls ≠ "java/lang/invoke/MethodHandle" ∧ y.cls ≠ "java/lang/invoke/VarHandle") ∧
  (∀ sig, parseMethodDescriptor y.desc = some sig → n = sig.parameters.length) ∧ (Cond.methodLink own index y).before args s = true ∧ (Cond.instanceMethod y).before args s = true ∧ (Cond.selects C y y).before args s = true
theorem vx_cwVW {own C : String} {index maxL mc ms : Nat} {y : MethodName} {bytes : ByteArray} {ret : Option FieldType} {hh : List (Nat × Nat × Nat × Nat)} {Ts ws ws' : List Cond} {rm : Room} (n : Nat) (ht : ∀ w ∈ Ts, w.before args s = true) (hT : GoodIn Ts (wsV own index C y ws)) (hw : ws = Cond.codeWith y bytes maxL ret hh :: ws') (hrc : rm.cells = mc) (hrs : rm.slots = ms)
    (hd : y.cls = C ∧ y.cls ≠ "java/lang/invoke/MethodHandle" ∧ y.cls ≠ "java/lang/invoke/VarHandle" ∧ (parseMethodDescriptor y.desc).map (fun d => d.parameters.length) = some n) (hR : rm.frames + 1 ≤ R.frames ∧ 8 + (maxL + 11) + rm.locals ≤ R.locals) :
    vx_CVW R s args own C index y bytes maxL ret hh ws rm mc ms n := by
  obtain ⟨hC, hd⟩ := hd
  subst hC
  have ok : ∀ w ∈ wsV own index y.cls y ws, w.before args s = true := fun w h => ht w (hT w h).1
  have hG : GoodIn Ts ws := fun w h => hT w (by unfold wsV; exact List.mem_append_right _ h)
  have hc : Cond.codeWith y bytes maxL ret hh ∈ ws := by rw [hw]; exact List.mem_cons_self
  refine ⟨⟨hrc, hrs, hR.1, hR.2, pay_in ht hG, hc⟩, ht _ (hG _ hc).1, ok _ (by simp [wsV]), ⟨hd.1, hd.2.1⟩, fun sig h => ?_, ok _ (by simp [wsV]), ok _ (by simp [wsV]), ok _ (by simp [wsV])⟩
  have h2 := hd.2.2
  rw [h] at h2
  exact (Option.some.inj h2).symm
theorem vx_runVW {y : MethodName} {bytes cc : ByteArray} {maxL nL mc ms n index : Nat} {ret : Option FieldType} {hh : List (Nat × Nat × Nat × Nat)} {ws : List Cond} {rm : Room} {Pc : Array Value → State → Prop} {Qc : Array Value → State → Outcome → State → Prop} {free : Addr → Prop} {Ts : List Cond} {own C : String} {b : Addr} {As rest : List Value} {g : JFrame}
    (S : CallFix p m c cc nL s args Ts own) (hM : Met l y ws rm Pc Qc mc ms free) (cw : vx_CVW R s args own C index y bytes maxL ret hh ws rm mc ms n) (hp : PreV s H C b Pc As)
    (hg : g.method = m) (hn : As.length = n) (hsize : g.locals.size = nL) (hstack : g.stack = As.reverse ++ .ref b :: rest) (hW : 2 * g.monitorRoom + (rest.map fun v => v.category).sum ≤ 8) (hdg : decode cc g.pc = .ok (.invokevirtual index, 3)) (hf : cells + mc ≤ R.cells ∧ slots + ms ≤ R.slots) :
    va_Run p l e R s m args below meth c H locs cells slots mc ms g rest (Qc (Value.ref b :: As).toArray) free := by
  obtain ⟨⟨hrc, hrs, hfr, hlo, hws, hcw⟩, hcode, hini, hy, hlen, hl, hin, hse⟩ := cw
  have hK : Back l R p e below s args y 3 8 (PreOf R mc ms Pc) (PostOf Qc mc ms free) := va_backW (hh := hh) (bytes := bytes) (maxL := maxL) (ret := ret) hM hp.1 hrc hrs hfr hlo hws hcw (fun a' U hW => word_at hW (Or.inl (by first | rfl | simp [Cond.onTables, Cond.keeps, Cond.steady])) hini)
  obtain ⟨hx, hb, hml, ho, -⟩ := S
  obtain ⟨-, ⟨cellB, hcB, hoB, hclB⟩, hPc⟩ := hp
  intro T hT X
  obtain ⟨v, vm₁, ⟨U', l2, c2, s2⟩, hW₁, X', ⟨g', mk, t, L, e1, e2, hq, h1, hL, h2, h3⟩, st⟩ := vx_callVW X hx (C := C) (hh := hh) (bytes := bytes) (maxL := maxL) (ret := ret) ho hl hin hse hcode hy hK (by rw [hT]; exact hcB) hoB hclB hg (hsize.trans hml.symm) (argsL := As) (rest := rest) (fun sig h => hn.trans (hlen sig h)) hstack hW (by rw [hb]; exact hdg)
    (fun vm₁ hW₁ => ⟨hf.1, hf.2, hPc (T.setVm vm₁) hT hW₁⟩)
  dsimp only [Pt.U, Pt.locs, Pt.cells, Pt.slots] at X' e1 e2 h1 h2 h3 st
  subst h1; subst h2; subst h3
  exact ⟨v, (T.setVm vm₁).calling g' mk (Value.ref b :: As).toArray, t, U', L, hT, X', hL, e1, e2, hq, st⟩
section
variable {y : MethodName} {bytes cc : ByteArray} {maxL nL mc ms n index : Nat} {ret : Option FieldType} {ws : List Cond} {rm : Room} {Pc : Array Value → State → Prop} {Qc : Array Value → State → Outcome → State → Prop} {XC : String → State → State → Prop} {free : Addr → Prop} {Ts : List Cond} {own C : String} {b : Addr} {As rest : List Value} {g : JFrame}
theorem vx_runVX {hh : List (Nat × Nat × Nat × Nat)} (S : CallFix p m c cc nL s args Ts own) (hM : vx_Met l y ws rm Pc Qc XC mc ms free) (cw : vx_CVW R s args own C index y bytes maxL ret hh ws rm mc ms n) (hp : PreV s H C b Pc As)
    (hg : g.method = m) (hn : As.length = n) (hsize : g.locals.size = nL) (hstack : g.stack = As.reverse ++ .ref b :: rest) (hW : 2 * g.monitorRoom + (rest.map fun v => v.category).sum ≤ 8) (hdg : decode cc g.pc = .ok (.invokevirtual index, 3)) (hf : cells + mc ≤ R.cells ∧ slots + ms ≤ R.slots) :
    vx_Run p l e R s m args below meth c H locs cells slots mc ms g rest (Qc (Value.ref b :: As).toArray) XC free := by
  obtain ⟨⟨hrc, hrs, hfr, hlo, hws, hcw⟩, hcode, hini, hy, hlen, hl, hin, hse⟩ := cw
  have hK : vx_Back l R p e below s args y 3 8 (PreOf R mc ms Pc) (PostOf Qc mc ms free) (vx_Post XC mc ms free) := vx_backW (hh := hh) (bytes := bytes) (maxL := maxL) (ret := ret) hM hp.1 hrc hrs hfr hlo hws hcw (fun a' U hW => word_at hW (Or.inl (by first | rfl | simp [Cond.onTables, Cond.keeps, Cond.steady])) hini)
  obtain ⟨hx, hb, hml, ho, -⟩ := S
  obtain ⟨-, ⟨cellB, hcB, hoB, hclB⟩, hPc⟩ := hp
  intro T hT X
  rcases vx_callVX X hx (C := C) (hh := hh) (bytes := bytes) (maxL := maxL) (ret := ret) ho hl hin hse hcode hy hK (by rw [hT]; exact hcB) hoB hclB hg (hsize.trans hml.symm) (argsL := As) (rest := rest) (fun sig h => hn.trans (hlen sig h)) hstack hW (by rw [hb]; exact hdg)
    (fun vm₁ hW₁ => ⟨hf.1, hf.2, hPc (T.setVm vm₁) hT hW₁⟩) with ⟨v, vm₁, ⟨U', l2, c2, s2⟩, hW₁, X', ⟨g', mk, t, L, e1, e2, hq, h1, hL, h2, h3⟩, st⟩ | ⟨q, vm₁, ⟨U', l2, c2, s2⟩, hW₁, X', ⟨g', mk, t, L, E, ce, e1, e2, hq, hce, hcv, hcl, h1, hL, h2, h3⟩, st⟩
  · dsimp only [Pt.U, Pt.locs, Pt.cells, Pt.slots] at X' e1 e2 h1 h2 h3 st
    subst h1; subst h2; subst h3
    exact Or.inl ⟨v, (T.setVm vm₁).calling g' mk (Value.ref b :: As).toArray, t, U', L, hT, X', hL, e1, e2, hq, st⟩
  · dsimp only [Pt.U, Pt.locs, Pt.cells, Pt.slots] at X' e1 e2 h1 h2 h3 st hcl
    subst h1; subst h2; subst h3
    exact Or.inr ⟨q, (T.setVm vm₁).calling g' mk (Value.ref b :: As).toArray, t, U', L, E, ce, hT, X', hL, e1, e2, hq, hce, hcv, vx_cls hW₁ hcl, st⟩
theorem vx_runSX {hh : List (Nat × Nat × Nat × Nat)} (S : CallFix p m c cc nL s args Ts own) (hM : vx_Met l y ws rm Pc Qc XC mc ms free) (cw : vx_CSW R s args own index y bytes maxL ret hh ws rm mc ms n) (hp : PreS s H Pc As)
    (hg : g.method = m) (hn : As.length = n) (hsize : g.locals.size = nL) (hstack : g.stack = As.reverse ++ rest) (hW : 2 * g.monitorRoom + (rest.map fun v => v.category).sum ≤ 8) (hdg : decode cc g.pc = .ok (.invokestatic index, 3)) (hf : cells + mc ≤ R.cells ∧ slots + ms ≤ R.slots) :
    vx_Run p l e R s m args below meth c H locs cells slots mc ms g rest (Qc As.toArray) XC free := by
  obtain ⟨⟨hrc, hrs, hfr, hlo, hws, hcw⟩, hcode, hini, hy, hlen, hl, hstt⟩ := cw
  have hK : vx_Back l R p e below s args y 3 8 (PreOf R mc ms Pc) (PostOf Qc mc ms free) (vx_Post XC mc ms free) := vx_backW (hh := hh) (bytes := bytes) (maxL := maxL) (ret := ret) hM hp.1 hrc hrs hfr hlo hws hcw (fun a' U hW => word_at hW (Or.inl (by first | rfl | simp [Cond.onTables, Cond.keeps, Cond.steady])) hini)
  obtain ⟨hx, hb, hml, ho, -⟩ := S
  intro T hT X
  rcases vx_callSX X hx (hh := hh) (bytes := bytes) (maxL := maxL) (ret := ret) ho hl hstt hini hcode hy hK hg (hsize.trans hml.symm) (argsL := As) (rest := rest) (fun sig h => hn.trans (hlen sig h)) hstack hW (by rw [hb]; exact hdg)
    (fun vm₁ hW₁ => ⟨hf.1, hf.2, hp.2 (T.setVm vm₁) hT hW₁⟩) with ⟨v, vm₁, ⟨U', l2, c2, s2⟩, hW₁, X', ⟨g', mk, t, L, e1, e2, hq, h1, hL, h2, h3⟩, st⟩ | ⟨q, vm₁, ⟨U', l2, c2, s2⟩, hW₁, X', ⟨g', mk, t, L, E, ce, e1, e2, hq, hce, hcv, hcl, h1, hL, h2, h3⟩, st⟩
  · dsimp only [Pt.U, Pt.locs, Pt.cells, Pt.slots] at X' e1 e2 h1 h2 h3 st
    subst h1; subst h2; subst h3
    exact Or.inl ⟨v, (T.setVm vm₁).calling g' mk As.toArray, t, U', L, hT, X', hL, e1, e2, hq, st⟩
  · dsimp only [Pt.U, Pt.locs, Pt.cells, Pt.slots] at X' e1 e2 h1 h2 h3 st hcl
    subst h1; subst h2; subst h3
    exact Or.inr ⟨q, (T.setVm vm₁).calling g' mk As.toArray, t, U', L, E, ce, hT, X', hL, e1, e2, hq, hce, hcv, vx_cls hW₁ hcl, st⟩
end
end VXH
theorem vx_ofWH {l : Launch} {y : MethodName} {ws ws' : List Cond} {rm : Room} {Pc : Array Value → State → Prop} {Qc : Array Value → State → Outcome → State → Prop} {XC : String → State → State → Prop} {mc ms : Nat} {free : Addr → Prop} {cc : ByteArray} {maxL : Nat} {ret : Option FieldType} {hh : List (Nat × Nat × Nat × Nat)}
    (hy : plainName y.cls = true) (hw : ws = Cond.codeWith y cc maxL ret hh :: ws')
    (body : ∀ p e s m args below meth c s₁, BodyLoose p l y (headSpec ws rm) cc maxL ret e s m args below meth c s₁ → c.maxLocals = maxL → Pc args s →
      W p l e (headSpec ws rm).room s m args below meth c s.heap [] 0 0 (vx_MQ below Qc XC args s mc ms free) (entryFrame m args maxL)) : vx_Met l y ws rm Pc Qc XC mc ms free := by
  refine MetFree.of_bodyS (code := cc) (maxLocals := maxL) (ret := ret) hy ?_ ?_
  · intro args s m h hn
    obtain ⟨m9, meth, c, hn9, h1, h2, h3, h4, -, h5, h6, -⟩ := Cond.codeWith_spec (atoms_spec (ws := ws) h _ (by rw [hw]; exact List.mem_cons_self))
    cases hn.symm.trans hn9
    exact ⟨meth, c, h1, h2, h3, h4, h5, h6⟩
  · intro p e s m args below meth c s₁ B hml hP _
    have hh0 : s₁.heap = s.heap := by rw [B.state]; rfl
    obtain ⟨t, a1, o, b1, b2, b3⟩ := body p e s m args below meth c s₁ B hml hP s₁ hh0 (Stand.of_body B)
    exact ⟨t, o, a1, b1, b2, b3⟩
/-! ===== END ===== -/
end
section
/-! ===== BEGIN printed: names, fields, word lists, decode rows ===== -/
def RX0 : String := "Ringroll$Campaign"
def TX0 : u_T := fun k => match k with
  | 0 => ("Ringroll$Campaign", "number", "I", true)
  | 1 => ("Ringroll$Campaign", "target", "I", false)
  | 2 => ("Ringroll$Campaign", "kinds", "I", false)
  | 3 => ("Ringroll$Campaign", "versions", "I", false)
  | 4 => ("Ringroll$Campaign", "firstShare", "I", false)
  | 5 => ("Ringroll$Campaign", "secondShare", "I", false)
  | 6 => ("Ringroll$Campaign", "needs", "I", false)
  | 7 => ("Ringroll$Campaign", "thousandths", "I", false)
  | 8 => ("Ringroll$Campaign", "isActive", "Z", false)
  | 9 => ("Ringroll$Campaign", "ring", "I", false)
  | 10 => ("Ringroll$Campaign", "reports", "I", false)
  | 11 => ("Ringroll$Campaign", "failures", "I", false)
  | _ => ("Ringroll$Campaign", "reporters", "I", false)
def tyX0 : Nat → FieldType := fun k => match k with
  | 0 => .int
  | 1 => .int
  | 2 => .int
  | 3 => .int
  | 4 => .int
  | 5 => .int
  | 6 => .int
  | 7 => .int
  | 8 => .boolean
  | 9 => .int
  | 10 => .int
  | 11 => .int
  | _ => .int
abbrev wsX00 : List Cond := u_ws RX0 TX0 13
theorem nmX0 : ∀ a, a < 13 → ∀ b, b < 13 → a ≠ b → (TX0 a).2.1 ≠ (TX0 b).2.1 := by decide +kernel
theorem tyX0_ok : ∀ k, k < 13 → parseFieldDescriptor (TX0 k).2.2.1 = some (tyX0 k) := by decide +kernel
abbrev cX0_init : ByteArray := prog_2_method_1_code
def yX0_init : MethodName := ⟨RX0, "<init>", "(I)V"⟩
abbrev cX0_isFor : ByteArray := prog_2_method_2_code
def yX0_isFor : MethodName := ⟨RX0, "isFor", "(LRingroll$Device;)Z"⟩
abbrev cX0_countReport : ByteArray := prog_2_method_3_code
def yX0_countReport : MethodName := ⟨RX0, "countReport", "(LRingroll$Device;Z)V"⟩
abbrev cX0_judgeRing : ByteArray := prog_2_method_4_code
def yX0_judgeRing : MethodName := ⟨RX0, "judgeRing", "()V"⟩
abbrev cX0_beginRing : ByteArray := prog_2_method_5_code
def yX0_beginRing : MethodName := ⟨RX0, "beginRing", "(I)V"⟩
abbrev cX0_drawOf : ByteArray := prog_2_method_6_code
def yX0_drawOf : MethodName := ⟨RX0, "drawOf", "(LRingroll$Device;)I"⟩
abbrev cX0_share : ByteArray := prog_2_method_7_code
def yX0_share : MethodName := ⟨RX0, "share", "()I"⟩
def RX1 : String := "Ringroll$Device"
def TX1 : u_T := fun k => match k with
  | 0 => ("Ringroll$Device", "number", "I", true)
  | 1 => ("Ringroll$Device", "kind", "I", false)
  | 2 => ("Ringroll$Device", "version", "I", false)
  | 3 => ("Ringroll$Device", "battery", "I", false)
  | 4 => ("Ringroll$Device", "firstHour", "I", false)
  | 5 => ("Ringroll$Device", "lastHour", "I", false)
  | 6 => ("Ringroll$Device", "state", "I", false)
  | 7 => ("Ringroll$Device", "campaign", "I", false)
  | _ => ("Ringroll$Device", "bytesToGo", "I", false)
def tyX1 : Nat → FieldType := fun k => match k with
  | 0 => .int
  | 1 => .int
  | 2 => .int
  | 3 => .int
  | 4 => .int
  | 5 => .int
  | 6 => .int
  | 7 => .int
  | _ => .int
abbrev wsX10 : List Cond := u_ws RX1 TX1 9
theorem nmX1 : ∀ a, a < 9 → ∀ b, b < 9 → a ≠ b → (TX1 a).2.1 ≠ (TX1 b).2.1 := by decide +kernel
theorem tyX1_ok : ∀ k, k < 9 → parseFieldDescriptor (TX1 k).2.2.1 = some (tyX1 k) := by decide +kernel
abbrev cX1_init : ByteArray := prog_3_method_1_code
def yX1_init : MethodName := ⟨RX1, "<init>", "(I)V"⟩
abbrev cX1_take : ByteArray := prog_3_method_2_code
def yX1_take : MethodName := ⟨RX1, "take", "(LRingroll$Campaign;I)V"⟩
abbrev cX1_canLoad : ByteArray := prog_3_method_3_code
def yX1_canLoad : MethodName := ⟨RX1, "canLoad", "(I)Z"⟩
abbrev cX1_load : ByteArray := prog_3_method_4_code
def yX1_load : MethodName := ⟨RX1, "load", "()V"⟩
abbrev cX1_isInWindow : ByteArray := prog_3_method_5_code
def yX1_isInWindow : MethodName := ⟨RX1, "isInWindow", "(I)Z"⟩
def RX2 : String := "Ringroll$Ways"
def TX2 : u_T := fun k => match k with
  | 0 => ("Ringroll$Ways", "images", "[I", true)
  | 1 => ("Ringroll$Ways", "deltas", "[[I", true)
  | 2 => ("Ringroll$Ways", "leastByDeltas", "[[I", true)
  | _ => ("Ringroll$Ways", "leastByImage", "[I", true)
def tyX2 : Nat → FieldType := fun k => match k with
  | 0 => .array .int
  | 1 => .array (.array .int)
  | 2 => .array (.array .int)
  | _ => .array .int
abbrev wsX20 : List Cond := u_ws RX2 TX2 4
theorem nmX2 : ∀ a, a < 4 → ∀ b, b < 4 → a ≠ b → (TX2 a).2.1 ≠ (TX2 b).2.1 := by decide +kernel
theorem tyX2_ok : ∀ k, k < 4 → parseFieldDescriptor (TX2 k).2.2.1 = some (tyX2 k) := by decide +kernel
abbrev cX2_init : ByteArray := prog_4_method_1_code
def yX2_init : MethodName := ⟨RX2, "<init>", "()V"⟩
abbrev cX2_changeImage : ByteArray := prog_4_method_2_code
def yX2_changeImage : MethodName := ⟨RX2, "changeImage", "(II)I"⟩
abbrev cX2_changeDelta : ByteArray := prog_4_method_3_code
def yX2_changeDelta : MethodName := ⟨RX2, "changeDelta", "(III)I"⟩
abbrev cX2_leastBytes : ByteArray := prog_4_method_4_code
def yX2_leastBytes : MethodName := ⟨RX2, "leastBytes", "(II)I"⟩
abbrev cX2_leastBytesOfAllWays : ByteArray := prog_4_method_5_code
def yX2_leastBytesOfAllWays : MethodName := ⟨RX2, "leastBytesOfAllWays", "(II)I"⟩
abbrev cX2_leastAlong : ByteArray := prog_4_method_6_code
def yX2_leastAlong : MethodName := ⟨RX2, "leastAlong", "([[IIIII)I"⟩
abbrev cX2_measure : ByteArray := prog_4_method_7_code
def yX2_measure : MethodName := ⟨RX2, "measure", "()V"⟩
abbrev cX2_measureVia : ByteArray := prog_4_method_8_code
def yX2_measureVia : MethodName := ⟨RX2, "measureVia", "(I)V"⟩
abbrev cX2_orFar : ByteArray := prog_4_method_9_code
def yX2_orFar : MethodName := ⟨RX2, "orFar", "(I)I"⟩
abbrev cX2_orNone : ByteArray := prog_4_method_10_code
def yX2_orNone : MethodName := ⟨RX2, "orNone", "(I)I"⟩
def RX3 : String := "Ringroll"
def TX3 : u_T := fun k => match k with
  | 0 => ("Ringroll", "kindsOfVersion", "[I", true)
  | 1 => ("Ringroll", "ways", "LRingroll$Ways;", true)
  | 2 => ("Ringroll", "fleet", "[LRingroll$Device;", true)
  | 3 => ("Ringroll", "campaigns", "[LRingroll$Campaign;", true)
  | 4 => ("Ringroll", "deviceCount", "I", false)
  | 5 => ("Ringroll", "campaignCount", "I", false)
  | _ => ("Ringroll", "hourOfDay", "I", false)
def tyX3 : Nat → FieldType := fun k => match k with
  | 0 => .array .int
  | 1 => .object "Ringroll$Ways"
  | 2 => .array (.object "Ringroll$Device")
  | 3 => .array (.object "Ringroll$Campaign")
  | 4 => .int
  | 5 => .int
  | _ => .int
abbrev wsX30 : List Cond := u_ws RX3 TX3 7
theorem nmX3 : ∀ a, a < 7 → ∀ b, b < 7 → a ≠ b → (TX3 a).2.1 ≠ (TX3 b).2.1 := by decide +kernel
theorem tyX3_ok : ∀ k, k < 7 → parseFieldDescriptor (TX3 k).2.2.1 = some (tyX3 k) := by decide +kernel
abbrev cX3_init : ByteArray := prog_1_method_1_code
def yX3_init : MethodName := ⟨RX3, "<init>", "()V"⟩
abbrev cX3_allow : ByteArray := prog_1_method_2_code
def yX3_allow : MethodName := ⟨RX3, "allow", "(II)I"⟩
abbrev cX3_setImage : ByteArray := prog_1_method_3_code
def yX3_setImage : MethodName := ⟨RX3, "setImage", "(II)I"⟩
abbrev cX3_setDelta : ByteArray := prog_1_method_4_code
def yX3_setDelta : MethodName := ⟨RX3, "setDelta", "(III)I"⟩
abbrev cX3_size : ByteArray := prog_1_method_5_code
def yX3_size : MethodName := ⟨RX3, "size", "(II)I"⟩
abbrev cX3_sizeByWays : ByteArray := prog_1_method_6_code
def yX3_sizeByWays : MethodName := ⟨RX3, "sizeByWays", "(II)I"⟩
abbrev cX3_addDevice : ByteArray := prog_1_method_7_code
def yX3_addDevice : MethodName := ⟨RX3, "addDevice", "(II)I"⟩
abbrev cX3_charge : ByteArray := prog_1_method_8_code
def yX3_charge : MethodName := ⟨RX3, "charge", "(II)I"⟩
abbrev cX3_setWindow : ByteArray := prog_1_method_9_code
def yX3_setWindow : MethodName := ⟨RX3, "setWindow", "(III)V"⟩
abbrev cX3_report : ByteArray := prog_1_method_10_code
def yX3_report : MethodName := ⟨RX3, "report", "(IZ)I"⟩
abbrev cX3_devices : ByteArray := prog_1_method_11_code
def yX3_devices : MethodName := ⟨RX3, "devices", "()I"⟩
abbrev cX3_state : ByteArray := prog_1_method_12_code
def yX3_state : MethodName := ⟨RX3, "state", "(I)I"⟩
abbrev cX3_version : ByteArray := prog_1_method_13_code
def yX3_version : MethodName := ⟨RX3, "version", "(I)I"⟩
abbrev cX3_campaignOf : ByteArray := prog_1_method_14_code
def yX3_campaignOf : MethodName := ⟨RX3, "campaignOf", "(I)I"⟩
abbrev cX3_toGo : ByteArray := prog_1_method_15_code
def yX3_toGo : MethodName := ⟨RX3, "toGo", "(I)I"⟩
abbrev cX3_battery : ByteArray := prog_1_method_16_code
def yX3_battery : MethodName := ⟨RX3, "battery", "(I)I"⟩
abbrev cX3_begin : ByteArray := prog_1_method_17_code
def yX3_begin : MethodName := ⟨RX3, "begin", "(IIII)I"⟩
abbrev cX3_setRules : ByteArray := prog_1_method_18_code
def yX3_setRules : MethodName := ⟨RX3, "setRules", "(IIIII)V"⟩
abbrev cX3_toggle : ByteArray := prog_1_method_19_code
def yX3_toggle : MethodName := ⟨RX3, "toggle", "(I)Z"⟩
abbrev cX3_isActive : ByteArray := prog_1_method_20_code
def yX3_isActive : MethodName := ⟨RX3, "isActive", "(I)Z"⟩
abbrev cX3_ring : ByteArray := prog_1_method_21_code
def yX3_ring : MethodName := ⟨RX3, "ring", "(I)I"⟩
abbrev cX3_reports : ByteArray := prog_1_method_22_code
def yX3_reports : MethodName := ⟨RX3, "reports", "(I)I"⟩
abbrev cX3_eligible : ByteArray := prog_1_method_23_code
def yX3_eligible : MethodName := ⟨RX3, "eligible", "(I)I"⟩
abbrev cX3_pass : ByteArray := prog_1_method_24_code
def yX3_pass : MethodName := ⟨RX3, "pass", "(I)I"⟩
abbrev cX3_passOneHour : ByteArray := prog_1_method_25_code
def yX3_passOneHour : MethodName := ⟨RX3, "passOneHour", "()I"⟩
abbrev cX3_takeLowestCampaign : ByteArray := prog_1_method_26_code
def yX3_takeLowestCampaign : MethodName := ⟨RX3, "takeLowestCampaign", "(LRingroll$Device;)V"⟩
abbrev cX3_mayTake : ByteArray := prog_1_method_27_code
def yX3_mayTake : MethodName := ⟨RX3, "mayTake", "(LRingroll$Device;LRingroll$Campaign;)Z"⟩
abbrev cX3_deviceAt : ByteArray := prog_1_method_28_code
def yX3_deviceAt : MethodName := ⟨RX3, "deviceAt", "(I)LRingroll$Device;"⟩
abbrev cX3_campaignAt : ByteArray := prog_1_method_29_code
def yX3_campaignAt : MethodName := ⟨RX3, "campaignAt", "(I)LRingroll$Campaign;"⟩
abbrev cX3_needCampaign : ByteArray := prog_1_method_30_code
def yX3_needCampaign : MethodName := ⟨RX3, "needCampaign", "(I)V"⟩
abbrev cX3_needVersion : ByteArray := prog_1_method_31_code
def yX3_needVersion : MethodName := ⟨RX3, "needVersion", "(I)V"⟩
abbrev cX3_needBytesOrNone : ByteArray := prog_1_method_32_code
def yX3_needBytesOrNone : MethodName := ⟨RX3, "needBytesOrNone", "(I)V"⟩
abbrev cX3_needRange : ByteArray := prog_1_method_33_code
def yX3_needRange : MethodName := ⟨RX3, "needRange", "(III)V"⟩
abbrev cX3_has : ByteArray := prog_1_method_34_code
def yX3_has : MethodName := ⟨RX3, "has", "(II)Z"⟩
def RX4 : String := "RingrollModel"
def TX4 : u_T := fun k => match k with
  | 0 => ("RingrollModel", "refusal", "I", false)
  | 1 => ("RingrollModel", "clock", "I", false)
  | 2 => ("RingrollModel", "allowed", "[I", true)
  | 3 => ("RingrollModel", "images", "[I", true)
  | 4 => ("RingrollModel", "deltas", "[I", true)
  | 5 => ("RingrollModel", "reached", "[I", true)
  | 6 => ("RingrollModel", "devices", "I", false)
  | 7 => ("RingrollModel", "kinds", "[I", true)
  | 8 => ("RingrollModel", "versions", "[I", true)
  | 9 => ("RingrollModel", "batteries", "[I", true)
  | 10 => ("RingrollModel", "froms", "[I", true)
  | 11 => ("RingrollModel", "tos", "[I", true)
  | 12 => ("RingrollModel", "states", "[I", true)
  | 13 => ("RingrollModel", "taken", "[I", true)
  | 14 => ("RingrollModel", "left", "[I", true)
  | 15 => ("RingrollModel", "campaigns", "I", false)
  | 16 => ("RingrollModel", "targets", "[I", true)
  | 17 => ("RingrollModel", "forKinds", "[I", true)
  | 18 => ("RingrollModel", "forVersions", "[I", true)
  | 19 => ("RingrollModel", "isActive", "[Z", true)
  | 20 => ("RingrollModel", "rings", "[I", true)
  | 21 => ("RingrollModel", "shares", "[I", true)
  | 22 => ("RingrollModel", "needs", "[I", true)
  | 23 => ("RingrollModel", "bears", "[I", true)
  | 24 => ("RingrollModel", "reports", "[I", true)
  | 25 => ("RingrollModel", "failures", "[I", true)
  | _ => ("RingrollModel", "reporters", "[I", true)
def tyX4 : Nat → FieldType := fun k => match k with
  | 0 => .int
  | 1 => .int
  | 2 => .array .int
  | 3 => .array .int
  | 4 => .array .int
  | 5 => .array .int
  | 6 => .int
  | 7 => .array .int
  | 8 => .array .int
  | 9 => .array .int
  | 10 => .array .int
  | 11 => .array .int
  | 12 => .array .int
  | 13 => .array .int
  | 14 => .array .int
  | 15 => .int
  | 16 => .array .int
  | 17 => .array .int
  | 18 => .array .int
  | 19 => .array .boolean
  | 20 => .array .int
  | 21 => .array .int
  | 22 => .array .int
  | 23 => .array .int
  | 24 => .array .int
  | 25 => .array .int
  | _ => .array .int
abbrev wsX40 : List Cond := u_ws RX4 TX4 27
theorem nmX4 : ∀ a, a < 27 → ∀ b, b < 27 → a ≠ b → (TX4 a).2.1 ≠ (TX4 b).2.1 := by decide +kernel
theorem tyX4_ok : ∀ k, k < 27 → parseFieldDescriptor (TX4 k).2.2.1 = some (tyX4 k) := by decide +kernel
abbrev cX4_init : ByteArray := prog_6_method_1_code
def yX4_init : MethodName := ⟨RX4, "<init>", "()V"⟩
abbrev cX4_thrown : ByteArray := prog_6_method_2_code
def yX4_thrown : MethodName := ⟨RX4, "thrown", "()I"⟩
abbrev cX4_refused : ByteArray := prog_6_method_3_code
def yX4_refused : MethodName := ⟨RX4, "refused", "(I)Z"⟩
abbrev cX4_fine : ByteArray := prog_6_method_4_code
def yX4_fine : MethodName := ⟨RX4, "fine", "(I)I"⟩
abbrev cX4_in : ByteArray := prog_6_method_5_code
def yX4_in : MethodName := ⟨RX4, "in", "(III)Z"⟩
abbrev cX4_isVersion : ByteArray := prog_6_method_6_code
def yX4_isVersion : MethodName := ⟨RX4, "isVersion", "(I)Z"⟩
abbrev cX4_isSize : ByteArray := prog_6_method_7_code
def yX4_isSize : MethodName := ⟨RX4, "isSize", "(I)Z"⟩
abbrev cX4_isDevice : ByteArray := prog_6_method_8_code
def yX4_isDevice : MethodName := ⟨RX4, "isDevice", "(I)Z"⟩
abbrev cX4_isCampaign : ByteArray := prog_6_method_9_code
def yX4_isCampaign : MethodName := ⟨RX4, "isCampaign", "(I)Z"⟩
abbrev cX4_allow : ByteArray := prog_6_method_10_code
def yX4_allow : MethodName := ⟨RX4, "allow", "(II)I"⟩
abbrev cX4_setImage : ByteArray := prog_6_method_11_code
def yX4_setImage : MethodName := ⟨RX4, "setImage", "(II)I"⟩
abbrev cX4_setDelta : ByteArray := prog_6_method_12_code
def yX4_setDelta : MethodName := ⟨RX4, "setDelta", "(III)I"⟩
abbrev cX4_sizeOf : ByteArray := prog_6_method_13_code
def yX4_sizeOf : MethodName := ⟨RX4, "sizeOf", "(II)I"⟩
abbrev cX4_size : ByteArray := prog_6_method_14_code
def yX4_size : MethodName := ⟨RX4, "size", "(II)I"⟩
abbrev cX4_sizeByWays : ByteArray := prog_6_method_15_code
def yX4_sizeByWays : MethodName := ⟨RX4, "sizeByWays", "(II)I"⟩
abbrev cX4_addDevice : ByteArray := prog_6_method_16_code
def yX4_addDevice : MethodName := ⟨RX4, "addDevice", "(II)I"⟩
abbrev cX4_charge : ByteArray := prog_6_method_17_code
def yX4_charge : MethodName := ⟨RX4, "charge", "(II)I"⟩
abbrev cX4_setWindow : ByteArray := prog_6_method_18_code
def yX4_setWindow : MethodName := ⟨RX4, "setWindow", "(III)V"⟩
abbrev cX4_judge : ByteArray := prog_6_method_19_code
def yX4_judge : MethodName := ⟨RX4, "judge", "(I)V"⟩
abbrev cX4_report : ByteArray := prog_6_method_20_code
def yX4_report : MethodName := ⟨RX4, "report", "(IZ)I"⟩
abbrev cX4_devices : ByteArray := prog_6_method_21_code
def yX4_devices : MethodName := ⟨RX4, "devices", "()I"⟩
abbrev cX4_noDevice : ByteArray := prog_6_method_22_code
def yX4_noDevice : MethodName := ⟨RX4, "noDevice", "(I)Z"⟩
abbrev cX4_state : ByteArray := prog_6_method_23_code
def yX4_state : MethodName := ⟨RX4, "state", "(I)I"⟩
abbrev cX4_version : ByteArray := prog_6_method_24_code
def yX4_version : MethodName := ⟨RX4, "version", "(I)I"⟩
abbrev cX4_campaignOf : ByteArray := prog_6_method_25_code
def yX4_campaignOf : MethodName := ⟨RX4, "campaignOf", "(I)I"⟩
abbrev cX4_toGo : ByteArray := prog_6_method_26_code
def yX4_toGo : MethodName := ⟨RX4, "toGo", "(I)I"⟩
abbrev cX4_battery : ByteArray := prog_6_method_27_code
def yX4_battery : MethodName := ⟨RX4, "battery", "(I)I"⟩
abbrev cX4_begin : ByteArray := prog_6_method_28_code
def yX4_begin : MethodName := ⟨RX4, "begin", "(IIII)I"⟩
abbrev cX4_setRules : ByteArray := prog_6_method_29_code
def yX4_setRules : MethodName := ⟨RX4, "setRules", "(IIIII)V"⟩
abbrev cX4_noCampaign : ByteArray := prog_6_method_30_code
def yX4_noCampaign : MethodName := ⟨RX4, "noCampaign", "(I)Z"⟩
abbrev cX4_toggle : ByteArray := prog_6_method_31_code
def yX4_toggle : MethodName := ⟨RX4, "toggle", "(I)Z"⟩
abbrev cX4_isActive : ByteArray := prog_6_method_32_code
def yX4_isActive : MethodName := ⟨RX4, "isActive", "(I)Z"⟩
abbrev cX4_ring : ByteArray := prog_6_method_33_code
def yX4_ring : MethodName := ⟨RX4, "ring", "(I)I"⟩
abbrev cX4_reports : ByteArray := prog_6_method_34_code
def yX4_reports : MethodName := ⟨RX4, "reports", "(I)I"⟩
abbrev cX4_mayTake : ByteArray := prog_6_method_35_code
def yX4_mayTake : MethodName := ⟨RX4, "mayTake", "(II)Z"⟩
abbrev cX4_eligible : ByteArray := prog_6_method_36_code
def yX4_eligible : MethodName := ⟨RX4, "eligible", "(I)I"⟩
abbrev cX4_take : ByteArray := prog_6_method_37_code
def yX4_take : MethodName := ⟨RX4, "take", "(I)V"⟩
abbrev cX4_isOpen : ByteArray := prog_6_method_38_code
def yX4_isOpen : MethodName := ⟨RX4, "isOpen", "(I)Z"⟩
abbrev cX4_pass : ByteArray := prog_6_method_39_code
def yX4_pass : MethodName := ⟨RX4, "pass", "(I)I"⟩
def RJx145de : String := "java/io/Serializable"
def TJx145de : u_T := fun k => match k with
  | _ => ("", "", "", false)
def tyJx145de : Nat → FieldType := fun k => match k with
  | _ => .int
abbrev wsJx145de0 : List Cond := u_ws RJx145de TJx145de 0
theorem nmJx145de : ∀ a, a < 0 → ∀ b, b < 0 → a ≠ b → (TJx145de a).2.1 ≠ (TJx145de b).2.1 := by decide +kernel
theorem tyJx145de_ok : ∀ k, k < 0 → parseFieldDescriptor (TJx145de k).2.2.1 = some (tyJx145de k) := by decide +kernel
def RJ9 : String := "java/lang/Math"
def TJ9 : u_T := fun k => match k with
  | _ => ("", "", "", false)
def tyJ9 : Nat → FieldType := fun k => match k with
  | _ => .int
abbrev wsJ90 : List Cond := u_ws RJ9 TJ9 0
theorem nmJ9 : ∀ a, a < 0 → ∀ b, b < 0 → a ≠ b → (TJ9 a).2.1 ≠ (TJ9 b).2.1 := by decide +kernel
theorem tyJ9_ok : ∀ k, k < 0 → parseFieldDescriptor (TJ9 k).2.2.1 = some (tyJ9 k) := by decide +kernel
abbrev cJ9_max_7cf53 : ByteArray := prog_11_method_65_code
def yJ9_max_7cf53 : MethodName := ⟨RJ9, "max", "(II)I"⟩
abbrev cJ9_min_7cf53 : ByteArray := prog_11_method_69_code
def yJ9_min_7cf53 : MethodName := ⟨RJ9, "min", "(II)I"⟩
def RJ0 : String := "java/lang/String"
def TJ0 : u_T := fun k => match k with
  | _ => ("", "", "", false)
def tyJ0 : Nat → FieldType := fun k => match k with
  | _ => .int
abbrev wsJ00 : List Cond := u_ws RJ0 TJ0 0
theorem nmJ0 : ∀ a, a < 0 → ∀ b, b < 0 → a ≠ b → (TJ0 a).2.1 ≠ (TJ0 b).2.1 := by decide +kernel
theorem tyJ0_ok : ∀ k, k < 0 → parseFieldDescriptor (TJ0 k).2.2.1 = some (tyJ0 k) := by decide +kernel
def RJ7 : String := "java/util/Arrays"
def TJ7 : u_T := fun k => match k with
  | _ => ("", "", "", false)
def tyJ7 : Nat → FieldType := fun k => match k with
  | _ => .int
abbrev wsJ70 : List Cond := u_ws RJ7 TJ7 0
theorem nmJ7 : ∀ a, a < 0 → ∀ b, b < 0 → a ≠ b → (TJ7 a).2.1 ≠ (TJ7 b).2.1 := by decide +kernel
theorem tyJ7_ok : ∀ k, k < 0 → parseFieldDescriptor (TJ7 k).2.2.1 = some (tyJ7 k) := by decide +kernel
abbrev cJ7_fill_53178 : ByteArray := prog_15_method_103_code
def yJ7_fill_53178 : MethodName := ⟨RJ7, "fill", "([II)V"⟩
def RL : String := "RingrollLaw"
abbrev cL_allow : ByteArray := method_3_code
def yL_allow : MethodName := ⟨RL, "allow", "(LRingroll;II[J)I"⟩
abbrev cL_setImage : ByteArray := method_4_code
def yL_setImage : MethodName := ⟨RL, "setImage", "(LRingroll;II[J)I"⟩
abbrev cL_setDelta : ByteArray := method_5_code
def yL_setDelta : MethodName := ⟨RL, "setDelta", "(LRingroll;III[J)I"⟩
abbrev cL_size : ByteArray := method_6_code
def yL_size : MethodName := ⟨RL, "size", "(LRingroll;II[J)I"⟩
abbrev cL_sizeByWays : ByteArray := method_7_code
def yL_sizeByWays : MethodName := ⟨RL, "sizeByWays", "(LRingroll;II[J)I"⟩
abbrev cL_addDevice : ByteArray := method_8_code
def yL_addDevice : MethodName := ⟨RL, "addDevice", "(LRingroll;II[J)I"⟩
abbrev cL_charge : ByteArray := method_9_code
def yL_charge : MethodName := ⟨RL, "charge", "(LRingroll;II[J)I"⟩
abbrev cL_setWindow : ByteArray := method_10_code
def yL_setWindow : MethodName := ⟨RL, "setWindow", "(LRingroll;III)I"⟩
abbrev cL_report : ByteArray := method_11_code
def yL_report : MethodName := ⟨RL, "report", "(LRingroll;IZ[J)I"⟩
abbrev cL_state : ByteArray := method_12_code
def yL_state : MethodName := ⟨RL, "state", "(LRingroll;I[J)I"⟩
abbrev cL_version : ByteArray := method_13_code
def yL_version : MethodName := ⟨RL, "version", "(LRingroll;I[J)I"⟩
abbrev cL_campaignOf : ByteArray := method_14_code
def yL_campaignOf : MethodName := ⟨RL, "campaignOf", "(LRingroll;I[J)I"⟩
abbrev cL_toGo : ByteArray := method_15_code
def yL_toGo : MethodName := ⟨RL, "toGo", "(LRingroll;I[J)I"⟩
abbrev cL_battery : ByteArray := method_16_code
def yL_battery : MethodName := ⟨RL, "battery", "(LRingroll;I[J)I"⟩
abbrev cL_begin : ByteArray := method_17_code
def yL_begin : MethodName := ⟨RL, "begin", "(LRingroll;IIII[J)I"⟩
abbrev cL_setRules : ByteArray := method_18_code
def yL_setRules : MethodName := ⟨RL, "setRules", "(LRingroll;IIIII)I"⟩
abbrev cL_toggle : ByteArray := method_19_code
def yL_toggle : MethodName := ⟨RL, "toggle", "(LRingroll;I[J)I"⟩
abbrev cL_isActive : ByteArray := method_20_code
def yL_isActive : MethodName := ⟨RL, "isActive", "(LRingroll;I[J)I"⟩
abbrev cL_ring : ByteArray := method_21_code
def yL_ring : MethodName := ⟨RL, "ring", "(LRingroll;I[J)I"⟩
abbrev cL_reports : ByteArray := method_22_code
def yL_reports : MethodName := ⟨RL, "reports", "(LRingroll;I[J)I"⟩
abbrev cL_eligible : ByteArray := method_23_code
def yL_eligible : MethodName := ⟨RL, "eligible", "(LRingroll;I[J)I"⟩
abbrev cL_pass : ByteArray := method_24_code
def yL_pass : MethodName := ⟨RL, "pass", "(LRingroll;I[J)I"⟩
abbrev cL_law : ByteArray := code
def yL_law : MethodName := ⟨RL, "law", "([I)Z"⟩
def wsX0_init : List Cond := .code yX0_init cX0_init 2 none :: ([.methodLink RX0 3 objectInit, .instanceMethod objectInit, .code objectInit ⟨#[0xb1]⟩ 1 none, .fieldLink RX0 9 "Ringroll$Campaign" "target" "I", .fieldLink RX0 15 "Ringroll$Campaign" "kinds" "I", .fieldLink RX0 18 "Ringroll$Campaign" "versions" "I", .fieldLink RX0 21 "Ringroll$Campaign" "firstShare" "I", .fieldLink RX0 24 "Ringroll$Campaign" "secondShare" "I", .fieldLink RX0 27 "Ringroll$Campaign" "needs" "I", .fieldLink RX0 30 "Ringroll$Campaign" "thousandths" "I", .fieldLink RX0 33 "Ringroll$Campaign" "isActive" "Z", .fieldLink RX0 37 "Ringroll$Campaign" "ring" "I", .fieldLink RX0 40 "Ringroll$Campaign" "reports" "I", .fieldLink RX0 43 "Ringroll$Campaign" "failures" "I", .fieldLink RX0 46 "Ringroll$Campaign" "reporters" "I", .fieldLink RX0 49 "Ringroll$Campaign" "number" "I"] ++ wsX00)
def wsX3_has : List Cond := .code yX3_has cX3_has 2 (some .boolean) :: ([])
def wsX0_drawOf : List Cond := .code yX0_drawOf cX0_drawOf 2 (some .int) :: ([.fieldLink RX0 72 "Ringroll$Device" "number" "I", .fieldLink RX0 49 "Ringroll$Campaign" "number" "I"] ++ wsX10 ++ wsX00)
def wsX0_share : List Cond := .code yX0_share cX0_share 1 (some .int) :: ([.fieldLink RX0 37 "Ringroll$Campaign" "ring" "I", .fieldLink RX0 21 "Ringroll$Campaign" "firstShare" "I", .fieldLink RX0 24 "Ringroll$Campaign" "secondShare" "I"] ++ wsX00)
def wsX0_isFor : List Cond := .code yX0_isFor cX0_isFor 2 (some .boolean) :: ([.fieldLink RX0 33 "Ringroll$Campaign" "isActive" "Z", .fieldLink RX0 15 "Ringroll$Campaign" "kinds" "I", .fieldLink RX0 52 "Ringroll$Device" "kind" "I", .fieldLink RX0 18 "Ringroll$Campaign" "versions" "I", .fieldLink RX0 61 "Ringroll$Device" "version" "I", .fieldLink RX0 9 "Ringroll$Campaign" "target" "I", .fieldLink RX0 46 "Ringroll$Campaign" "reporters" "I", .fieldLink RX0 72 "Ringroll$Device" "number" "I", .static yX3_has, .initialized RX3, .code yX3_has cX3_has 2 (some .boolean), .methodLink RX0 64 yX0_drawOf, .instanceMethod yX0_drawOf, .selects RX0 yX0_drawOf yX0_drawOf, .initialized RX0, .code yX0_drawOf cX0_drawOf 2 (some .int), .fieldLink RX0 49 "Ringroll$Campaign" "number" "I", .methodLink RX0 68 yX0_share, .instanceMethod yX0_share, .selects RX0 yX0_share yX0_share, .code yX0_share cX0_share 1 (some .int), .fieldLink RX0 37 "Ringroll$Campaign" "ring" "I", .fieldLink RX0 21 "Ringroll$Campaign" "firstShare" "I", .fieldLink RX0 24 "Ringroll$Campaign" "secondShare" "I"] ++ wsX00 ++ wsX10)
def wsX0_countReport : List Cond := .code yX0_countReport cX0_countReport 3 none :: ([.fieldLink RX0 46 "Ringroll$Campaign" "reporters" "I", .fieldLink RX0 72 "Ringroll$Device" "number" "I", .fieldLink RX0 40 "Ringroll$Campaign" "reports" "I", .fieldLink RX0 43 "Ringroll$Campaign" "failures" "I"] ++ wsX00 ++ wsX10)
def wsX0_beginRing : List Cond := .code yX0_beginRing cX0_beginRing 2 none :: ([.fieldLink RX0 37 "Ringroll$Campaign" "ring" "I", .fieldLink RX0 40 "Ringroll$Campaign" "reports" "I", .fieldLink RX0 43 "Ringroll$Campaign" "failures" "I"] ++ wsX00)
def wsX0_judgeRing : List Cond := .code yX0_judgeRing cX0_judgeRing 1 none :: ([.fieldLink RX0 33 "Ringroll$Campaign" "isActive" "Z", .fieldLink RX0 40 "Ringroll$Campaign" "reports" "I", .fieldLink RX0 27 "Ringroll$Campaign" "needs" "I", .fieldLink RX0 43 "Ringroll$Campaign" "failures" "I", .fieldLink RX0 30 "Ringroll$Campaign" "thousandths" "I", .fieldLink RX0 37 "Ringroll$Campaign" "ring" "I", .methodLink RX0 73 yX0_beginRing, .instanceMethod yX0_beginRing, .selects RX0 yX0_beginRing yX0_beginRing, .initialized RX0, .code yX0_beginRing cX0_beginRing 2 none] ++ wsX00)
def wsX1_init : List Cond := .code yX1_init cX1_init 2 none :: ([.methodLink RX1 3 objectInit, .instanceMethod objectInit, .code objectInit ⟨#[0xb1]⟩ 1 none, .fieldLink RX1 9 "Ringroll$Device" "kind" "I", .fieldLink RX1 15 "Ringroll$Device" "version" "I", .fieldLink RX1 18 "Ringroll$Device" "battery" "I", .fieldLink RX1 21 "Ringroll$Device" "firstHour" "I", .fieldLink RX1 24 "Ringroll$Device" "lastHour" "I", .fieldLink RX1 27 "Ringroll$Device" "state" "I", .fieldLink RX1 30 "Ringroll$Device" "campaign" "I", .fieldLink RX1 33 "Ringroll$Device" "bytesToGo" "I", .fieldLink RX1 36 "Ringroll$Device" "number" "I"] ++ wsX10)
def wsX1_take : List Cond := .code yX1_take cX1_take 3 none :: ([.fieldLink RX1 27 "Ringroll$Device" "state" "I", .fieldLink RX1 39 "Ringroll$Campaign" "number" "I", .fieldLink RX1 30 "Ringroll$Device" "campaign" "I", .fieldLink RX1 33 "Ringroll$Device" "bytesToGo" "I"] ++ wsX10 ++ wsX00)
def wsX1_isInWindow : List Cond := .code yX1_isInWindow cX1_isInWindow 2 (some .boolean) :: ([.fieldLink RX1 21 "Ringroll$Device" "firstHour" "I", .fieldLink RX1 24 "Ringroll$Device" "lastHour" "I"] ++ wsX10)
def wsX1_canLoad : List Cond := .code yX1_canLoad cX1_canLoad 2 (some .boolean) :: ([.fieldLink RX1 27 "Ringroll$Device" "state" "I", .fieldLink RX1 18 "Ringroll$Device" "battery" "I", .methodLink RX1 42 yX1_isInWindow, .instanceMethod yX1_isInWindow, .selects RX1 yX1_isInWindow yX1_isInWindow, .initialized RX1, .code yX1_isInWindow cX1_isInWindow 2 (some .boolean), .fieldLink RX1 21 "Ringroll$Device" "firstHour" "I", .fieldLink RX1 24 "Ringroll$Device" "lastHour" "I"] ++ wsX10)
def wsX1_load : List Cond := .code yX1_load cX1_load 1 none :: ([.fieldLink RX1 33 "Ringroll$Device" "bytesToGo" "I", .methodLink RX1 46 Lib.Math.max.name, .static Lib.Math.max.name, .initialized "java/lang/Math", .code Lib.Math.max.name Lib.Math.max.code 2 (some .int), .fieldLink RX1 18 "Ringroll$Device" "battery" "I", .fieldLink RX1 27 "Ringroll$Device" "state" "I"] ++ wsX10)
def wsJ7_fill_53178 : List Cond := .code yJ7_fill_53178 cJ7_fill_53178 4 none :: ([])
def wsX2_orFar : List Cond := .code yX2_orFar cX2_orFar 1 (some .int) :: ([.constant RX2 49 (1000000)])
def wsX2_measureVia : List Cond := .code yX2_measureVia cX2_measureVia 5 none :: ([.fieldLink RX2 20 "Ringroll$Ways" "leastByDeltas" "[[I", .methodLink RX2 35 Lib.Math.min.name, .static Lib.Math.min.name, .initialized "java/lang/Math", .code Lib.Math.min.name Lib.Math.min.code 2 (some .int)] ++ wsX20)
def wsX2_measure : List Cond := .code yX2_measure cX2_measure 3 none :: ([.fieldLink RX2 20 "Ringroll$Ways" "leastByDeltas" "[[I", .fieldLink RX2 17 "Ringroll$Ways" "deltas" "[[I", .fieldLink RX2 23 "Ringroll$Ways" "leastByImage" "[I", .constant RX2 49 (1000000), .fieldLink RX2 9 "Ringroll$Ways" "images" "[I", .methodLink RX2 35 Lib.Math.min.name, .static Lib.Math.min.name, .initialized "java/lang/Math", .code Lib.Math.min.name Lib.Math.min.code 2 (some .int), .methodLink RX2 54 yX2_orFar, .static yX2_orFar, .initialized RX2, .code yX2_orFar cX2_orFar 1 (some .int), .methodLink RX2 57 yX2_measureVia, .instanceMethod yX2_measureVia, .selects RX2 yX2_measureVia yX2_measureVia, .code yX2_measureVia cX2_measureVia 5 none] ++ wsX20)
def wsX2_init_r1 : List Cond := [Cond.methodLink RX2 3 objectInit, Cond.instanceMethod objectInit, Cond.code objectInit ⟨#[0xb1]⟩ 1 none, Cond.arrayClass .int, Cond.fieldLink RX2 9 "Ringroll$Ways" "images" "[I", Cond.classLink RX2 15 "[[I", Cond.fieldLink RX2 17 "Ringroll$Ways" "deltas" "[[I", Cond.fieldLink RX2 20 "Ringroll$Ways" "leastByDeltas" "[[I", Cond.fieldLink RX2 23 "Ringroll$Ways" "leastByImage" "[I", Cond.methodLink RX2 26 yJ7_fill_53178, Cond.static yJ7_fill_53178, Cond.initialized RJ7, Cond.code yJ7_fill_53178 cJ7_fill_53178 4 none, Cond.methodLink RX2 32 yX2_measure, Cond.instanceMethod yX2_measure, Cond.selects RX2 yX2_measure yX2_measure, Cond.initialized RX2, Cond.code yX2_measure cX2_measure 3 none, Cond.constant RX2 49 (1000000), Cond.methodLink RX2 35 Lib.Math.min.name, Cond.static Lib.Math.min.name, Cond.initialized "java/lang/Math", Cond.code Lib.Math.min.name Lib.Math.min.code 2 (some .int), Cond.methodLink RX2 54 yX2_orFar]
def wsX2_init_r2 : List Cond := [Cond.static yX2_orFar, Cond.code yX2_orFar cX2_orFar 1 (some .int), Cond.methodLink RX2 57 yX2_measureVia, Cond.instanceMethod yX2_measureVia, Cond.selects RX2 yX2_measureVia yX2_measureVia, Cond.code yX2_measureVia cX2_measureVia 5 none]
def wsX2_init : List Cond := .code yX2_init cX2_init 2 none :: ((wsX2_init_r1 ++ wsX2_init_r2) ++ wsX20)
def wsX2_changeImage : List Cond := .code yX2_changeImage cX2_changeImage 4 (some .int) :: ([.fieldLink RX2 9 "Ringroll$Ways" "images" "[I", .methodLink RX2 32 yX2_measure, .instanceMethod yX2_measure, .selects RX2 yX2_measure yX2_measure, .initialized RX2, .code yX2_measure cX2_measure 3 none, .fieldLink RX2 20 "Ringroll$Ways" "leastByDeltas" "[[I", .fieldLink RX2 17 "Ringroll$Ways" "deltas" "[[I", .fieldLink RX2 23 "Ringroll$Ways" "leastByImage" "[I", .constant RX2 49 (1000000), .methodLink RX2 35 Lib.Math.min.name, .static Lib.Math.min.name, .initialized "java/lang/Math", .code Lib.Math.min.name Lib.Math.min.code 2 (some .int), .methodLink RX2 54 yX2_orFar, .static yX2_orFar, .code yX2_orFar cX2_orFar 1 (some .int), .methodLink RX2 57 yX2_measureVia, .instanceMethod yX2_measureVia, .selects RX2 yX2_measureVia yX2_measureVia, .code yX2_measureVia cX2_measureVia 5 none] ++ wsX20)
def wsX2_changeDelta : List Cond := .code yX2_changeDelta cX2_changeDelta 5 (some .int) :: ([.fieldLink RX2 17 "Ringroll$Ways" "deltas" "[[I", .methodLink RX2 32 yX2_measure, .instanceMethod yX2_measure, .selects RX2 yX2_measure yX2_measure, .initialized RX2, .code yX2_measure cX2_measure 3 none, .fieldLink RX2 20 "Ringroll$Ways" "leastByDeltas" "[[I", .fieldLink RX2 23 "Ringroll$Ways" "leastByImage" "[I", .constant RX2 49 (1000000), .fieldLink RX2 9 "Ringroll$Ways" "images" "[I", .methodLink RX2 35 Lib.Math.min.name, .static Lib.Math.min.name, .initialized "java/lang/Math", .code Lib.Math.min.name Lib.Math.min.code 2 (some .int), .methodLink RX2 54 yX2_orFar, .static yX2_orFar, .code yX2_orFar cX2_orFar 1 (some .int), .methodLink RX2 57 yX2_measureVia, .instanceMethod yX2_measureVia, .selects RX2 yX2_measureVia yX2_measureVia, .code yX2_measureVia cX2_measureVia 5 none] ++ wsX20)
def wsX2_orNone : List Cond := .code yX2_orNone cX2_orNone 1 (some .int) :: ([.constant RX2 49 (1000000)])
def wsX2_leastBytes : List Cond := .code yX2_leastBytes cX2_leastBytes 3 (some .int) :: ([.fieldLink RX2 20 "Ringroll$Ways" "leastByDeltas" "[[I", .fieldLink RX2 23 "Ringroll$Ways" "leastByImage" "[I", .methodLink RX2 35 Lib.Math.min.name, .static Lib.Math.min.name, .initialized "java/lang/Math", .code Lib.Math.min.name Lib.Math.min.code 2 (some .int), .methodLink RX2 41 yX2_orNone, .static yX2_orNone, .initialized RX2, .code yX2_orNone cX2_orNone 1 (some .int), .constant RX2 49 (1000000)] ++ wsX20)
def wsX2_leastAlong : List Cond := .code yX2_leastAlong cX2_leastAlong 8 (some .int) :: ([.constant RX2 49 (1000000), .methodLink RX2 35 Lib.Math.min.name, .static Lib.Math.min.name, .initialized "java/lang/Math", .code Lib.Math.min.name Lib.Math.min.code 2 (some .int), .static yX3_has, .initialized RX3, .code yX3_has cX3_has 2 (some .boolean), .methodLink RX2 45 yX2_leastAlong, .static yX2_leastAlong, .initialized RX2])
def wsX2_leastBytesOfAllWays : List Cond := .code yX2_leastBytesOfAllWays cX2_leastBytesOfAllWays 5 (some .int) :: ([.fieldLink RX2 17 "Ringroll$Ways" "deltas" "[[I", .fieldLink RX2 9 "Ringroll$Ways" "images" "[I", .methodLink RX2 35 Lib.Math.min.name, .static Lib.Math.min.name, .initialized "java/lang/Math", .code Lib.Math.min.name Lib.Math.min.code 2 (some .int), .methodLink RX2 45 yX2_leastAlong, .static yX2_leastAlong, .initialized RX2, .code yX2_leastAlong cX2_leastAlong 8 (some .int), .constant RX2 49 (1000000), .static yX3_has, .initialized RX3, .code yX3_has cX3_has 2 (some .boolean), .methodLink RX2 41 yX2_orNone, .static yX2_orNone, .code yX2_orNone cX2_orNone 1 (some .int)] ++ wsX20)
def wsX3_init_r1 : List Cond := [Cond.methodLink RX3 1 objectInit, Cond.instanceMethod objectInit, Cond.code objectInit ⟨#[0xb1]⟩ 1 none, Cond.arrayClass .int, Cond.fieldLink RX3 9 "Ringroll" "kindsOfVersion" "[I", Cond.classLink RX3 13 RX2, Cond.instantiable RX2 4, Cond.initialized RX2, Cond.fieldLink RX3 16 "Ringroll" "ways" "LRingroll$Ways;", Cond.classLink RX3 20 RX1, Cond.fieldLink RX3 22 "Ringroll" "fleet" "[LRingroll$Device;", Cond.classLink RX3 26 RX0, Cond.fieldLink RX3 28 "Ringroll" "campaigns" "[LRingroll$Campaign;", Cond.fieldLink RX3 32 "Ringroll" "deviceCount" "I", Cond.fieldLink RX3 36 "Ringroll" "campaignCount" "I", Cond.fieldLink RX3 39 "Ringroll" "hourOfDay" "I", Cond.instantiable RX1 9, Cond.initialized RX1, Cond.instantiable RX0 13, Cond.initialized RX0, Cond.methodLink RX3 15 yX2_init, Cond.instanceMethod yX2_init, Cond.code yX2_init cX2_init 2 none, Cond.methodLink RX2 3 objectInit]
def wsX3_init_r2 : List Cond := [Cond.fieldLink RX2 9 "Ringroll$Ways" "images" "[I", Cond.classLink RX2 15 "[[I", Cond.fieldLink RX2 17 "Ringroll$Ways" "deltas" "[[I", Cond.fieldLink RX2 20 "Ringroll$Ways" "leastByDeltas" "[[I", Cond.fieldLink RX2 23 "Ringroll$Ways" "leastByImage" "[I", Cond.methodLink RX2 26 yJ7_fill_53178, Cond.static yJ7_fill_53178, Cond.initialized RJ7, Cond.code yJ7_fill_53178 cJ7_fill_53178 4 none, Cond.methodLink RX2 32 yX2_measure, Cond.instanceMethod yX2_measure, Cond.selects RX2 yX2_measure yX2_measure, Cond.code yX2_measure cX2_measure 3 none, Cond.constant RX2 49 (1000000), Cond.methodLink RX2 35 Lib.Math.min.name, Cond.static Lib.Math.min.name, Cond.initialized "java/lang/Math", Cond.code Lib.Math.min.name Lib.Math.min.code 2 (some .int), Cond.methodLink RX2 54 yX2_orFar, Cond.static yX2_orFar, Cond.code yX2_orFar cX2_orFar 1 (some .int), Cond.methodLink RX2 57 yX2_measureVia, Cond.instanceMethod yX2_measureVia, Cond.selects RX2 yX2_measureVia yX2_measureVia]
def wsX3_init_r3 : List Cond := [Cond.code yX2_measureVia cX2_measureVia 5 none, Cond.methodLink RX3 42 yJ7_fill_53178, Cond.methodLink RX3 48 yX1_init, Cond.instanceMethod yX1_init, Cond.code yX1_init cX1_init 2 none, Cond.methodLink RX1 3 objectInit, Cond.fieldLink RX1 9 "Ringroll$Device" "kind" "I", Cond.fieldLink RX1 15 "Ringroll$Device" "version" "I", Cond.fieldLink RX1 18 "Ringroll$Device" "battery" "I", Cond.fieldLink RX1 21 "Ringroll$Device" "firstHour" "I", Cond.fieldLink RX1 24 "Ringroll$Device" "lastHour" "I", Cond.fieldLink RX1 27 "Ringroll$Device" "state" "I", Cond.fieldLink RX1 30 "Ringroll$Device" "campaign" "I", Cond.fieldLink RX1 33 "Ringroll$Device" "bytesToGo" "I", Cond.fieldLink RX1 36 "Ringroll$Device" "number" "I", Cond.methodLink RX3 51 yX0_init, Cond.instanceMethod yX0_init, Cond.code yX0_init cX0_init 2 none, Cond.methodLink RX0 3 objectInit, Cond.fieldLink RX0 9 "Ringroll$Campaign" "target" "I", Cond.fieldLink RX0 15 "Ringroll$Campaign" "kinds" "I", Cond.fieldLink RX0 18 "Ringroll$Campaign" "versions" "I", Cond.fieldLink RX0 21 "Ringroll$Campaign" "firstShare" "I", Cond.fieldLink RX0 24 "Ringroll$Campaign" "secondShare" "I"]
def wsX3_init_r4 : List Cond := [Cond.fieldLink RX0 27 "Ringroll$Campaign" "needs" "I", Cond.fieldLink RX0 30 "Ringroll$Campaign" "thousandths" "I", Cond.fieldLink RX0 33 "Ringroll$Campaign" "isActive" "Z", Cond.fieldLink RX0 37 "Ringroll$Campaign" "ring" "I", Cond.fieldLink RX0 40 "Ringroll$Campaign" "reports" "I", Cond.fieldLink RX0 43 "Ringroll$Campaign" "failures" "I", Cond.fieldLink RX0 46 "Ringroll$Campaign" "reporters" "I", Cond.fieldLink RX0 49 "Ringroll$Campaign" "number" "I"]
def wsX3_init : List Cond := .code yX3_init cX3_init 2 none :: ((wsX3_init_r1 ++ (wsX3_init_r2 ++ (wsX3_init_r3 ++ wsX3_init_r4))) ++ wsX30 ++ wsX20 ++ wsX10 ++ wsX00)
def wsX3_needVersion : List Cond := .code yX3_needVersion cX3_needVersion 1 none :: ([.classLink RX3 83 "java/lang/IndexOutOfBoundsException", .initialized "java/lang/IndexOutOfBoundsException"] ++ (vx_atS RX3 87 "java/lang/IndexOutOfBoundsException" ["java/lang/RuntimeException", "java/lang/Exception"]).filter goodWord)
def wsX3_needRange : List Cond := .code yX3_needRange cX3_needRange 3 none :: ([.classLink RX3 66 "java/lang/IllegalArgumentException", .initialized "java/lang/IllegalArgumentException"] ++ (vx_atS RX3 70 "java/lang/IllegalArgumentException" ["java/lang/RuntimeException", "java/lang/Exception"]).filter goodWord)
def wsX3_allow : List Cond := .code yX3_allow cX3_allow 4 (some .int) :: ([.fieldLink RX3 9 "Ringroll" "kindsOfVersion" "[I", .methodLink RX3 52 yX3_needVersion, .static yX3_needVersion, .initialized RX3, .code yX3_needVersion cX3_needVersion 1 none, .classLink RX3 83 "java/lang/IndexOutOfBoundsException", .initialized "java/lang/IndexOutOfBoundsException", .methodLink RX3 55 yX3_needRange, .static yX3_needRange, .code yX3_needRange cX3_needRange 3 none, .classLink RX3 66 "java/lang/IllegalArgumentException", .initialized "java/lang/IllegalArgumentException"] ++ wsX30 ++ (vx_atS RX3 87 "java/lang/IndexOutOfBoundsException" ["java/lang/RuntimeException", "java/lang/Exception"]).filter goodWord ++ (vx_atS RX3 70 "java/lang/IllegalArgumentException" ["java/lang/RuntimeException", "java/lang/Exception"]).filter goodWord)
def wsX3_needBytesOrNone : List Cond := .code yX3_needBytesOrNone cX3_needBytesOrNone 1 none :: ([.constant RX3 216 (100000), .methodLink RX3 55 yX3_needRange, .static yX3_needRange, .initialized RX3, .code yX3_needRange cX3_needRange 3 none, .classLink RX3 66 "java/lang/IllegalArgumentException", .initialized "java/lang/IllegalArgumentException"] ++ (vx_atS RX3 70 "java/lang/IllegalArgumentException" ["java/lang/RuntimeException", "java/lang/Exception"]).filter goodWord)
def wsX3_setImage_r1 : List Cond := [Cond.fieldLink RX3 16 "Ringroll" "ways" "LRingroll$Ways;", Cond.methodLink RX3 52 yX3_needVersion, Cond.static yX3_needVersion, Cond.initialized RX3, Cond.code yX3_needVersion cX3_needVersion 1 none, Cond.classLink RX3 83 "java/lang/IndexOutOfBoundsException", Cond.initialized "java/lang/IndexOutOfBoundsException", Cond.methodLink RX3 59 yX3_needBytesOrNone, Cond.static yX3_needBytesOrNone, Cond.code yX3_needBytesOrNone cX3_needBytesOrNone 1 none, Cond.constant RX3 216 (100000), Cond.methodLink RX3 55 yX3_needRange, Cond.static yX3_needRange, Cond.code yX3_needRange cX3_needRange 3 none, Cond.classLink RX3 66 "java/lang/IllegalArgumentException", Cond.initialized "java/lang/IllegalArgumentException", Cond.methodLink RX3 62 yX2_changeImage, Cond.instanceMethod yX2_changeImage, Cond.selects RX2 yX2_changeImage yX2_changeImage, Cond.initialized RX2, Cond.code yX2_changeImage cX2_changeImage 4 (some .int), Cond.fieldLink RX2 9 "Ringroll$Ways" "images" "[I", Cond.methodLink RX2 32 yX2_measure, Cond.instanceMethod yX2_measure]
def wsX3_setImage_r2 : List Cond := [Cond.selects RX2 yX2_measure yX2_measure, Cond.code yX2_measure cX2_measure 3 none, Cond.fieldLink RX2 20 "Ringroll$Ways" "leastByDeltas" "[[I", Cond.fieldLink RX2 17 "Ringroll$Ways" "deltas" "[[I", Cond.fieldLink RX2 23 "Ringroll$Ways" "leastByImage" "[I", Cond.constant RX2 49 (1000000), Cond.methodLink RX2 35 Lib.Math.min.name, Cond.static Lib.Math.min.name, Cond.initialized "java/lang/Math", Cond.code Lib.Math.min.name Lib.Math.min.code 2 (some .int), Cond.methodLink RX2 54 yX2_orFar, Cond.static yX2_orFar, Cond.code yX2_orFar cX2_orFar 1 (some .int), Cond.methodLink RX2 57 yX2_measureVia, Cond.instanceMethod yX2_measureVia, Cond.selects RX2 yX2_measureVia yX2_measureVia, Cond.code yX2_measureVia cX2_measureVia 5 none]
def wsX3_setImage : List Cond := .code yX3_setImage cX3_setImage 3 (some .int) :: ((wsX3_setImage_r1 ++ wsX3_setImage_r2) ++ wsX30 ++ wsX20 ++ (vx_atS RX3 87 "java/lang/IndexOutOfBoundsException" ["java/lang/RuntimeException", "java/lang/Exception"]).filter goodWord ++ (vx_atS RX3 70 "java/lang/IllegalArgumentException" ["java/lang/RuntimeException", "java/lang/Exception"]).filter goodWord)
def wsX3_setDelta_r1 : List Cond := [Cond.classLink RX3 66 "java/lang/IllegalArgumentException", Cond.initialized "java/lang/IllegalArgumentException", Cond.fieldLink RX3 16 "Ringroll" "ways" "LRingroll$Ways;", Cond.methodLink RX3 52 yX3_needVersion, Cond.static yX3_needVersion, Cond.initialized RX3, Cond.code yX3_needVersion cX3_needVersion 1 none, Cond.classLink RX3 83 "java/lang/IndexOutOfBoundsException", Cond.initialized "java/lang/IndexOutOfBoundsException", Cond.methodLink RX3 59 yX3_needBytesOrNone, Cond.static yX3_needBytesOrNone, Cond.code yX3_needBytesOrNone cX3_needBytesOrNone 1 none, Cond.constant RX3 216 (100000), Cond.methodLink RX3 55 yX3_needRange, Cond.static yX3_needRange, Cond.code yX3_needRange cX3_needRange 3 none, Cond.methodLink RX3 73 yX2_changeDelta, Cond.instanceMethod yX2_changeDelta, Cond.selects RX2 yX2_changeDelta yX2_changeDelta, Cond.initialized RX2, Cond.code yX2_changeDelta cX2_changeDelta 5 (some .int), Cond.fieldLink RX2 17 "Ringroll$Ways" "deltas" "[[I", Cond.methodLink RX2 32 yX2_measure, Cond.instanceMethod yX2_measure]
def wsX3_setDelta_r2 : List Cond := [Cond.selects RX2 yX2_measure yX2_measure, Cond.code yX2_measure cX2_measure 3 none, Cond.fieldLink RX2 20 "Ringroll$Ways" "leastByDeltas" "[[I", Cond.fieldLink RX2 23 "Ringroll$Ways" "leastByImage" "[I", Cond.constant RX2 49 (1000000), Cond.fieldLink RX2 9 "Ringroll$Ways" "images" "[I", Cond.methodLink RX2 35 Lib.Math.min.name, Cond.static Lib.Math.min.name, Cond.initialized "java/lang/Math", Cond.code Lib.Math.min.name Lib.Math.min.code 2 (some .int), Cond.methodLink RX2 54 yX2_orFar, Cond.static yX2_orFar, Cond.code yX2_orFar cX2_orFar 1 (some .int), Cond.methodLink RX2 57 yX2_measureVia, Cond.instanceMethod yX2_measureVia, Cond.selects RX2 yX2_measureVia yX2_measureVia, Cond.code yX2_measureVia cX2_measureVia 5 none]
def wsX3_setDelta : List Cond := .code yX3_setDelta cX3_setDelta 4 (some .int) :: ((wsX3_setDelta_r1 ++ wsX3_setDelta_r2) ++ wsX30 ++ wsX20 ++ (vx_atS RX3 70 "java/lang/IllegalArgumentException" ["java/lang/RuntimeException", "java/lang/Exception"]).filter goodWord ++ (vx_atS RX3 87 "java/lang/IndexOutOfBoundsException" ["java/lang/RuntimeException", "java/lang/Exception"]).filter goodWord)
def wsX3_size : List Cond := .code yX3_size cX3_size 3 (some .int) :: ([.fieldLink RX3 16 "Ringroll" "ways" "LRingroll$Ways;", .methodLink RX3 52 yX3_needVersion, .static yX3_needVersion, .initialized RX3, .code yX3_needVersion cX3_needVersion 1 none, .classLink RX3 83 "java/lang/IndexOutOfBoundsException", .initialized "java/lang/IndexOutOfBoundsException", .methodLink RX3 77 yX2_leastBytes, .instanceMethod yX2_leastBytes, .selects RX2 yX2_leastBytes yX2_leastBytes, .initialized RX2, .code yX2_leastBytes cX2_leastBytes 3 (some .int), .fieldLink RX2 20 "Ringroll$Ways" "leastByDeltas" "[[I", .fieldLink RX2 23 "Ringroll$Ways" "leastByImage" "[I", .methodLink RX2 35 Lib.Math.min.name, .static Lib.Math.min.name, .initialized "java/lang/Math", .code Lib.Math.min.name Lib.Math.min.code 2 (some .int), .methodLink RX2 41 yX2_orNone, .static yX2_orNone, .code yX2_orNone cX2_orNone 1 (some .int), .constant RX2 49 (1000000)] ++ wsX30 ++ wsX20 ++ (vx_atS RX3 87 "java/lang/IndexOutOfBoundsException" ["java/lang/RuntimeException", "java/lang/Exception"]).filter goodWord)
def wsX3_sizeByWays_r1 : List Cond := [Cond.fieldLink RX3 16 "Ringroll" "ways" "LRingroll$Ways;", Cond.methodLink RX3 52 yX3_needVersion, Cond.static yX3_needVersion, Cond.initialized RX3, Cond.code yX3_needVersion cX3_needVersion 1 none, Cond.classLink RX3 83 "java/lang/IndexOutOfBoundsException", Cond.initialized "java/lang/IndexOutOfBoundsException", Cond.methodLink RX3 80 yX2_leastBytesOfAllWays, Cond.instanceMethod yX2_leastBytesOfAllWays, Cond.selects RX2 yX2_leastBytesOfAllWays yX2_leastBytesOfAllWays, Cond.initialized RX2, Cond.code yX2_leastBytesOfAllWays cX2_leastBytesOfAllWays 5 (some .int), Cond.fieldLink RX2 17 "Ringroll$Ways" "deltas" "[[I", Cond.fieldLink RX2 9 "Ringroll$Ways" "images" "[I", Cond.methodLink RX2 35 Lib.Math.min.name, Cond.static Lib.Math.min.name, Cond.initialized "java/lang/Math", Cond.code Lib.Math.min.name Lib.Math.min.code 2 (some .int), Cond.methodLink RX2 45 yX2_leastAlong, Cond.static yX2_leastAlong, Cond.code yX2_leastAlong cX2_leastAlong 8 (some .int), Cond.constant RX2 49 (1000000), Cond.static yX3_has, Cond.code yX3_has cX3_has 2 (some .boolean)]
def wsX3_sizeByWays_r2 : List Cond := [Cond.methodLink RX2 41 yX2_orNone, Cond.static yX2_orNone, Cond.code yX2_orNone cX2_orNone 1 (some .int)]
def wsX3_sizeByWays : List Cond := .code yX3_sizeByWays cX3_sizeByWays 3 (some .int) :: ((wsX3_sizeByWays_r1 ++ wsX3_sizeByWays_r2) ++ wsX30 ++ wsX20 ++ (vx_atS RX3 87 "java/lang/IndexOutOfBoundsException" ["java/lang/RuntimeException", "java/lang/Exception"]).filter goodWord)
def wsX3_addDevice : List Cond := .code yX3_addDevice cX3_addDevice 4 (some .int) :: ([.classLink RX3 83 "java/lang/IndexOutOfBoundsException", .initialized "java/lang/IndexOutOfBoundsException", .classLink RX3 88 "java/lang/IllegalStateException", .initialized "java/lang/IllegalStateException", .fieldLink RX3 32 "Ringroll" "deviceCount" "I", .fieldLink RX3 9 "Ringroll" "kindsOfVersion" "[I", .fieldLink RX3 22 "Ringroll" "fleet" "[LRingroll$Device;", .fieldLink RX3 99 "Ringroll$Device" "kind" "I", .fieldLink RX3 102 "Ringroll$Device" "version" "I", .fieldLink RX3 105 "Ringroll$Device" "number" "I", .methodLink RX3 52 yX3_needVersion, .static yX3_needVersion, .initialized RX3, .code yX3_needVersion cX3_needVersion 1 none, .methodLink RX3 93 yX3_has, .static yX3_has, .code yX3_has cX3_has 2 (some .boolean)] ++ wsX30 ++ wsX10 ++ (vx_atS RX3 87 "java/lang/IndexOutOfBoundsException" ["java/lang/RuntimeException", "java/lang/Exception"]).filter goodWord ++ (vx_atS RX3 92 "java/lang/IllegalStateException" ["java/lang/RuntimeException", "java/lang/Exception"]).filter goodWord)
def wsX3_deviceAt : List Cond := .code yX3_deviceAt cX3_deviceAt 2 (some (.object "Ringroll$Device")) :: ([.classLink RX3 83 "java/lang/IndexOutOfBoundsException", .initialized "java/lang/IndexOutOfBoundsException", .fieldLink RX3 32 "Ringroll" "deviceCount" "I", .fieldLink RX3 22 "Ringroll" "fleet" "[LRingroll$Device;"] ++ wsX30 ++ (vx_atS RX3 87 "java/lang/IndexOutOfBoundsException" ["java/lang/RuntimeException", "java/lang/Exception"]).filter goodWord)
def wsX3_charge : List Cond := .code yX3_charge cX3_charge 5 (some .int) :: ([.fieldLink RX3 112 "Ringroll$Device" "battery" "I", .methodLink RX3 108 yX3_deviceAt, .instanceMethod yX3_deviceAt, .selects RX3 yX3_deviceAt yX3_deviceAt, .initialized RX3, .code yX3_deviceAt cX3_deviceAt 2 (some (.object "Ringroll$Device")), .classLink RX3 83 "java/lang/IndexOutOfBoundsException", .initialized "java/lang/IndexOutOfBoundsException", .fieldLink RX3 32 "Ringroll" "deviceCount" "I", .fieldLink RX3 22 "Ringroll" "fleet" "[LRingroll$Device;", .methodLink RX3 55 yX3_needRange, .static yX3_needRange, .code yX3_needRange cX3_needRange 3 none, .classLink RX3 66 "java/lang/IllegalArgumentException", .initialized "java/lang/IllegalArgumentException"] ++ wsX10 ++ wsX30 ++ (vx_atS RX3 87 "java/lang/IndexOutOfBoundsException" ["java/lang/RuntimeException", "java/lang/Exception"]).filter goodWord ++ (vx_atS RX3 70 "java/lang/IllegalArgumentException" ["java/lang/RuntimeException", "java/lang/Exception"]).filter goodWord)
def wsX3_setWindow : List Cond := .code yX3_setWindow cX3_setWindow 5 none :: ([.fieldLink RX3 115 "Ringroll$Device" "firstHour" "I", .fieldLink RX3 118 "Ringroll$Device" "lastHour" "I", .methodLink RX3 108 yX3_deviceAt, .instanceMethod yX3_deviceAt, .selects RX3 yX3_deviceAt yX3_deviceAt, .initialized RX3, .code yX3_deviceAt cX3_deviceAt 2 (some (.object "Ringroll$Device")), .classLink RX3 83 "java/lang/IndexOutOfBoundsException", .initialized "java/lang/IndexOutOfBoundsException", .fieldLink RX3 32 "Ringroll" "deviceCount" "I", .fieldLink RX3 22 "Ringroll" "fleet" "[LRingroll$Device;", .methodLink RX3 55 yX3_needRange, .static yX3_needRange, .code yX3_needRange cX3_needRange 3 none, .classLink RX3 66 "java/lang/IllegalArgumentException", .initialized "java/lang/IllegalArgumentException"] ++ wsX10 ++ wsX30 ++ (vx_atS RX3 87 "java/lang/IndexOutOfBoundsException" ["java/lang/RuntimeException", "java/lang/Exception"]).filter goodWord ++ (vx_atS RX3 70 "java/lang/IllegalArgumentException" ["java/lang/RuntimeException", "java/lang/Exception"]).filter goodWord)
def wsX3_needCampaign : List Cond := .code yX3_needCampaign cX3_needCampaign 2 none :: ([.classLink RX3 83 "java/lang/IndexOutOfBoundsException", .initialized "java/lang/IndexOutOfBoundsException", .fieldLink RX3 36 "Ringroll" "campaignCount" "I"] ++ wsX30 ++ (vx_atS RX3 87 "java/lang/IndexOutOfBoundsException" ["java/lang/RuntimeException", "java/lang/Exception"]).filter goodWord)
def wsX3_campaignAt : List Cond := .code yX3_campaignAt cX3_campaignAt 2 (some (.object "Ringroll$Campaign")) :: ([.fieldLink RX3 28 "Ringroll" "campaigns" "[LRingroll$Campaign;", .methodLink RX3 146 yX3_needCampaign, .instanceMethod yX3_needCampaign, .selects RX3 yX3_needCampaign yX3_needCampaign, .initialized RX3, .code yX3_needCampaign cX3_needCampaign 2 none, .classLink RX3 83 "java/lang/IndexOutOfBoundsException", .initialized "java/lang/IndexOutOfBoundsException", .fieldLink RX3 36 "Ringroll" "campaignCount" "I"] ++ wsX30 ++ (vx_atS RX3 87 "java/lang/IndexOutOfBoundsException" ["java/lang/RuntimeException", "java/lang/Exception"]).filter goodWord)
def wsX3_report_r1 : List Cond := [Cond.classLink RX3 88 "java/lang/IllegalStateException", Cond.initialized "java/lang/IllegalStateException", Cond.fieldLink RX3 121 "Ringroll$Device" "state" "I", Cond.fieldLink RX3 126 "Ringroll$Device" "campaign" "I", Cond.fieldLink RX3 133 "Ringroll$Campaign" "target" "I", Cond.fieldLink RX3 102 "Ringroll$Device" "version" "I", Cond.methodLink RX3 108 yX3_deviceAt, Cond.instanceMethod yX3_deviceAt, Cond.selects RX3 yX3_deviceAt yX3_deviceAt, Cond.initialized RX3, Cond.code yX3_deviceAt cX3_deviceAt 2 (some (.object "Ringroll$Device")), Cond.classLink RX3 83 "java/lang/IndexOutOfBoundsException", Cond.initialized "java/lang/IndexOutOfBoundsException", Cond.fieldLink RX3 32 "Ringroll" "deviceCount" "I", Cond.fieldLink RX3 22 "Ringroll" "fleet" "[LRingroll$Device;", Cond.methodLink RX3 129 yX3_campaignAt, Cond.instanceMethod yX3_campaignAt, Cond.selects RX3 yX3_campaignAt yX3_campaignAt, Cond.code yX3_campaignAt cX3_campaignAt 2 (some (.object "Ringroll$Campaign")), Cond.fieldLink RX3 28 "Ringroll" "campaigns" "[LRingroll$Campaign;", Cond.methodLink RX3 146 yX3_needCampaign, Cond.instanceMethod yX3_needCampaign, Cond.selects RX3 yX3_needCampaign yX3_needCampaign, Cond.code yX3_needCampaign cX3_needCampaign 2 none]
def wsX3_report_r2 : List Cond := [Cond.fieldLink RX3 36 "Ringroll" "campaignCount" "I", Cond.methodLink RX3 136 yX0_countReport, Cond.instanceMethod yX0_countReport, Cond.selects RX0 yX0_countReport yX0_countReport, Cond.initialized RX0, Cond.code yX0_countReport cX0_countReport 3 none, Cond.fieldLink RX0 46 "Ringroll$Campaign" "reporters" "I", Cond.fieldLink RX0 72 "Ringroll$Device" "number" "I", Cond.fieldLink RX0 40 "Ringroll$Campaign" "reports" "I", Cond.fieldLink RX0 43 "Ringroll$Campaign" "failures" "I", Cond.methodLink RX3 140 yX0_judgeRing, Cond.instanceMethod yX0_judgeRing, Cond.selects RX0 yX0_judgeRing yX0_judgeRing, Cond.code yX0_judgeRing cX0_judgeRing 1 none, Cond.fieldLink RX0 33 "Ringroll$Campaign" "isActive" "Z", Cond.fieldLink RX0 27 "Ringroll$Campaign" "needs" "I", Cond.fieldLink RX0 30 "Ringroll$Campaign" "thousandths" "I", Cond.fieldLink RX0 37 "Ringroll$Campaign" "ring" "I", Cond.methodLink RX0 73 yX0_beginRing, Cond.instanceMethod yX0_beginRing, Cond.selects RX0 yX0_beginRing yX0_beginRing, Cond.code yX0_beginRing cX0_beginRing 2 none]
def wsX3_report : List Cond := .code yX3_report cX3_report 5 (some .int) :: ((wsX3_report_r1 ++ wsX3_report_r2) ++ wsX10 ++ wsX00 ++ wsX30 ++ (vx_atS RX3 92 "java/lang/IllegalStateException" ["java/lang/RuntimeException", "java/lang/Exception"]).filter goodWord ++ (vx_atS RX3 87 "java/lang/IndexOutOfBoundsException" ["java/lang/RuntimeException", "java/lang/Exception"]).filter goodWord)
def wsX3_devices : List Cond := .code yX3_devices cX3_devices 1 (some .int) :: ([.fieldLink RX3 32 "Ringroll" "deviceCount" "I"] ++ wsX30)
def wsX3_state : List Cond := .code yX3_state cX3_state 2 (some .int) :: ([.fieldLink RX3 121 "Ringroll$Device" "state" "I", .methodLink RX3 108 yX3_deviceAt, .instanceMethod yX3_deviceAt, .selects RX3 yX3_deviceAt yX3_deviceAt, .initialized RX3, .code yX3_deviceAt cX3_deviceAt 2 (some (.object "Ringroll$Device")), .classLink RX3 83 "java/lang/IndexOutOfBoundsException", .initialized "java/lang/IndexOutOfBoundsException", .fieldLink RX3 32 "Ringroll" "deviceCount" "I", .fieldLink RX3 22 "Ringroll" "fleet" "[LRingroll$Device;"] ++ wsX10 ++ wsX30 ++ (vx_atS RX3 87 "java/lang/IndexOutOfBoundsException" ["java/lang/RuntimeException", "java/lang/Exception"]).filter goodWord)
def wsX3_version : List Cond := .code yX3_version cX3_version 2 (some .int) :: ([.fieldLink RX3 102 "Ringroll$Device" "version" "I", .methodLink RX3 108 yX3_deviceAt, .instanceMethod yX3_deviceAt, .selects RX3 yX3_deviceAt yX3_deviceAt, .initialized RX3, .code yX3_deviceAt cX3_deviceAt 2 (some (.object "Ringroll$Device")), .classLink RX3 83 "java/lang/IndexOutOfBoundsException", .initialized "java/lang/IndexOutOfBoundsException", .fieldLink RX3 32 "Ringroll" "deviceCount" "I", .fieldLink RX3 22 "Ringroll" "fleet" "[LRingroll$Device;"] ++ wsX10 ++ wsX30 ++ (vx_atS RX3 87 "java/lang/IndexOutOfBoundsException" ["java/lang/RuntimeException", "java/lang/Exception"]).filter goodWord)
def wsX3_campaignOf : List Cond := .code yX3_campaignOf cX3_campaignOf 2 (some .int) :: ([.fieldLink RX3 126 "Ringroll$Device" "campaign" "I", .methodLink RX3 108 yX3_deviceAt, .instanceMethod yX3_deviceAt, .selects RX3 yX3_deviceAt yX3_deviceAt, .initialized RX3, .code yX3_deviceAt cX3_deviceAt 2 (some (.object "Ringroll$Device")), .classLink RX3 83 "java/lang/IndexOutOfBoundsException", .initialized "java/lang/IndexOutOfBoundsException", .fieldLink RX3 32 "Ringroll" "deviceCount" "I", .fieldLink RX3 22 "Ringroll" "fleet" "[LRingroll$Device;"] ++ wsX10 ++ wsX30 ++ (vx_atS RX3 87 "java/lang/IndexOutOfBoundsException" ["java/lang/RuntimeException", "java/lang/Exception"]).filter goodWord)
def wsX3_toGo : List Cond := .code yX3_toGo cX3_toGo 2 (some .int) :: ([.fieldLink RX3 143 "Ringroll$Device" "bytesToGo" "I", .methodLink RX3 108 yX3_deviceAt, .instanceMethod yX3_deviceAt, .selects RX3 yX3_deviceAt yX3_deviceAt, .initialized RX3, .code yX3_deviceAt cX3_deviceAt 2 (some (.object "Ringroll$Device")), .classLink RX3 83 "java/lang/IndexOutOfBoundsException", .initialized "java/lang/IndexOutOfBoundsException", .fieldLink RX3 32 "Ringroll" "deviceCount" "I", .fieldLink RX3 22 "Ringroll" "fleet" "[LRingroll$Device;"] ++ wsX10 ++ wsX30 ++ (vx_atS RX3 87 "java/lang/IndexOutOfBoundsException" ["java/lang/RuntimeException", "java/lang/Exception"]).filter goodWord)
def wsX3_battery : List Cond := .code yX3_battery cX3_battery 2 (some .int) :: ([.fieldLink RX3 112 "Ringroll$Device" "battery" "I", .methodLink RX3 108 yX3_deviceAt, .instanceMethod yX3_deviceAt, .selects RX3 yX3_deviceAt yX3_deviceAt, .initialized RX3, .code yX3_deviceAt cX3_deviceAt 2 (some (.object "Ringroll$Device")), .classLink RX3 83 "java/lang/IndexOutOfBoundsException", .initialized "java/lang/IndexOutOfBoundsException", .fieldLink RX3 32 "Ringroll" "deviceCount" "I", .fieldLink RX3 22 "Ringroll" "fleet" "[LRingroll$Device;"] ++ wsX10 ++ wsX30 ++ (vx_atS RX3 87 "java/lang/IndexOutOfBoundsException" ["java/lang/RuntimeException", "java/lang/Exception"]).filter goodWord)
def wsX3_begin_r1 : List Cond := [Cond.classLink RX3 88 "java/lang/IllegalStateException", Cond.initialized "java/lang/IllegalStateException", Cond.fieldLink RX3 36 "Ringroll" "campaignCount" "I", Cond.fieldLink RX3 151 "Ringroll$Campaign" "isActive" "Z", Cond.fieldLink RX3 28 "Ringroll" "campaigns" "[LRingroll$Campaign;", Cond.fieldLink RX3 133 "Ringroll$Campaign" "target" "I", Cond.fieldLink RX3 155 "Ringroll$Campaign" "kinds" "I", Cond.fieldLink RX3 158 "Ringroll$Campaign" "versions" "I", Cond.fieldLink RX3 161 "Ringroll$Campaign" "number" "I", Cond.methodLink RX3 52 yX3_needVersion, Cond.static yX3_needVersion, Cond.initialized RX3, Cond.code yX3_needVersion cX3_needVersion 1 none, Cond.classLink RX3 83 "java/lang/IndexOutOfBoundsException", Cond.initialized "java/lang/IndexOutOfBoundsException", Cond.methodLink RX3 146 yX3_needCampaign, Cond.instanceMethod yX3_needCampaign, Cond.selects RX3 yX3_needCampaign yX3_needCampaign, Cond.code yX3_needCampaign cX3_needCampaign 2 none, Cond.methodLink RX3 55 yX3_needRange, Cond.static yX3_needRange, Cond.code yX3_needRange cX3_needRange 3 none, Cond.classLink RX3 66 "java/lang/IllegalArgumentException", Cond.initialized "java/lang/IllegalArgumentException"]
def wsX3_begin_r2 : List Cond := [Cond.methodLink RX3 129 yX3_campaignAt, Cond.instanceMethod yX3_campaignAt, Cond.selects RX3 yX3_campaignAt yX3_campaignAt, Cond.code yX3_campaignAt cX3_campaignAt 2 (some (.object "Ringroll$Campaign"))]
def wsX3_begin : List Cond := .code yX3_begin cX3_begin 6 (some .int) :: ((wsX3_begin_r1 ++ wsX3_begin_r2) ++ wsX30 ++ wsX00 ++ (vx_atS RX3 92 "java/lang/IllegalStateException" ["java/lang/RuntimeException", "java/lang/Exception"]).filter goodWord ++ (vx_atS RX3 87 "java/lang/IndexOutOfBoundsException" ["java/lang/RuntimeException", "java/lang/Exception"]).filter goodWord ++ (vx_atS RX3 70 "java/lang/IllegalArgumentException" ["java/lang/RuntimeException", "java/lang/Exception"]).filter goodWord)
def wsX3_setRules : List Cond := .code yX3_setRules cX3_setRules 7 none :: ([.fieldLink RX3 162 "Ringroll$Campaign" "firstShare" "I", .fieldLink RX3 165 "Ringroll$Campaign" "secondShare" "I", .fieldLink RX3 168 "Ringroll$Campaign" "needs" "I", .fieldLink RX3 171 "Ringroll$Campaign" "thousandths" "I", .methodLink RX3 129 yX3_campaignAt, .instanceMethod yX3_campaignAt, .selects RX3 yX3_campaignAt yX3_campaignAt, .initialized RX3, .code yX3_campaignAt cX3_campaignAt 2 (some (.object "Ringroll$Campaign")), .fieldLink RX3 28 "Ringroll" "campaigns" "[LRingroll$Campaign;", .methodLink RX3 146 yX3_needCampaign, .instanceMethod yX3_needCampaign, .selects RX3 yX3_needCampaign yX3_needCampaign, .code yX3_needCampaign cX3_needCampaign 2 none, .classLink RX3 83 "java/lang/IndexOutOfBoundsException", .initialized "java/lang/IndexOutOfBoundsException", .fieldLink RX3 36 "Ringroll" "campaignCount" "I", .methodLink RX3 55 yX3_needRange, .static yX3_needRange, .code yX3_needRange cX3_needRange 3 none, .classLink RX3 66 "java/lang/IllegalArgumentException", .initialized "java/lang/IllegalArgumentException"] ++ wsX00 ++ wsX30 ++ (vx_atS RX3 87 "java/lang/IndexOutOfBoundsException" ["java/lang/RuntimeException", "java/lang/Exception"]).filter goodWord ++ (vx_atS RX3 70 "java/lang/IllegalArgumentException" ["java/lang/RuntimeException", "java/lang/Exception"]).filter goodWord)
def wsX3_toggle : List Cond := .code yX3_toggle cX3_toggle 3 (some .boolean) :: ([.fieldLink RX3 151 "Ringroll$Campaign" "isActive" "Z", .fieldLink RX3 174 "Ringroll$Campaign" "ring" "I", .methodLink RX3 129 yX3_campaignAt, .instanceMethod yX3_campaignAt, .selects RX3 yX3_campaignAt yX3_campaignAt, .initialized RX3, .code yX3_campaignAt cX3_campaignAt 2 (some (.object "Ringroll$Campaign")), .fieldLink RX3 28 "Ringroll" "campaigns" "[LRingroll$Campaign;", .methodLink RX3 146 yX3_needCampaign, .instanceMethod yX3_needCampaign, .selects RX3 yX3_needCampaign yX3_needCampaign, .code yX3_needCampaign cX3_needCampaign 2 none, .classLink RX3 83 "java/lang/IndexOutOfBoundsException", .initialized "java/lang/IndexOutOfBoundsException", .fieldLink RX3 36 "Ringroll" "campaignCount" "I", .methodLink RX3 177 yX0_beginRing, .instanceMethod yX0_beginRing, .selects RX0 yX0_beginRing yX0_beginRing, .initialized RX0, .code yX0_beginRing cX0_beginRing 2 none, .fieldLink RX0 37 "Ringroll$Campaign" "ring" "I", .fieldLink RX0 40 "Ringroll$Campaign" "reports" "I", .fieldLink RX0 43 "Ringroll$Campaign" "failures" "I"] ++ wsX00 ++ wsX30 ++ (vx_atS RX3 87 "java/lang/IndexOutOfBoundsException" ["java/lang/RuntimeException", "java/lang/Exception"]).filter goodWord)
def wsX3_isActive : List Cond := .code yX3_isActive cX3_isActive 2 (some .boolean) :: ([.fieldLink RX3 151 "Ringroll$Campaign" "isActive" "Z", .methodLink RX3 129 yX3_campaignAt, .instanceMethod yX3_campaignAt, .selects RX3 yX3_campaignAt yX3_campaignAt, .initialized RX3, .code yX3_campaignAt cX3_campaignAt 2 (some (.object "Ringroll$Campaign")), .fieldLink RX3 28 "Ringroll" "campaigns" "[LRingroll$Campaign;", .methodLink RX3 146 yX3_needCampaign, .instanceMethod yX3_needCampaign, .selects RX3 yX3_needCampaign yX3_needCampaign, .code yX3_needCampaign cX3_needCampaign 2 none, .classLink RX3 83 "java/lang/IndexOutOfBoundsException", .initialized "java/lang/IndexOutOfBoundsException", .fieldLink RX3 36 "Ringroll" "campaignCount" "I"] ++ wsX00 ++ wsX30 ++ (vx_atS RX3 87 "java/lang/IndexOutOfBoundsException" ["java/lang/RuntimeException", "java/lang/Exception"]).filter goodWord)
def wsX3_ring : List Cond := .code yX3_ring cX3_ring 2 (some .int) :: ([.fieldLink RX3 174 "Ringroll$Campaign" "ring" "I", .methodLink RX3 129 yX3_campaignAt, .instanceMethod yX3_campaignAt, .selects RX3 yX3_campaignAt yX3_campaignAt, .initialized RX3, .code yX3_campaignAt cX3_campaignAt 2 (some (.object "Ringroll$Campaign")), .fieldLink RX3 28 "Ringroll" "campaigns" "[LRingroll$Campaign;", .methodLink RX3 146 yX3_needCampaign, .instanceMethod yX3_needCampaign, .selects RX3 yX3_needCampaign yX3_needCampaign, .code yX3_needCampaign cX3_needCampaign 2 none, .classLink RX3 83 "java/lang/IndexOutOfBoundsException", .initialized "java/lang/IndexOutOfBoundsException", .fieldLink RX3 36 "Ringroll" "campaignCount" "I"] ++ wsX00 ++ wsX30 ++ (vx_atS RX3 87 "java/lang/IndexOutOfBoundsException" ["java/lang/RuntimeException", "java/lang/Exception"]).filter goodWord)
def wsX3_reports : List Cond := .code yX3_reports cX3_reports 2 (some .int) :: ([.fieldLink RX3 180 "Ringroll$Campaign" "reports" "I", .methodLink RX3 129 yX3_campaignAt, .instanceMethod yX3_campaignAt, .selects RX3 yX3_campaignAt yX3_campaignAt, .initialized RX3, .code yX3_campaignAt cX3_campaignAt 2 (some (.object "Ringroll$Campaign")), .fieldLink RX3 28 "Ringroll" "campaigns" "[LRingroll$Campaign;", .methodLink RX3 146 yX3_needCampaign, .instanceMethod yX3_needCampaign, .selects RX3 yX3_needCampaign yX3_needCampaign, .code yX3_needCampaign cX3_needCampaign 2 none, .classLink RX3 83 "java/lang/IndexOutOfBoundsException", .initialized "java/lang/IndexOutOfBoundsException", .fieldLink RX3 36 "Ringroll" "campaignCount" "I"] ++ wsX00 ++ wsX30 ++ (vx_atS RX3 87 "java/lang/IndexOutOfBoundsException" ["java/lang/RuntimeException", "java/lang/Exception"]).filter goodWord)
def wsX3_mayTake_r1 : List Cond := [Cond.fieldLink RX3 121 "Ringroll$Device" "state" "I", Cond.fieldLink RX3 9 "Ringroll" "kindsOfVersion" "[I", Cond.fieldLink RX3 133 "Ringroll$Campaign" "target" "I", Cond.fieldLink RX3 99 "Ringroll$Device" "kind" "I", Cond.fieldLink RX3 16 "Ringroll" "ways" "LRingroll$Ways;", Cond.fieldLink RX3 102 "Ringroll$Device" "version" "I", Cond.methodLink RX3 206 yX0_isFor, Cond.instanceMethod yX0_isFor, Cond.selects RX0 yX0_isFor yX0_isFor, Cond.initialized RX0, Cond.code yX0_isFor cX0_isFor 2 (some .boolean), Cond.fieldLink RX0 33 "Ringroll$Campaign" "isActive" "Z", Cond.fieldLink RX0 15 "Ringroll$Campaign" "kinds" "I", Cond.fieldLink RX0 52 "Ringroll$Device" "kind" "I", Cond.fieldLink RX0 18 "Ringroll$Campaign" "versions" "I", Cond.fieldLink RX0 61 "Ringroll$Device" "version" "I", Cond.fieldLink RX0 9 "Ringroll$Campaign" "target" "I", Cond.fieldLink RX0 46 "Ringroll$Campaign" "reporters" "I", Cond.fieldLink RX0 72 "Ringroll$Device" "number" "I", Cond.static yX3_has, Cond.initialized RX3, Cond.code yX3_has cX3_has 2 (some .boolean), Cond.methodLink RX0 64 yX0_drawOf, Cond.instanceMethod yX0_drawOf]
def wsX3_mayTake_r2 : List Cond := [Cond.selects RX0 yX0_drawOf yX0_drawOf, Cond.code yX0_drawOf cX0_drawOf 2 (some .int), Cond.fieldLink RX0 49 "Ringroll$Campaign" "number" "I", Cond.methodLink RX0 68 yX0_share, Cond.instanceMethod yX0_share, Cond.selects RX0 yX0_share yX0_share, Cond.code yX0_share cX0_share 1 (some .int), Cond.fieldLink RX0 37 "Ringroll$Campaign" "ring" "I", Cond.fieldLink RX0 21 "Ringroll$Campaign" "firstShare" "I", Cond.fieldLink RX0 24 "Ringroll$Campaign" "secondShare" "I", Cond.methodLink RX3 93 yX3_has, Cond.methodLink RX3 77 yX2_leastBytes, Cond.instanceMethod yX2_leastBytes, Cond.selects RX2 yX2_leastBytes yX2_leastBytes, Cond.initialized RX2, Cond.code yX2_leastBytes cX2_leastBytes 3 (some .int), Cond.fieldLink RX2 20 "Ringroll$Ways" "leastByDeltas" "[[I", Cond.fieldLink RX2 23 "Ringroll$Ways" "leastByImage" "[I", Cond.methodLink RX2 35 Lib.Math.min.name, Cond.static Lib.Math.min.name, Cond.initialized "java/lang/Math", Cond.code Lib.Math.min.name Lib.Math.min.code 2 (some .int), Cond.methodLink RX2 41 yX2_orNone, Cond.static yX2_orNone]
def wsX3_mayTake_r3 : List Cond := [Cond.code yX2_orNone cX2_orNone 1 (some .int), Cond.constant RX2 49 (1000000)]
def wsX3_mayTake : List Cond := .code yX3_mayTake cX3_mayTake 3 (some .boolean) :: ((wsX3_mayTake_r1 ++ (wsX3_mayTake_r2 ++ wsX3_mayTake_r3)) ++ wsX10 ++ wsX30 ++ wsX00 ++ wsX20)
def wsX3_eligible_r1 : List Cond := [Cond.fieldLink RX3 32 "Ringroll" "deviceCount" "I", Cond.fieldLink RX3 22 "Ringroll" "fleet" "[LRingroll$Device;", Cond.methodLink RX3 129 yX3_campaignAt, Cond.instanceMethod yX3_campaignAt, Cond.selects RX3 yX3_campaignAt yX3_campaignAt, Cond.initialized RX3, Cond.code yX3_campaignAt cX3_campaignAt 2 (some (.object "Ringroll$Campaign")), Cond.fieldLink RX3 28 "Ringroll" "campaigns" "[LRingroll$Campaign;", Cond.methodLink RX3 146 yX3_needCampaign, Cond.instanceMethod yX3_needCampaign, Cond.selects RX3 yX3_needCampaign yX3_needCampaign, Cond.code yX3_needCampaign cX3_needCampaign 2 none, Cond.classLink RX3 83 "java/lang/IndexOutOfBoundsException", Cond.initialized "java/lang/IndexOutOfBoundsException", Cond.fieldLink RX3 36 "Ringroll" "campaignCount" "I", Cond.methodLink RX3 183 yX3_mayTake, Cond.instanceMethod yX3_mayTake, Cond.selects RX3 yX3_mayTake yX3_mayTake, Cond.code yX3_mayTake cX3_mayTake 3 (some .boolean), Cond.fieldLink RX3 121 "Ringroll$Device" "state" "I", Cond.fieldLink RX3 9 "Ringroll" "kindsOfVersion" "[I", Cond.fieldLink RX3 133 "Ringroll$Campaign" "target" "I", Cond.fieldLink RX3 99 "Ringroll$Device" "kind" "I", Cond.fieldLink RX3 16 "Ringroll" "ways" "LRingroll$Ways;"]
def wsX3_eligible_r2 : List Cond := [Cond.fieldLink RX3 102 "Ringroll$Device" "version" "I", Cond.methodLink RX3 206 yX0_isFor, Cond.instanceMethod yX0_isFor, Cond.selects RX0 yX0_isFor yX0_isFor, Cond.initialized RX0, Cond.code yX0_isFor cX0_isFor 2 (some .boolean), Cond.fieldLink RX0 33 "Ringroll$Campaign" "isActive" "Z", Cond.fieldLink RX0 15 "Ringroll$Campaign" "kinds" "I", Cond.fieldLink RX0 52 "Ringroll$Device" "kind" "I", Cond.fieldLink RX0 18 "Ringroll$Campaign" "versions" "I", Cond.fieldLink RX0 61 "Ringroll$Device" "version" "I", Cond.fieldLink RX0 9 "Ringroll$Campaign" "target" "I", Cond.fieldLink RX0 46 "Ringroll$Campaign" "reporters" "I", Cond.fieldLink RX0 72 "Ringroll$Device" "number" "I", Cond.static yX3_has, Cond.code yX3_has cX3_has 2 (some .boolean), Cond.methodLink RX0 64 yX0_drawOf, Cond.instanceMethod yX0_drawOf, Cond.selects RX0 yX0_drawOf yX0_drawOf, Cond.code yX0_drawOf cX0_drawOf 2 (some .int), Cond.fieldLink RX0 49 "Ringroll$Campaign" "number" "I", Cond.methodLink RX0 68 yX0_share, Cond.instanceMethod yX0_share, Cond.selects RX0 yX0_share yX0_share]
def wsX3_eligible_r3 : List Cond := [Cond.code yX0_share cX0_share 1 (some .int), Cond.fieldLink RX0 37 "Ringroll$Campaign" "ring" "I", Cond.fieldLink RX0 21 "Ringroll$Campaign" "firstShare" "I", Cond.fieldLink RX0 24 "Ringroll$Campaign" "secondShare" "I", Cond.methodLink RX3 93 yX3_has, Cond.methodLink RX3 77 yX2_leastBytes, Cond.instanceMethod yX2_leastBytes, Cond.selects RX2 yX2_leastBytes yX2_leastBytes, Cond.initialized RX2, Cond.code yX2_leastBytes cX2_leastBytes 3 (some .int), Cond.fieldLink RX2 20 "Ringroll$Ways" "leastByDeltas" "[[I", Cond.fieldLink RX2 23 "Ringroll$Ways" "leastByImage" "[I", Cond.methodLink RX2 35 Lib.Math.min.name, Cond.static Lib.Math.min.name, Cond.initialized "java/lang/Math", Cond.code Lib.Math.min.name Lib.Math.min.code 2 (some .int), Cond.methodLink RX2 41 yX2_orNone, Cond.static yX2_orNone, Cond.code yX2_orNone cX2_orNone 1 (some .int), Cond.constant RX2 49 (1000000)]
def wsX3_eligible : List Cond := .code yX3_eligible cX3_eligible 5 (some .int) :: ((wsX3_eligible_r1 ++ (wsX3_eligible_r2 ++ wsX3_eligible_r3)) ++ wsX30 ++ wsX10 ++ wsX00 ++ wsX20 ++ (vx_atS RX3 87 "java/lang/IndexOutOfBoundsException" ["java/lang/RuntimeException", "java/lang/Exception"]).filter goodWord)
def wsX3_takeLowestCampaign_r1 : List Cond := [Cond.fieldLink RX3 36 "Ringroll" "campaignCount" "I", Cond.fieldLink RX3 28 "Ringroll" "campaigns" "[LRingroll$Campaign;", Cond.fieldLink RX3 16 "Ringroll" "ways" "LRingroll$Ways;", Cond.fieldLink RX3 102 "Ringroll$Device" "version" "I", Cond.fieldLink RX3 133 "Ringroll$Campaign" "target" "I", Cond.methodLink RX3 183 yX3_mayTake, Cond.instanceMethod yX3_mayTake, Cond.selects RX3 yX3_mayTake yX3_mayTake, Cond.initialized RX3, Cond.code yX3_mayTake cX3_mayTake 3 (some .boolean), Cond.fieldLink RX3 121 "Ringroll$Device" "state" "I", Cond.fieldLink RX3 9 "Ringroll" "kindsOfVersion" "[I", Cond.fieldLink RX3 99 "Ringroll$Device" "kind" "I", Cond.methodLink RX3 206 yX0_isFor, Cond.instanceMethod yX0_isFor, Cond.selects RX0 yX0_isFor yX0_isFor, Cond.initialized RX0, Cond.code yX0_isFor cX0_isFor 2 (some .boolean), Cond.fieldLink RX0 33 "Ringroll$Campaign" "isActive" "Z", Cond.fieldLink RX0 15 "Ringroll$Campaign" "kinds" "I", Cond.fieldLink RX0 52 "Ringroll$Device" "kind" "I", Cond.fieldLink RX0 18 "Ringroll$Campaign" "versions" "I", Cond.fieldLink RX0 61 "Ringroll$Device" "version" "I", Cond.fieldLink RX0 9 "Ringroll$Campaign" "target" "I"]
def wsX3_takeLowestCampaign_r2 : List Cond := [Cond.fieldLink RX0 46 "Ringroll$Campaign" "reporters" "I", Cond.fieldLink RX0 72 "Ringroll$Device" "number" "I", Cond.static yX3_has, Cond.code yX3_has cX3_has 2 (some .boolean), Cond.methodLink RX0 64 yX0_drawOf, Cond.instanceMethod yX0_drawOf, Cond.selects RX0 yX0_drawOf yX0_drawOf, Cond.code yX0_drawOf cX0_drawOf 2 (some .int), Cond.fieldLink RX0 49 "Ringroll$Campaign" "number" "I", Cond.methodLink RX0 68 yX0_share, Cond.instanceMethod yX0_share, Cond.selects RX0 yX0_share yX0_share, Cond.code yX0_share cX0_share 1 (some .int), Cond.fieldLink RX0 37 "Ringroll$Campaign" "ring" "I", Cond.fieldLink RX0 21 "Ringroll$Campaign" "firstShare" "I", Cond.fieldLink RX0 24 "Ringroll$Campaign" "secondShare" "I", Cond.methodLink RX3 93 yX3_has, Cond.methodLink RX3 77 yX2_leastBytes, Cond.instanceMethod yX2_leastBytes, Cond.selects RX2 yX2_leastBytes yX2_leastBytes, Cond.initialized RX2, Cond.code yX2_leastBytes cX2_leastBytes 3 (some .int), Cond.fieldLink RX2 20 "Ringroll$Ways" "leastByDeltas" "[[I", Cond.fieldLink RX2 23 "Ringroll$Ways" "leastByImage" "[I"]
def wsX3_takeLowestCampaign_r3 : List Cond := [Cond.methodLink RX2 35 Lib.Math.min.name, Cond.static Lib.Math.min.name, Cond.initialized "java/lang/Math", Cond.code Lib.Math.min.name Lib.Math.min.code 2 (some .int), Cond.methodLink RX2 41 yX2_orNone, Cond.static yX2_orNone, Cond.code yX2_orNone cX2_orNone 1 (some .int), Cond.constant RX2 49 (1000000), Cond.methodLink RX3 202 yX1_take, Cond.instanceMethod yX1_take, Cond.selects RX1 yX1_take yX1_take, Cond.initialized RX1, Cond.code yX1_take cX1_take 3 none, Cond.fieldLink RX1 27 "Ringroll$Device" "state" "I", Cond.fieldLink RX1 39 "Ringroll$Campaign" "number" "I", Cond.fieldLink RX1 30 "Ringroll$Device" "campaign" "I", Cond.fieldLink RX1 33 "Ringroll$Device" "bytesToGo" "I"]
def wsX3_takeLowestCampaign : List Cond := .code yX3_takeLowestCampaign cX3_takeLowestCampaign 4 none :: ((wsX3_takeLowestCampaign_r1 ++ (wsX3_takeLowestCampaign_r2 ++ wsX3_takeLowestCampaign_r3)) ++ wsX30 ++ wsX10 ++ wsX00 ++ wsX20)
def wsX3_passOneHour_r1 : List Cond := [Cond.fieldLink RX3 32 "Ringroll" "deviceCount" "I", Cond.fieldLink RX3 22 "Ringroll" "fleet" "[LRingroll$Device;", Cond.fieldLink RX3 39 "Ringroll" "hourOfDay" "I", Cond.fieldLink RX3 121 "Ringroll$Device" "state" "I", Cond.methodLink RX3 191 yX3_takeLowestCampaign, Cond.instanceMethod yX3_takeLowestCampaign, Cond.selects RX3 yX3_takeLowestCampaign yX3_takeLowestCampaign, Cond.initialized RX3, Cond.code yX3_takeLowestCampaign cX3_takeLowestCampaign 4 none, Cond.fieldLink RX3 36 "Ringroll" "campaignCount" "I", Cond.fieldLink RX3 28 "Ringroll" "campaigns" "[LRingroll$Campaign;", Cond.fieldLink RX3 16 "Ringroll" "ways" "LRingroll$Ways;", Cond.fieldLink RX3 102 "Ringroll$Device" "version" "I", Cond.fieldLink RX3 133 "Ringroll$Campaign" "target" "I", Cond.methodLink RX3 183 yX3_mayTake, Cond.instanceMethod yX3_mayTake, Cond.selects RX3 yX3_mayTake yX3_mayTake, Cond.code yX3_mayTake cX3_mayTake 3 (some .boolean), Cond.fieldLink RX3 9 "Ringroll" "kindsOfVersion" "[I", Cond.fieldLink RX3 99 "Ringroll$Device" "kind" "I", Cond.methodLink RX3 206 yX0_isFor, Cond.instanceMethod yX0_isFor, Cond.selects RX0 yX0_isFor yX0_isFor, Cond.initialized RX0]
def wsX3_passOneHour_r2 : List Cond := [Cond.code yX0_isFor cX0_isFor 2 (some .boolean), Cond.fieldLink RX0 33 "Ringroll$Campaign" "isActive" "Z", Cond.fieldLink RX0 15 "Ringroll$Campaign" "kinds" "I", Cond.fieldLink RX0 52 "Ringroll$Device" "kind" "I", Cond.fieldLink RX0 18 "Ringroll$Campaign" "versions" "I", Cond.fieldLink RX0 61 "Ringroll$Device" "version" "I", Cond.fieldLink RX0 9 "Ringroll$Campaign" "target" "I", Cond.fieldLink RX0 46 "Ringroll$Campaign" "reporters" "I", Cond.fieldLink RX0 72 "Ringroll$Device" "number" "I", Cond.static yX3_has, Cond.code yX3_has cX3_has 2 (some .boolean), Cond.methodLink RX0 64 yX0_drawOf, Cond.instanceMethod yX0_drawOf, Cond.selects RX0 yX0_drawOf yX0_drawOf, Cond.code yX0_drawOf cX0_drawOf 2 (some .int), Cond.fieldLink RX0 49 "Ringroll$Campaign" "number" "I", Cond.methodLink RX0 68 yX0_share, Cond.instanceMethod yX0_share, Cond.selects RX0 yX0_share yX0_share, Cond.code yX0_share cX0_share 1 (some .int), Cond.fieldLink RX0 37 "Ringroll$Campaign" "ring" "I", Cond.fieldLink RX0 21 "Ringroll$Campaign" "firstShare" "I", Cond.fieldLink RX0 24 "Ringroll$Campaign" "secondShare" "I", Cond.methodLink RX3 93 yX3_has]
def wsX3_passOneHour_r3 : List Cond := [Cond.methodLink RX3 77 yX2_leastBytes, Cond.instanceMethod yX2_leastBytes, Cond.selects RX2 yX2_leastBytes yX2_leastBytes, Cond.initialized RX2, Cond.code yX2_leastBytes cX2_leastBytes 3 (some .int), Cond.fieldLink RX2 20 "Ringroll$Ways" "leastByDeltas" "[[I", Cond.fieldLink RX2 23 "Ringroll$Ways" "leastByImage" "[I", Cond.methodLink RX2 35 Lib.Math.min.name, Cond.static Lib.Math.min.name, Cond.initialized "java/lang/Math", Cond.code Lib.Math.min.name Lib.Math.min.code 2 (some .int), Cond.methodLink RX2 41 yX2_orNone, Cond.static yX2_orNone, Cond.code yX2_orNone cX2_orNone 1 (some .int), Cond.constant RX2 49 (1000000), Cond.methodLink RX3 202 yX1_take, Cond.instanceMethod yX1_take, Cond.selects RX1 yX1_take yX1_take, Cond.initialized RX1, Cond.code yX1_take cX1_take 3 none, Cond.fieldLink RX1 27 "Ringroll$Device" "state" "I", Cond.fieldLink RX1 39 "Ringroll$Campaign" "number" "I", Cond.fieldLink RX1 30 "Ringroll$Device" "campaign" "I", Cond.fieldLink RX1 33 "Ringroll$Device" "bytesToGo" "I"]
def wsX3_passOneHour_r4 : List Cond := [Cond.methodLink RX3 195 yX1_canLoad, Cond.instanceMethod yX1_canLoad, Cond.selects RX1 yX1_canLoad yX1_canLoad, Cond.code yX1_canLoad cX1_canLoad 2 (some .boolean), Cond.fieldLink RX1 18 "Ringroll$Device" "battery" "I", Cond.methodLink RX1 42 yX1_isInWindow, Cond.instanceMethod yX1_isInWindow, Cond.selects RX1 yX1_isInWindow yX1_isInWindow, Cond.code yX1_isInWindow cX1_isInWindow 2 (some .boolean), Cond.fieldLink RX1 21 "Ringroll$Device" "firstHour" "I", Cond.fieldLink RX1 24 "Ringroll$Device" "lastHour" "I", Cond.methodLink RX3 199 yX1_load, Cond.instanceMethod yX1_load, Cond.selects RX1 yX1_load yX1_load, Cond.code yX1_load cX1_load 1 none, Cond.methodLink RX1 46 Lib.Math.max.name, Cond.static Lib.Math.max.name, Cond.code Lib.Math.max.name Lib.Math.max.code 2 (some .int)]
def wsX3_passOneHour : List Cond := .code yX3_passOneHour cX3_passOneHour 4 (some .int) :: ((wsX3_passOneHour_r1 ++ (wsX3_passOneHour_r2 ++ (wsX3_passOneHour_r3 ++ wsX3_passOneHour_r4))) ++ wsX30 ++ wsX10 ++ wsX00 ++ wsX20)
def wsX3_pass_r1 : List Cond := [Cond.methodLink RX3 55 yX3_needRange, Cond.static yX3_needRange, Cond.initialized RX3, Cond.code yX3_needRange cX3_needRange 3 none, Cond.classLink RX3 66 "java/lang/IllegalArgumentException", Cond.initialized "java/lang/IllegalArgumentException", Cond.methodLink RX3 187 yX3_passOneHour, Cond.instanceMethod yX3_passOneHour, Cond.selects RX3 yX3_passOneHour yX3_passOneHour, Cond.code yX3_passOneHour cX3_passOneHour 4 (some .int), Cond.fieldLink RX3 32 "Ringroll" "deviceCount" "I", Cond.fieldLink RX3 22 "Ringroll" "fleet" "[LRingroll$Device;", Cond.fieldLink RX3 39 "Ringroll" "hourOfDay" "I", Cond.fieldLink RX3 121 "Ringroll$Device" "state" "I", Cond.methodLink RX3 191 yX3_takeLowestCampaign, Cond.instanceMethod yX3_takeLowestCampaign, Cond.selects RX3 yX3_takeLowestCampaign yX3_takeLowestCampaign, Cond.code yX3_takeLowestCampaign cX3_takeLowestCampaign 4 none, Cond.fieldLink RX3 36 "Ringroll" "campaignCount" "I", Cond.fieldLink RX3 28 "Ringroll" "campaigns" "[LRingroll$Campaign;", Cond.fieldLink RX3 16 "Ringroll" "ways" "LRingroll$Ways;", Cond.fieldLink RX3 102 "Ringroll$Device" "version" "I", Cond.fieldLink RX3 133 "Ringroll$Campaign" "target" "I", Cond.methodLink RX3 183 yX3_mayTake]
def wsX3_pass_r2 : List Cond := [Cond.instanceMethod yX3_mayTake, Cond.selects RX3 yX3_mayTake yX3_mayTake, Cond.code yX3_mayTake cX3_mayTake 3 (some .boolean), Cond.fieldLink RX3 9 "Ringroll" "kindsOfVersion" "[I", Cond.fieldLink RX3 99 "Ringroll$Device" "kind" "I", Cond.methodLink RX3 206 yX0_isFor, Cond.instanceMethod yX0_isFor, Cond.selects RX0 yX0_isFor yX0_isFor, Cond.initialized RX0, Cond.code yX0_isFor cX0_isFor 2 (some .boolean), Cond.fieldLink RX0 33 "Ringroll$Campaign" "isActive" "Z", Cond.fieldLink RX0 15 "Ringroll$Campaign" "kinds" "I", Cond.fieldLink RX0 52 "Ringroll$Device" "kind" "I", Cond.fieldLink RX0 18 "Ringroll$Campaign" "versions" "I", Cond.fieldLink RX0 61 "Ringroll$Device" "version" "I", Cond.fieldLink RX0 9 "Ringroll$Campaign" "target" "I", Cond.fieldLink RX0 46 "Ringroll$Campaign" "reporters" "I", Cond.fieldLink RX0 72 "Ringroll$Device" "number" "I", Cond.static yX3_has, Cond.code yX3_has cX3_has 2 (some .boolean), Cond.methodLink RX0 64 yX0_drawOf, Cond.instanceMethod yX0_drawOf, Cond.selects RX0 yX0_drawOf yX0_drawOf, Cond.code yX0_drawOf cX0_drawOf 2 (some .int)]
def wsX3_pass_r3 : List Cond := [Cond.fieldLink RX0 49 "Ringroll$Campaign" "number" "I", Cond.methodLink RX0 68 yX0_share, Cond.instanceMethod yX0_share, Cond.selects RX0 yX0_share yX0_share, Cond.code yX0_share cX0_share 1 (some .int), Cond.fieldLink RX0 37 "Ringroll$Campaign" "ring" "I", Cond.fieldLink RX0 21 "Ringroll$Campaign" "firstShare" "I", Cond.fieldLink RX0 24 "Ringroll$Campaign" "secondShare" "I", Cond.methodLink RX3 93 yX3_has, Cond.methodLink RX3 77 yX2_leastBytes, Cond.instanceMethod yX2_leastBytes, Cond.selects RX2 yX2_leastBytes yX2_leastBytes, Cond.initialized RX2, Cond.code yX2_leastBytes cX2_leastBytes 3 (some .int), Cond.fieldLink RX2 20 "Ringroll$Ways" "leastByDeltas" "[[I", Cond.fieldLink RX2 23 "Ringroll$Ways" "leastByImage" "[I", Cond.methodLink RX2 35 Lib.Math.min.name, Cond.static Lib.Math.min.name, Cond.initialized "java/lang/Math", Cond.code Lib.Math.min.name Lib.Math.min.code 2 (some .int), Cond.methodLink RX2 41 yX2_orNone, Cond.static yX2_orNone, Cond.code yX2_orNone cX2_orNone 1 (some .int), Cond.constant RX2 49 (1000000)]
def wsX3_pass_r4 : List Cond := [Cond.methodLink RX3 202 yX1_take, Cond.instanceMethod yX1_take, Cond.selects RX1 yX1_take yX1_take, Cond.initialized RX1, Cond.code yX1_take cX1_take 3 none, Cond.fieldLink RX1 27 "Ringroll$Device" "state" "I", Cond.fieldLink RX1 39 "Ringroll$Campaign" "number" "I", Cond.fieldLink RX1 30 "Ringroll$Device" "campaign" "I", Cond.fieldLink RX1 33 "Ringroll$Device" "bytesToGo" "I", Cond.methodLink RX3 195 yX1_canLoad, Cond.instanceMethod yX1_canLoad, Cond.selects RX1 yX1_canLoad yX1_canLoad, Cond.code yX1_canLoad cX1_canLoad 2 (some .boolean), Cond.fieldLink RX1 18 "Ringroll$Device" "battery" "I", Cond.methodLink RX1 42 yX1_isInWindow, Cond.instanceMethod yX1_isInWindow, Cond.selects RX1 yX1_isInWindow yX1_isInWindow, Cond.code yX1_isInWindow cX1_isInWindow 2 (some .boolean), Cond.fieldLink RX1 21 "Ringroll$Device" "firstHour" "I", Cond.fieldLink RX1 24 "Ringroll$Device" "lastHour" "I", Cond.methodLink RX3 199 yX1_load, Cond.instanceMethod yX1_load, Cond.selects RX1 yX1_load yX1_load, Cond.code yX1_load cX1_load 1 none]
def wsX3_pass_r5 : List Cond := [Cond.methodLink RX1 46 Lib.Math.max.name, Cond.static Lib.Math.max.name, Cond.code Lib.Math.max.name Lib.Math.max.code 2 (some .int)]
def wsX3_pass : List Cond := .code yX3_pass cX3_pass 4 (some .int) :: ((wsX3_pass_r1 ++ (wsX3_pass_r2 ++ (wsX3_pass_r3 ++ (wsX3_pass_r4 ++ wsX3_pass_r5)))) ++ wsX30 ++ wsX10 ++ wsX00 ++ wsX20 ++ (vx_atS RX3 70 "java/lang/IllegalArgumentException" ["java/lang/RuntimeException", "java/lang/Exception"]).filter goodWord)
def wsX4_init_r1 : List Cond := [Cond.methodLink RX4 1 objectInit, Cond.instanceMethod objectInit, Cond.code objectInit ⟨#[0xb1]⟩ 1 none, Cond.arrayClass .int, Cond.fieldLink RX4 7 "RingrollModel" "allowed" "[I", Cond.fieldLink RX4 13 "RingrollModel" "images" "[I", Cond.fieldLink RX4 16 "RingrollModel" "deltas" "[I", Cond.fieldLink RX4 19 "RingrollModel" "reached" "[I", Cond.fieldLink RX4 22 "RingrollModel" "kinds" "[I", Cond.fieldLink RX4 25 "RingrollModel" "versions" "[I", Cond.fieldLink RX4 28 "RingrollModel" "batteries" "[I", Cond.fieldLink RX4 31 "RingrollModel" "froms" "[I", Cond.fieldLink RX4 34 "RingrollModel" "tos" "[I", Cond.fieldLink RX4 37 "RingrollModel" "states" "[I", Cond.fieldLink RX4 40 "RingrollModel" "taken" "[I", Cond.fieldLink RX4 43 "RingrollModel" "left" "[I", Cond.fieldLink RX4 46 "RingrollModel" "targets" "[I", Cond.fieldLink RX4 49 "RingrollModel" "forKinds" "[I", Cond.fieldLink RX4 52 "RingrollModel" "forVersions" "[I", Cond.arrayClass .boolean, Cond.fieldLink RX4 55 "RingrollModel" "isActive" "[Z", Cond.fieldLink RX4 59 "RingrollModel" "rings" "[I", Cond.fieldLink RX4 62 "RingrollModel" "shares" "[I", Cond.fieldLink RX4 65 "RingrollModel" "needs" "[I"]
def wsX4_init_r2 : List Cond := [Cond.fieldLink RX4 68 "RingrollModel" "bears" "[I", Cond.fieldLink RX4 71 "RingrollModel" "reports" "[I", Cond.fieldLink RX4 74 "RingrollModel" "failures" "[I", Cond.fieldLink RX4 77 "RingrollModel" "reporters" "[I"]
def wsX4_init : List Cond := .code yX4_init cX4_init 2 none :: ((wsX4_init_r1 ++ wsX4_init_r2) ++ wsX40)
def wsX4_thrown : List Cond := .code yX4_thrown cX4_thrown 1 (some .int) :: ([.fieldLink RX4 80 "RingrollModel" "refusal" "I"] ++ wsX40)
def wsX4_refused : List Cond := .code yX4_refused cX4_refused 2 (some .boolean) :: ([.fieldLink RX4 80 "RingrollModel" "refusal" "I"] ++ wsX40)
def wsX4_fine : List Cond := .code yX4_fine cX4_fine 2 (some .int) :: ([.fieldLink RX4 80 "RingrollModel" "refusal" "I"] ++ wsX40)
def wsX4_in : List Cond := .code yX4_in cX4_in 3 (some .boolean) :: ([])
def wsX4_isVersion : List Cond := .code yX4_isVersion cX4_isVersion 1 (some .boolean) :: ([.methodLink RX4 84 yX4_in, .static yX4_in, .initialized RX4, .code yX4_in cX4_in 3 (some .boolean)])
def wsX4_isSize : List Cond := .code yX4_isSize cX4_isSize 1 (some .boolean) :: ([.constant RX4 88 (100000), .methodLink RX4 84 yX4_in, .static yX4_in, .initialized RX4, .code yX4_in cX4_in 3 (some .boolean)])
def wsX4_isDevice : List Cond := .code yX4_isDevice cX4_isDevice 2 (some .boolean) :: ([.fieldLink RX4 89 "RingrollModel" "devices" "I", .methodLink RX4 84 yX4_in, .static yX4_in, .initialized RX4, .code yX4_in cX4_in 3 (some .boolean)] ++ wsX40)
def wsX4_isCampaign : List Cond := .code yX4_isCampaign cX4_isCampaign 2 (some .boolean) :: ([.fieldLink RX4 92 "RingrollModel" "campaigns" "I", .methodLink RX4 84 yX4_in, .static yX4_in, .initialized RX4, .code yX4_in cX4_in 3 (some .boolean)] ++ wsX40)
def wsX4_allow : List Cond := .code yX4_allow cX4_allow 4 (some .int) :: ([.fieldLink RX4 7 "RingrollModel" "allowed" "[I", .methodLink RX4 95 yX4_isVersion, .static yX4_isVersion, .initialized RX4, .code yX4_isVersion cX4_isVersion 1 (some .boolean), .methodLink RX4 84 yX4_in, .static yX4_in, .code yX4_in cX4_in 3 (some .boolean), .methodLink RX4 99 yX4_refused, .instanceMethod yX4_refused, .selects RX4 yX4_refused yX4_refused, .code yX4_refused cX4_refused 2 (some .boolean), .fieldLink RX4 80 "RingrollModel" "refusal" "I"] ++ wsX40)
def wsX4_setImage : List Cond := .code yX4_setImage cX4_setImage 4 (some .int) :: ([.fieldLink RX4 13 "RingrollModel" "images" "[I", .methodLink RX4 95 yX4_isVersion, .static yX4_isVersion, .initialized RX4, .code yX4_isVersion cX4_isVersion 1 (some .boolean), .methodLink RX4 84 yX4_in, .static yX4_in, .code yX4_in cX4_in 3 (some .boolean), .methodLink RX4 102 yX4_isSize, .static yX4_isSize, .code yX4_isSize cX4_isSize 1 (some .boolean), .constant RX4 88 (100000), .methodLink RX4 99 yX4_refused, .instanceMethod yX4_refused, .selects RX4 yX4_refused yX4_refused, .code yX4_refused cX4_refused 2 (some .boolean), .fieldLink RX4 80 "RingrollModel" "refusal" "I"] ++ wsX40)
def wsX4_setDelta : List Cond := .code yX4_setDelta cX4_setDelta 6 (some .int) :: ([.fieldLink RX4 16 "RingrollModel" "deltas" "[I", .methodLink RX4 95 yX4_isVersion, .static yX4_isVersion, .initialized RX4, .code yX4_isVersion cX4_isVersion 1 (some .boolean), .methodLink RX4 84 yX4_in, .static yX4_in, .code yX4_in cX4_in 3 (some .boolean), .methodLink RX4 102 yX4_isSize, .static yX4_isSize, .code yX4_isSize cX4_isSize 1 (some .boolean), .constant RX4 88 (100000), .methodLink RX4 99 yX4_refused, .instanceMethod yX4_refused, .selects RX4 yX4_refused yX4_refused, .code yX4_refused cX4_refused 2 (some .boolean), .fieldLink RX4 80 "RingrollModel" "refusal" "I"] ++ wsX40)
def wsX4_sizeOf : List Cond := .code yX4_sizeOf cX4_sizeOf 5 (some .int) :: ([.fieldLink RX4 19 "RingrollModel" "reached" "[I", .fieldLink RX4 13 "RingrollModel" "images" "[I", .constant RX4 105 (100000000), .fieldLink RX4 16 "RingrollModel" "deltas" "[I"] ++ wsX40)
def wsX4_size : List Cond := .code yX4_size cX4_size 3 (some .int) :: ([.methodLink RX4 95 yX4_isVersion, .static yX4_isVersion, .initialized RX4, .code yX4_isVersion cX4_isVersion 1 (some .boolean), .methodLink RX4 84 yX4_in, .static yX4_in, .code yX4_in cX4_in 3 (some .boolean), .methodLink RX4 99 yX4_refused, .instanceMethod yX4_refused, .selects RX4 yX4_refused yX4_refused, .code yX4_refused cX4_refused 2 (some .boolean), .fieldLink RX4 80 "RingrollModel" "refusal" "I", .methodLink RX4 106 yX4_sizeOf, .instanceMethod yX4_sizeOf, .selects RX4 yX4_sizeOf yX4_sizeOf, .code yX4_sizeOf cX4_sizeOf 5 (some .int), .fieldLink RX4 19 "RingrollModel" "reached" "[I", .fieldLink RX4 13 "RingrollModel" "images" "[I", .constant RX4 105 (100000000), .fieldLink RX4 16 "RingrollModel" "deltas" "[I"] ++ wsX40)
def wsX4_sizeByWays : List Cond := .code yX4_sizeByWays cX4_sizeByWays 3 (some .int) :: ([.methodLink RX4 110 yX4_size, .instanceMethod yX4_size, .selects RX4 yX4_size yX4_size, .initialized RX4, .code yX4_size cX4_size 3 (some .int), .methodLink RX4 95 yX4_isVersion, .static yX4_isVersion, .code yX4_isVersion cX4_isVersion 1 (some .boolean), .methodLink RX4 84 yX4_in, .static yX4_in, .code yX4_in cX4_in 3 (some .boolean), .methodLink RX4 99 yX4_refused, .instanceMethod yX4_refused, .selects RX4 yX4_refused yX4_refused, .code yX4_refused cX4_refused 2 (some .boolean), .fieldLink RX4 80 "RingrollModel" "refusal" "I", .methodLink RX4 106 yX4_sizeOf, .instanceMethod yX4_sizeOf, .selects RX4 yX4_sizeOf yX4_sizeOf, .code yX4_sizeOf cX4_sizeOf 5 (some .int), .fieldLink RX4 19 "RingrollModel" "reached" "[I", .fieldLink RX4 13 "RingrollModel" "images" "[I", .constant RX4 105 (100000000), .fieldLink RX4 16 "RingrollModel" "deltas" "[I"] ++ wsX40)
def wsX4_addDevice : List Cond := .code yX4_addDevice cX4_addDevice 5 (some .int) :: ([.fieldLink RX4 89 "RingrollModel" "devices" "I", .fieldLink RX4 7 "RingrollModel" "allowed" "[I", .fieldLink RX4 22 "RingrollModel" "kinds" "[I", .fieldLink RX4 25 "RingrollModel" "versions" "[I", .fieldLink RX4 28 "RingrollModel" "batteries" "[I", .fieldLink RX4 31 "RingrollModel" "froms" "[I", .fieldLink RX4 34 "RingrollModel" "tos" "[I", .fieldLink RX4 40 "RingrollModel" "taken" "[I", .methodLink RX4 84 yX4_in, .static yX4_in, .initialized RX4, .code yX4_in cX4_in 3 (some .boolean), .methodLink RX4 95 yX4_isVersion, .static yX4_isVersion, .code yX4_isVersion cX4_isVersion 1 (some .boolean), .methodLink RX4 99 yX4_refused, .instanceMethod yX4_refused, .selects RX4 yX4_refused yX4_refused, .code yX4_refused cX4_refused 2 (some .boolean), .fieldLink RX4 80 "RingrollModel" "refusal" "I"] ++ wsX40)
def wsX4_charge : List Cond := .code yX4_charge cX4_charge 4 (some .int) :: ([.fieldLink RX4 28 "RingrollModel" "batteries" "[I", .methodLink RX4 113 yX4_isDevice, .instanceMethod yX4_isDevice, .selects RX4 yX4_isDevice yX4_isDevice, .initialized RX4, .code yX4_isDevice cX4_isDevice 2 (some .boolean), .fieldLink RX4 89 "RingrollModel" "devices" "I", .methodLink RX4 84 yX4_in, .static yX4_in, .code yX4_in cX4_in 3 (some .boolean), .methodLink RX4 99 yX4_refused, .instanceMethod yX4_refused, .selects RX4 yX4_refused yX4_refused, .code yX4_refused cX4_refused 2 (some .boolean), .fieldLink RX4 80 "RingrollModel" "refusal" "I"] ++ wsX40)
def wsX4_setWindow : List Cond := .code yX4_setWindow cX4_setWindow 4 none :: ([.fieldLink RX4 31 "RingrollModel" "froms" "[I", .fieldLink RX4 34 "RingrollModel" "tos" "[I", .methodLink RX4 113 yX4_isDevice, .instanceMethod yX4_isDevice, .selects RX4 yX4_isDevice yX4_isDevice, .initialized RX4, .code yX4_isDevice cX4_isDevice 2 (some .boolean), .fieldLink RX4 89 "RingrollModel" "devices" "I", .methodLink RX4 84 yX4_in, .static yX4_in, .code yX4_in cX4_in 3 (some .boolean), .methodLink RX4 99 yX4_refused, .instanceMethod yX4_refused, .selects RX4 yX4_refused yX4_refused, .code yX4_refused cX4_refused 2 (some .boolean), .fieldLink RX4 80 "RingrollModel" "refusal" "I"] ++ wsX40)
def wsX4_judge : List Cond := .code yX4_judge cX4_judge 2 none :: ([.fieldLink RX4 55 "RingrollModel" "isActive" "[Z", .fieldLink RX4 71 "RingrollModel" "reports" "[I", .fieldLink RX4 65 "RingrollModel" "needs" "[I", .fieldLink RX4 74 "RingrollModel" "failures" "[I", .fieldLink RX4 68 "RingrollModel" "bears" "[I", .fieldLink RX4 59 "RingrollModel" "rings" "[I"] ++ wsX40)
def wsX4_report_r1 : List Cond := [Cond.fieldLink RX4 37 "RingrollModel" "states" "[I", Cond.fieldLink RX4 40 "RingrollModel" "taken" "[I", Cond.fieldLink RX4 25 "RingrollModel" "versions" "[I", Cond.fieldLink RX4 46 "RingrollModel" "targets" "[I", Cond.fieldLink RX4 77 "RingrollModel" "reporters" "[I", Cond.fieldLink RX4 71 "RingrollModel" "reports" "[I", Cond.fieldLink RX4 74 "RingrollModel" "failures" "[I", Cond.methodLink RX4 113 yX4_isDevice, Cond.instanceMethod yX4_isDevice, Cond.selects RX4 yX4_isDevice yX4_isDevice, Cond.initialized RX4, Cond.code yX4_isDevice cX4_isDevice 2 (some .boolean), Cond.fieldLink RX4 89 "RingrollModel" "devices" "I", Cond.methodLink RX4 84 yX4_in, Cond.static yX4_in, Cond.code yX4_in cX4_in 3 (some .boolean), Cond.methodLink RX4 99 yX4_refused, Cond.instanceMethod yX4_refused, Cond.selects RX4 yX4_refused yX4_refused, Cond.code yX4_refused cX4_refused 2 (some .boolean), Cond.fieldLink RX4 80 "RingrollModel" "refusal" "I", Cond.methodLink RX4 116 yX4_judge, Cond.instanceMethod yX4_judge, Cond.selects RX4 yX4_judge yX4_judge]
def wsX4_report_r2 : List Cond := [Cond.code yX4_judge cX4_judge 2 none, Cond.fieldLink RX4 55 "RingrollModel" "isActive" "[Z", Cond.fieldLink RX4 65 "RingrollModel" "needs" "[I", Cond.fieldLink RX4 68 "RingrollModel" "bears" "[I", Cond.fieldLink RX4 59 "RingrollModel" "rings" "[I"]
def wsX4_report : List Cond := .code yX4_report cX4_report 4 (some .int) :: ((wsX4_report_r1 ++ wsX4_report_r2) ++ wsX40)
def wsX4_devices : List Cond := .code yX4_devices cX4_devices 1 (some .int) :: ([.fieldLink RX4 89 "RingrollModel" "devices" "I", .methodLink RX4 120 yX4_fine, .instanceMethod yX4_fine, .selects RX4 yX4_fine yX4_fine, .initialized RX4, .code yX4_fine cX4_fine 2 (some .int), .fieldLink RX4 80 "RingrollModel" "refusal" "I"] ++ wsX40)
def wsX4_noDevice : List Cond := .code yX4_noDevice cX4_noDevice 2 (some .boolean) :: ([.methodLink RX4 113 yX4_isDevice, .instanceMethod yX4_isDevice, .selects RX4 yX4_isDevice yX4_isDevice, .initialized RX4, .code yX4_isDevice cX4_isDevice 2 (some .boolean), .fieldLink RX4 89 "RingrollModel" "devices" "I", .methodLink RX4 84 yX4_in, .static yX4_in, .code yX4_in cX4_in 3 (some .boolean), .methodLink RX4 99 yX4_refused, .instanceMethod yX4_refused, .selects RX4 yX4_refused yX4_refused, .code yX4_refused cX4_refused 2 (some .boolean), .fieldLink RX4 80 "RingrollModel" "refusal" "I"] ++ wsX40)
def wsX4_state : List Cond := .code yX4_state cX4_state 2 (some .int) :: ([.fieldLink RX4 37 "RingrollModel" "states" "[I", .methodLink RX4 124 yX4_noDevice, .instanceMethod yX4_noDevice, .selects RX4 yX4_noDevice yX4_noDevice, .initialized RX4, .code yX4_noDevice cX4_noDevice 2 (some .boolean), .methodLink RX4 113 yX4_isDevice, .instanceMethod yX4_isDevice, .selects RX4 yX4_isDevice yX4_isDevice, .code yX4_isDevice cX4_isDevice 2 (some .boolean), .fieldLink RX4 89 "RingrollModel" "devices" "I", .methodLink RX4 84 yX4_in, .static yX4_in, .code yX4_in cX4_in 3 (some .boolean), .methodLink RX4 99 yX4_refused, .instanceMethod yX4_refused, .selects RX4 yX4_refused yX4_refused, .code yX4_refused cX4_refused 2 (some .boolean), .fieldLink RX4 80 "RingrollModel" "refusal" "I"] ++ wsX40)
def wsX4_version : List Cond := .code yX4_version cX4_version 2 (some .int) :: ([.fieldLink RX4 25 "RingrollModel" "versions" "[I", .methodLink RX4 124 yX4_noDevice, .instanceMethod yX4_noDevice, .selects RX4 yX4_noDevice yX4_noDevice, .initialized RX4, .code yX4_noDevice cX4_noDevice 2 (some .boolean), .methodLink RX4 113 yX4_isDevice, .instanceMethod yX4_isDevice, .selects RX4 yX4_isDevice yX4_isDevice, .code yX4_isDevice cX4_isDevice 2 (some .boolean), .fieldLink RX4 89 "RingrollModel" "devices" "I", .methodLink RX4 84 yX4_in, .static yX4_in, .code yX4_in cX4_in 3 (some .boolean), .methodLink RX4 99 yX4_refused, .instanceMethod yX4_refused, .selects RX4 yX4_refused yX4_refused, .code yX4_refused cX4_refused 2 (some .boolean), .fieldLink RX4 80 "RingrollModel" "refusal" "I"] ++ wsX40)
def wsX4_campaignOf : List Cond := .code yX4_campaignOf cX4_campaignOf 2 (some .int) :: ([.fieldLink RX4 40 "RingrollModel" "taken" "[I", .methodLink RX4 124 yX4_noDevice, .instanceMethod yX4_noDevice, .selects RX4 yX4_noDevice yX4_noDevice, .initialized RX4, .code yX4_noDevice cX4_noDevice 2 (some .boolean), .methodLink RX4 113 yX4_isDevice, .instanceMethod yX4_isDevice, .selects RX4 yX4_isDevice yX4_isDevice, .code yX4_isDevice cX4_isDevice 2 (some .boolean), .fieldLink RX4 89 "RingrollModel" "devices" "I", .methodLink RX4 84 yX4_in, .static yX4_in, .code yX4_in cX4_in 3 (some .boolean), .methodLink RX4 99 yX4_refused, .instanceMethod yX4_refused, .selects RX4 yX4_refused yX4_refused, .code yX4_refused cX4_refused 2 (some .boolean), .fieldLink RX4 80 "RingrollModel" "refusal" "I"] ++ wsX40)
def wsX4_toGo : List Cond := .code yX4_toGo cX4_toGo 2 (some .int) :: ([.fieldLink RX4 43 "RingrollModel" "left" "[I", .methodLink RX4 124 yX4_noDevice, .instanceMethod yX4_noDevice, .selects RX4 yX4_noDevice yX4_noDevice, .initialized RX4, .code yX4_noDevice cX4_noDevice 2 (some .boolean), .methodLink RX4 113 yX4_isDevice, .instanceMethod yX4_isDevice, .selects RX4 yX4_isDevice yX4_isDevice, .code yX4_isDevice cX4_isDevice 2 (some .boolean), .fieldLink RX4 89 "RingrollModel" "devices" "I", .methodLink RX4 84 yX4_in, .static yX4_in, .code yX4_in cX4_in 3 (some .boolean), .methodLink RX4 99 yX4_refused, .instanceMethod yX4_refused, .selects RX4 yX4_refused yX4_refused, .code yX4_refused cX4_refused 2 (some .boolean), .fieldLink RX4 80 "RingrollModel" "refusal" "I"] ++ wsX40)
def wsX4_battery : List Cond := .code yX4_battery cX4_battery 2 (some .int) :: ([.fieldLink RX4 28 "RingrollModel" "batteries" "[I", .methodLink RX4 124 yX4_noDevice, .instanceMethod yX4_noDevice, .selects RX4 yX4_noDevice yX4_noDevice, .initialized RX4, .code yX4_noDevice cX4_noDevice 2 (some .boolean), .methodLink RX4 113 yX4_isDevice, .instanceMethod yX4_isDevice, .selects RX4 yX4_isDevice yX4_isDevice, .code yX4_isDevice cX4_isDevice 2 (some .boolean), .fieldLink RX4 89 "RingrollModel" "devices" "I", .methodLink RX4 84 yX4_in, .static yX4_in, .code yX4_in cX4_in 3 (some .boolean), .methodLink RX4 99 yX4_refused, .instanceMethod yX4_refused, .selects RX4 yX4_refused yX4_refused, .code yX4_refused cX4_refused 2 (some .boolean), .fieldLink RX4 80 "RingrollModel" "refusal" "I"] ++ wsX40)
def wsX4_begin : List Cond := .code yX4_begin cX4_begin 7 (some .int) :: ([.fieldLink RX4 92 "RingrollModel" "campaigns" "I", .fieldLink RX4 55 "RingrollModel" "isActive" "[Z", .fieldLink RX4 46 "RingrollModel" "targets" "[I", .fieldLink RX4 49 "RingrollModel" "forKinds" "[I", .fieldLink RX4 52 "RingrollModel" "forVersions" "[I", .fieldLink RX4 62 "RingrollModel" "shares" "[I", .fieldLink RX4 65 "RingrollModel" "needs" "[I", .fieldLink RX4 68 "RingrollModel" "bears" "[I", .methodLink RX4 95 yX4_isVersion, .static yX4_isVersion, .initialized RX4, .code yX4_isVersion cX4_isVersion 1 (some .boolean), .methodLink RX4 84 yX4_in, .static yX4_in, .code yX4_in cX4_in 3 (some .boolean), .methodLink RX4 127 yX4_isCampaign, .instanceMethod yX4_isCampaign, .selects RX4 yX4_isCampaign yX4_isCampaign, .code yX4_isCampaign cX4_isCampaign 2 (some .boolean), .methodLink RX4 99 yX4_refused, .instanceMethod yX4_refused, .selects RX4 yX4_refused yX4_refused, .code yX4_refused cX4_refused 2 (some .boolean), .fieldLink RX4 80 "RingrollModel" "refusal" "I"] ++ wsX40)
def wsX4_setRules : List Cond := .code yX4_setRules cX4_setRules 7 none :: ([.fieldLink RX4 62 "RingrollModel" "shares" "[I", .fieldLink RX4 65 "RingrollModel" "needs" "[I", .fieldLink RX4 68 "RingrollModel" "bears" "[I", .methodLink RX4 84 yX4_in, .static yX4_in, .initialized RX4, .code yX4_in cX4_in 3 (some .boolean), .methodLink RX4 127 yX4_isCampaign, .instanceMethod yX4_isCampaign, .selects RX4 yX4_isCampaign yX4_isCampaign, .code yX4_isCampaign cX4_isCampaign 2 (some .boolean), .fieldLink RX4 92 "RingrollModel" "campaigns" "I", .methodLink RX4 99 yX4_refused, .instanceMethod yX4_refused, .selects RX4 yX4_refused yX4_refused, .code yX4_refused cX4_refused 2 (some .boolean), .fieldLink RX4 80 "RingrollModel" "refusal" "I"] ++ wsX40)
def wsX4_noCampaign : List Cond := .code yX4_noCampaign cX4_noCampaign 2 (some .boolean) :: ([.methodLink RX4 127 yX4_isCampaign, .instanceMethod yX4_isCampaign, .selects RX4 yX4_isCampaign yX4_isCampaign, .initialized RX4, .code yX4_isCampaign cX4_isCampaign 2 (some .boolean), .fieldLink RX4 92 "RingrollModel" "campaigns" "I", .methodLink RX4 84 yX4_in, .static yX4_in, .code yX4_in cX4_in 3 (some .boolean), .methodLink RX4 99 yX4_refused, .instanceMethod yX4_refused, .selects RX4 yX4_refused yX4_refused, .code yX4_refused cX4_refused 2 (some .boolean), .fieldLink RX4 80 "RingrollModel" "refusal" "I"] ++ wsX40)
def wsX4_toggle : List Cond := .code yX4_toggle cX4_toggle 2 (some .boolean) :: ([.fieldLink RX4 55 "RingrollModel" "isActive" "[Z", .fieldLink RX4 71 "RingrollModel" "reports" "[I", .fieldLink RX4 74 "RingrollModel" "failures" "[I", .methodLink RX4 130 yX4_noCampaign, .instanceMethod yX4_noCampaign, .selects RX4 yX4_noCampaign yX4_noCampaign, .initialized RX4, .code yX4_noCampaign cX4_noCampaign 2 (some .boolean), .methodLink RX4 127 yX4_isCampaign, .instanceMethod yX4_isCampaign, .selects RX4 yX4_isCampaign yX4_isCampaign, .code yX4_isCampaign cX4_isCampaign 2 (some .boolean), .fieldLink RX4 92 "RingrollModel" "campaigns" "I", .methodLink RX4 84 yX4_in, .static yX4_in, .code yX4_in cX4_in 3 (some .boolean), .methodLink RX4 99 yX4_refused, .instanceMethod yX4_refused, .selects RX4 yX4_refused yX4_refused, .code yX4_refused cX4_refused 2 (some .boolean), .fieldLink RX4 80 "RingrollModel" "refusal" "I"] ++ wsX40)
def wsX4_isActive : List Cond := .code yX4_isActive cX4_isActive 2 (some .boolean) :: ([.fieldLink RX4 55 "RingrollModel" "isActive" "[Z", .methodLink RX4 130 yX4_noCampaign, .instanceMethod yX4_noCampaign, .selects RX4 yX4_noCampaign yX4_noCampaign, .initialized RX4, .code yX4_noCampaign cX4_noCampaign 2 (some .boolean), .methodLink RX4 127 yX4_isCampaign, .instanceMethod yX4_isCampaign, .selects RX4 yX4_isCampaign yX4_isCampaign, .code yX4_isCampaign cX4_isCampaign 2 (some .boolean), .fieldLink RX4 92 "RingrollModel" "campaigns" "I", .methodLink RX4 84 yX4_in, .static yX4_in, .code yX4_in cX4_in 3 (some .boolean), .methodLink RX4 99 yX4_refused, .instanceMethod yX4_refused, .selects RX4 yX4_refused yX4_refused, .code yX4_refused cX4_refused 2 (some .boolean), .fieldLink RX4 80 "RingrollModel" "refusal" "I"] ++ wsX40)
def wsX4_ring : List Cond := .code yX4_ring cX4_ring 2 (some .int) :: ([.fieldLink RX4 59 "RingrollModel" "rings" "[I", .methodLink RX4 130 yX4_noCampaign, .instanceMethod yX4_noCampaign, .selects RX4 yX4_noCampaign yX4_noCampaign, .initialized RX4, .code yX4_noCampaign cX4_noCampaign 2 (some .boolean), .methodLink RX4 127 yX4_isCampaign, .instanceMethod yX4_isCampaign, .selects RX4 yX4_isCampaign yX4_isCampaign, .code yX4_isCampaign cX4_isCampaign 2 (some .boolean), .fieldLink RX4 92 "RingrollModel" "campaigns" "I", .methodLink RX4 84 yX4_in, .static yX4_in, .code yX4_in cX4_in 3 (some .boolean), .methodLink RX4 99 yX4_refused, .instanceMethod yX4_refused, .selects RX4 yX4_refused yX4_refused, .code yX4_refused cX4_refused 2 (some .boolean), .fieldLink RX4 80 "RingrollModel" "refusal" "I"] ++ wsX40)
def wsX4_reports : List Cond := .code yX4_reports cX4_reports 2 (some .int) :: ([.fieldLink RX4 71 "RingrollModel" "reports" "[I", .methodLink RX4 130 yX4_noCampaign, .instanceMethod yX4_noCampaign, .selects RX4 yX4_noCampaign yX4_noCampaign, .initialized RX4, .code yX4_noCampaign cX4_noCampaign 2 (some .boolean), .methodLink RX4 127 yX4_isCampaign, .instanceMethod yX4_isCampaign, .selects RX4 yX4_isCampaign yX4_isCampaign, .code yX4_isCampaign cX4_isCampaign 2 (some .boolean), .fieldLink RX4 92 "RingrollModel" "campaigns" "I", .methodLink RX4 84 yX4_in, .static yX4_in, .code yX4_in cX4_in 3 (some .boolean), .methodLink RX4 99 yX4_refused, .instanceMethod yX4_refused, .selects RX4 yX4_refused yX4_refused, .code yX4_refused cX4_refused 2 (some .boolean), .fieldLink RX4 80 "RingrollModel" "refusal" "I"] ++ wsX40)
def wsX4_mayTake : List Cond := .code yX4_mayTake cX4_mayTake 8 (some .boolean) :: ([.fieldLink RX4 46 "RingrollModel" "targets" "[I", .fieldLink RX4 49 "RingrollModel" "forKinds" "[I", .fieldLink RX4 22 "RingrollModel" "kinds" "[I", .fieldLink RX4 52 "RingrollModel" "forVersions" "[I", .fieldLink RX4 25 "RingrollModel" "versions" "[I", .fieldLink RX4 7 "RingrollModel" "allowed" "[I", .fieldLink RX4 62 "RingrollModel" "shares" "[I", .fieldLink RX4 59 "RingrollModel" "rings" "[I", .fieldLink RX4 77 "RingrollModel" "reporters" "[I", .fieldLink RX4 37 "RingrollModel" "states" "[I", .fieldLink RX4 55 "RingrollModel" "isActive" "[Z", .methodLink RX4 106 yX4_sizeOf, .instanceMethod yX4_sizeOf, .selects RX4 yX4_sizeOf yX4_sizeOf, .initialized RX4, .code yX4_sizeOf cX4_sizeOf 5 (some .int), .fieldLink RX4 19 "RingrollModel" "reached" "[I", .fieldLink RX4 13 "RingrollModel" "images" "[I", .constant RX4 105 (100000000), .fieldLink RX4 16 "RingrollModel" "deltas" "[I"] ++ wsX40)
def wsX4_eligible_r1 : List Cond := [Cond.fieldLink RX4 89 "RingrollModel" "devices" "I", Cond.methodLink RX4 130 yX4_noCampaign, Cond.instanceMethod yX4_noCampaign, Cond.selects RX4 yX4_noCampaign yX4_noCampaign, Cond.initialized RX4, Cond.code yX4_noCampaign cX4_noCampaign 2 (some .boolean), Cond.methodLink RX4 127 yX4_isCampaign, Cond.instanceMethod yX4_isCampaign, Cond.selects RX4 yX4_isCampaign yX4_isCampaign, Cond.code yX4_isCampaign cX4_isCampaign 2 (some .boolean), Cond.fieldLink RX4 92 "RingrollModel" "campaigns" "I", Cond.methodLink RX4 84 yX4_in, Cond.static yX4_in, Cond.code yX4_in cX4_in 3 (some .boolean), Cond.methodLink RX4 99 yX4_refused, Cond.instanceMethod yX4_refused, Cond.selects RX4 yX4_refused yX4_refused, Cond.code yX4_refused cX4_refused 2 (some .boolean), Cond.fieldLink RX4 80 "RingrollModel" "refusal" "I", Cond.methodLink RX4 133 yX4_mayTake, Cond.instanceMethod yX4_mayTake, Cond.selects RX4 yX4_mayTake yX4_mayTake, Cond.code yX4_mayTake cX4_mayTake 8 (some .boolean), Cond.fieldLink RX4 46 "RingrollModel" "targets" "[I"]
def wsX4_eligible_r2 : List Cond := [Cond.fieldLink RX4 49 "RingrollModel" "forKinds" "[I", Cond.fieldLink RX4 22 "RingrollModel" "kinds" "[I", Cond.fieldLink RX4 52 "RingrollModel" "forVersions" "[I", Cond.fieldLink RX4 25 "RingrollModel" "versions" "[I", Cond.fieldLink RX4 7 "RingrollModel" "allowed" "[I", Cond.fieldLink RX4 62 "RingrollModel" "shares" "[I", Cond.fieldLink RX4 59 "RingrollModel" "rings" "[I", Cond.fieldLink RX4 77 "RingrollModel" "reporters" "[I", Cond.fieldLink RX4 37 "RingrollModel" "states" "[I", Cond.fieldLink RX4 55 "RingrollModel" "isActive" "[Z", Cond.methodLink RX4 106 yX4_sizeOf, Cond.instanceMethod yX4_sizeOf, Cond.selects RX4 yX4_sizeOf yX4_sizeOf, Cond.code yX4_sizeOf cX4_sizeOf 5 (some .int), Cond.fieldLink RX4 19 "RingrollModel" "reached" "[I", Cond.fieldLink RX4 13 "RingrollModel" "images" "[I", Cond.constant RX4 105 (100000000), Cond.fieldLink RX4 16 "RingrollModel" "deltas" "[I"]
def wsX4_eligible : List Cond := .code yX4_eligible cX4_eligible 4 (some .int) :: ((wsX4_eligible_r1 ++ wsX4_eligible_r2) ++ wsX40)
def wsX4_take_r1 : List Cond := [Cond.fieldLink RX4 92 "RingrollModel" "campaigns" "I", Cond.fieldLink RX4 40 "RingrollModel" "taken" "[I", Cond.fieldLink RX4 43 "RingrollModel" "left" "[I", Cond.fieldLink RX4 25 "RingrollModel" "versions" "[I", Cond.fieldLink RX4 46 "RingrollModel" "targets" "[I", Cond.fieldLink RX4 37 "RingrollModel" "states" "[I", Cond.methodLink RX4 133 yX4_mayTake, Cond.instanceMethod yX4_mayTake, Cond.selects RX4 yX4_mayTake yX4_mayTake, Cond.initialized RX4, Cond.code yX4_mayTake cX4_mayTake 8 (some .boolean), Cond.fieldLink RX4 49 "RingrollModel" "forKinds" "[I", Cond.fieldLink RX4 22 "RingrollModel" "kinds" "[I", Cond.fieldLink RX4 52 "RingrollModel" "forVersions" "[I", Cond.fieldLink RX4 7 "RingrollModel" "allowed" "[I", Cond.fieldLink RX4 62 "RingrollModel" "shares" "[I", Cond.fieldLink RX4 59 "RingrollModel" "rings" "[I", Cond.fieldLink RX4 77 "RingrollModel" "reporters" "[I", Cond.fieldLink RX4 55 "RingrollModel" "isActive" "[Z", Cond.methodLink RX4 106 yX4_sizeOf, Cond.instanceMethod yX4_sizeOf, Cond.selects RX4 yX4_sizeOf yX4_sizeOf, Cond.code yX4_sizeOf cX4_sizeOf 5 (some .int), Cond.fieldLink RX4 19 "RingrollModel" "reached" "[I"]
def wsX4_take_r2 : List Cond := [Cond.fieldLink RX4 13 "RingrollModel" "images" "[I", Cond.constant RX4 105 (100000000), Cond.fieldLink RX4 16 "RingrollModel" "deltas" "[I"]
def wsX4_take : List Cond := .code yX4_take cX4_take 3 none :: ((wsX4_take_r1 ++ wsX4_take_r2) ++ wsX40)
def wsX4_isOpen : List Cond := .code yX4_isOpen cX4_isOpen 5 (some .boolean) :: ([.fieldLink RX4 137 "RingrollModel" "clock" "I", .fieldLink RX4 31 "RingrollModel" "froms" "[I", .fieldLink RX4 34 "RingrollModel" "tos" "[I", .methodLink RX4 84 yX4_in, .static yX4_in, .initialized RX4, .code yX4_in cX4_in 3 (some .boolean)] ++ wsX40)
def wsX4_pass_r1 : List Cond := [Cond.fieldLink RX4 89 "RingrollModel" "devices" "I", Cond.fieldLink RX4 37 "RingrollModel" "states" "[I", Cond.fieldLink RX4 28 "RingrollModel" "batteries" "[I", Cond.fieldLink RX4 43 "RingrollModel" "left" "[I", Cond.fieldLink RX4 137 "RingrollModel" "clock" "I", Cond.methodLink RX4 84 yX4_in, Cond.static yX4_in, Cond.initialized RX4, Cond.code yX4_in cX4_in 3 (some .boolean), Cond.methodLink RX4 99 yX4_refused, Cond.instanceMethod yX4_refused, Cond.selects RX4 yX4_refused yX4_refused, Cond.code yX4_refused cX4_refused 2 (some .boolean), Cond.fieldLink RX4 80 "RingrollModel" "refusal" "I", Cond.methodLink RX4 140 yX4_take, Cond.instanceMethod yX4_take, Cond.selects RX4 yX4_take yX4_take, Cond.code yX4_take cX4_take 3 none, Cond.fieldLink RX4 92 "RingrollModel" "campaigns" "I", Cond.fieldLink RX4 40 "RingrollModel" "taken" "[I", Cond.fieldLink RX4 25 "RingrollModel" "versions" "[I", Cond.fieldLink RX4 46 "RingrollModel" "targets" "[I", Cond.methodLink RX4 133 yX4_mayTake, Cond.instanceMethod yX4_mayTake]
def wsX4_pass_r2 : List Cond := [Cond.selects RX4 yX4_mayTake yX4_mayTake, Cond.code yX4_mayTake cX4_mayTake 8 (some .boolean), Cond.fieldLink RX4 49 "RingrollModel" "forKinds" "[I", Cond.fieldLink RX4 22 "RingrollModel" "kinds" "[I", Cond.fieldLink RX4 52 "RingrollModel" "forVersions" "[I", Cond.fieldLink RX4 7 "RingrollModel" "allowed" "[I", Cond.fieldLink RX4 62 "RingrollModel" "shares" "[I", Cond.fieldLink RX4 59 "RingrollModel" "rings" "[I", Cond.fieldLink RX4 77 "RingrollModel" "reporters" "[I", Cond.fieldLink RX4 55 "RingrollModel" "isActive" "[Z", Cond.methodLink RX4 106 yX4_sizeOf, Cond.instanceMethod yX4_sizeOf, Cond.selects RX4 yX4_sizeOf yX4_sizeOf, Cond.code yX4_sizeOf cX4_sizeOf 5 (some .int), Cond.fieldLink RX4 19 "RingrollModel" "reached" "[I", Cond.fieldLink RX4 13 "RingrollModel" "images" "[I", Cond.constant RX4 105 (100000000), Cond.fieldLink RX4 16 "RingrollModel" "deltas" "[I", Cond.methodLink RX4 143 yX4_isOpen, Cond.instanceMethod yX4_isOpen, Cond.selects RX4 yX4_isOpen yX4_isOpen, Cond.code yX4_isOpen cX4_isOpen 5 (some .boolean), Cond.fieldLink RX4 31 "RingrollModel" "froms" "[I", Cond.fieldLink RX4 34 "RingrollModel" "tos" "[I"]
def wsX4_pass : List Cond := .code yX4_pass cX4_pass 5 (some .int) :: ((wsX4_pass_r1 ++ wsX4_pass_r2) ++ wsX40)
def wsJ9_max_7cf53 : List Cond := .code yJ9_max_7cf53 cJ9_max_7cf53 2 (some .int) :: ([])
def wsJ9_min_7cf53 : List Cond := .code yJ9_min_7cf53 cJ9_min_7cf53 2 (some .int) :: ([])
def wsL_allow : List Cond := .codeWith yL_allow cL_allow 5 (some .int) [(0, 10, 13, 13), (0, 10, 17, 15)] :: ([.classLink RL 13 "java/lang/IndexOutOfBoundsException", .classLink RL 15 "java/lang/IllegalArgumentException", .methodLink RL 7 yX3_allow, .instanceMethod yX3_allow, .selects RX3 yX3_allow yX3_allow, .initialized RX3, .code yX3_allow cX3_allow 4 (some .int), .fieldLink RX3 9 "Ringroll" "kindsOfVersion" "[I", .methodLink RX3 52 yX3_needVersion, .static yX3_needVersion, .code yX3_needVersion cX3_needVersion 1 none, .classLink RX3 83 "java/lang/IndexOutOfBoundsException", .initialized "java/lang/IndexOutOfBoundsException", .methodLink RX3 55 yX3_needRange, .static yX3_needRange, .code yX3_needRange cX3_needRange 3 none, .classLink RX3 66 "java/lang/IllegalArgumentException", .initialized "java/lang/IllegalArgumentException"] ++ wsX30 ++ (vx_atS RX3 87 "java/lang/IndexOutOfBoundsException" ["java/lang/RuntimeException", "java/lang/Exception"]).filter goodWord ++ (vx_atS RX3 70 "java/lang/IllegalArgumentException" ["java/lang/RuntimeException", "java/lang/Exception"]).filter goodWord)
def wsL_setImage_r1 : List Cond := [Cond.classLink RL 13 "java/lang/IndexOutOfBoundsException", Cond.classLink RL 15 "java/lang/IllegalArgumentException", Cond.methodLink RL 17 yX3_setImage, Cond.instanceMethod yX3_setImage, Cond.selects RX3 yX3_setImage yX3_setImage, Cond.initialized RX3, Cond.code yX3_setImage cX3_setImage 3 (some .int), Cond.fieldLink RX3 16 "Ringroll" "ways" "LRingroll$Ways;", Cond.methodLink RX3 52 yX3_needVersion, Cond.static yX3_needVersion, Cond.code yX3_needVersion cX3_needVersion 1 none, Cond.classLink RX3 83 "java/lang/IndexOutOfBoundsException", Cond.initialized "java/lang/IndexOutOfBoundsException", Cond.methodLink RX3 59 yX3_needBytesOrNone, Cond.static yX3_needBytesOrNone, Cond.code yX3_needBytesOrNone cX3_needBytesOrNone 1 none, Cond.constant RX3 216 (100000), Cond.methodLink RX3 55 yX3_needRange, Cond.static yX3_needRange, Cond.code yX3_needRange cX3_needRange 3 none, Cond.classLink RX3 66 "java/lang/IllegalArgumentException", Cond.initialized "java/lang/IllegalArgumentException", Cond.methodLink RX3 62 yX2_changeImage, Cond.instanceMethod yX2_changeImage]
def wsL_setImage_r2 : List Cond := [Cond.selects RX2 yX2_changeImage yX2_changeImage, Cond.initialized RX2, Cond.code yX2_changeImage cX2_changeImage 4 (some .int), Cond.fieldLink RX2 9 "Ringroll$Ways" "images" "[I", Cond.methodLink RX2 32 yX2_measure, Cond.instanceMethod yX2_measure, Cond.selects RX2 yX2_measure yX2_measure, Cond.code yX2_measure cX2_measure 3 none, Cond.fieldLink RX2 20 "Ringroll$Ways" "leastByDeltas" "[[I", Cond.fieldLink RX2 17 "Ringroll$Ways" "deltas" "[[I", Cond.fieldLink RX2 23 "Ringroll$Ways" "leastByImage" "[I", Cond.constant RX2 49 (1000000), Cond.methodLink RX2 35 Lib.Math.min.name, Cond.static Lib.Math.min.name, Cond.initialized "java/lang/Math", Cond.code Lib.Math.min.name Lib.Math.min.code 2 (some .int), Cond.methodLink RX2 54 yX2_orFar, Cond.static yX2_orFar, Cond.code yX2_orFar cX2_orFar 1 (some .int), Cond.methodLink RX2 57 yX2_measureVia, Cond.instanceMethod yX2_measureVia, Cond.selects RX2 yX2_measureVia yX2_measureVia, Cond.code yX2_measureVia cX2_measureVia 5 none]
def wsL_setImage : List Cond := .codeWith yL_setImage cL_setImage 5 (some .int) [(0, 10, 13, 13), (0, 10, 17, 15)] :: ((wsL_setImage_r1 ++ wsL_setImage_r2) ++ wsX30 ++ wsX20 ++ (vx_atS RX3 87 "java/lang/IndexOutOfBoundsException" ["java/lang/RuntimeException", "java/lang/Exception"]).filter goodWord ++ (vx_atS RX3 70 "java/lang/IllegalArgumentException" ["java/lang/RuntimeException", "java/lang/Exception"]).filter goodWord)
def wsL_setDelta_r1 : List Cond := [Cond.classLink RL 13 "java/lang/IndexOutOfBoundsException", Cond.classLink RL 15 "java/lang/IllegalArgumentException", Cond.methodLink RL 20 yX3_setDelta, Cond.instanceMethod yX3_setDelta, Cond.selects RX3 yX3_setDelta yX3_setDelta, Cond.initialized RX3, Cond.code yX3_setDelta cX3_setDelta 4 (some .int), Cond.classLink RX3 66 "java/lang/IllegalArgumentException", Cond.initialized "java/lang/IllegalArgumentException", Cond.fieldLink RX3 16 "Ringroll" "ways" "LRingroll$Ways;", Cond.methodLink RX3 52 yX3_needVersion, Cond.static yX3_needVersion, Cond.code yX3_needVersion cX3_needVersion 1 none, Cond.classLink RX3 83 "java/lang/IndexOutOfBoundsException", Cond.initialized "java/lang/IndexOutOfBoundsException", Cond.methodLink RX3 59 yX3_needBytesOrNone, Cond.static yX3_needBytesOrNone, Cond.code yX3_needBytesOrNone cX3_needBytesOrNone 1 none, Cond.constant RX3 216 (100000), Cond.methodLink RX3 55 yX3_needRange, Cond.static yX3_needRange, Cond.code yX3_needRange cX3_needRange 3 none, Cond.methodLink RX3 73 yX2_changeDelta, Cond.instanceMethod yX2_changeDelta]
def wsL_setDelta_r2 : List Cond := [Cond.selects RX2 yX2_changeDelta yX2_changeDelta, Cond.initialized RX2, Cond.code yX2_changeDelta cX2_changeDelta 5 (some .int), Cond.fieldLink RX2 17 "Ringroll$Ways" "deltas" "[[I", Cond.methodLink RX2 32 yX2_measure, Cond.instanceMethod yX2_measure, Cond.selects RX2 yX2_measure yX2_measure, Cond.code yX2_measure cX2_measure 3 none, Cond.fieldLink RX2 20 "Ringroll$Ways" "leastByDeltas" "[[I", Cond.fieldLink RX2 23 "Ringroll$Ways" "leastByImage" "[I", Cond.constant RX2 49 (1000000), Cond.fieldLink RX2 9 "Ringroll$Ways" "images" "[I", Cond.methodLink RX2 35 Lib.Math.min.name, Cond.static Lib.Math.min.name, Cond.initialized "java/lang/Math", Cond.code Lib.Math.min.name Lib.Math.min.code 2 (some .int), Cond.methodLink RX2 54 yX2_orFar, Cond.static yX2_orFar, Cond.code yX2_orFar cX2_orFar 1 (some .int), Cond.methodLink RX2 57 yX2_measureVia, Cond.instanceMethod yX2_measureVia, Cond.selects RX2 yX2_measureVia yX2_measureVia, Cond.code yX2_measureVia cX2_measureVia 5 none]
def wsL_setDelta : List Cond := .codeWith yL_setDelta cL_setDelta 6 (some .int) [(0, 12, 15, 13), (0, 12, 19, 15)] :: ((wsL_setDelta_r1 ++ wsL_setDelta_r2) ++ wsX30 ++ wsX20 ++ (vx_atS RX3 70 "java/lang/IllegalArgumentException" ["java/lang/RuntimeException", "java/lang/Exception"]).filter goodWord ++ (vx_atS RX3 87 "java/lang/IndexOutOfBoundsException" ["java/lang/RuntimeException", "java/lang/Exception"]).filter goodWord)
def wsL_size_r1 : List Cond := [Cond.classLink RL 13 "java/lang/IndexOutOfBoundsException", Cond.methodLink RL 24 yX3_size, Cond.instanceMethod yX3_size, Cond.selects RX3 yX3_size yX3_size, Cond.initialized RX3, Cond.code yX3_size cX3_size 3 (some .int), Cond.fieldLink RX3 16 "Ringroll" "ways" "LRingroll$Ways;", Cond.methodLink RX3 52 yX3_needVersion, Cond.static yX3_needVersion, Cond.code yX3_needVersion cX3_needVersion 1 none, Cond.classLink RX3 83 "java/lang/IndexOutOfBoundsException", Cond.initialized "java/lang/IndexOutOfBoundsException", Cond.methodLink RX3 77 yX2_leastBytes, Cond.instanceMethod yX2_leastBytes, Cond.selects RX2 yX2_leastBytes yX2_leastBytes, Cond.initialized RX2, Cond.code yX2_leastBytes cX2_leastBytes 3 (some .int), Cond.fieldLink RX2 20 "Ringroll$Ways" "leastByDeltas" "[[I", Cond.fieldLink RX2 23 "Ringroll$Ways" "leastByImage" "[I", Cond.methodLink RX2 35 Lib.Math.min.name, Cond.static Lib.Math.min.name, Cond.initialized "java/lang/Math", Cond.code Lib.Math.min.name Lib.Math.min.code 2 (some .int), Cond.methodLink RX2 41 yX2_orNone]
def wsL_size_r2 : List Cond := [Cond.static yX2_orNone, Cond.code yX2_orNone cX2_orNone 1 (some .int), Cond.constant RX2 49 (1000000)]
def wsL_size : List Cond := .codeWith yL_size cL_size 5 (some .int) [(0, 10, 13, 13)] :: ((wsL_size_r1 ++ wsL_size_r2) ++ wsX30 ++ wsX20 ++ (vx_atS RX3 87 "java/lang/IndexOutOfBoundsException" ["java/lang/RuntimeException", "java/lang/Exception"]).filter goodWord)
def wsL_sizeByWays_r1 : List Cond := [Cond.classLink RL 13 "java/lang/IndexOutOfBoundsException", Cond.methodLink RL 27 yX3_sizeByWays, Cond.instanceMethod yX3_sizeByWays, Cond.selects RX3 yX3_sizeByWays yX3_sizeByWays, Cond.initialized RX3, Cond.code yX3_sizeByWays cX3_sizeByWays 3 (some .int), Cond.fieldLink RX3 16 "Ringroll" "ways" "LRingroll$Ways;", Cond.methodLink RX3 52 yX3_needVersion, Cond.static yX3_needVersion, Cond.code yX3_needVersion cX3_needVersion 1 none, Cond.classLink RX3 83 "java/lang/IndexOutOfBoundsException", Cond.initialized "java/lang/IndexOutOfBoundsException", Cond.methodLink RX3 80 yX2_leastBytesOfAllWays, Cond.instanceMethod yX2_leastBytesOfAllWays, Cond.selects RX2 yX2_leastBytesOfAllWays yX2_leastBytesOfAllWays, Cond.initialized RX2, Cond.code yX2_leastBytesOfAllWays cX2_leastBytesOfAllWays 5 (some .int), Cond.fieldLink RX2 17 "Ringroll$Ways" "deltas" "[[I", Cond.fieldLink RX2 9 "Ringroll$Ways" "images" "[I", Cond.methodLink RX2 35 Lib.Math.min.name, Cond.static Lib.Math.min.name, Cond.initialized "java/lang/Math", Cond.code Lib.Math.min.name Lib.Math.min.code 2 (some .int), Cond.methodLink RX2 45 yX2_leastAlong]
def wsL_sizeByWays_r2 : List Cond := [Cond.static yX2_leastAlong, Cond.code yX2_leastAlong cX2_leastAlong 8 (some .int), Cond.constant RX2 49 (1000000), Cond.static yX3_has, Cond.code yX3_has cX3_has 2 (some .boolean), Cond.methodLink RX2 41 yX2_orNone, Cond.static yX2_orNone, Cond.code yX2_orNone cX2_orNone 1 (some .int)]
def wsL_sizeByWays : List Cond := .codeWith yL_sizeByWays cL_sizeByWays 5 (some .int) [(0, 10, 13, 13)] :: ((wsL_sizeByWays_r1 ++ wsL_sizeByWays_r2) ++ wsX30 ++ wsX20 ++ (vx_atS RX3 87 "java/lang/IndexOutOfBoundsException" ["java/lang/RuntimeException", "java/lang/Exception"]).filter goodWord)
def wsL_addDevice : List Cond := .codeWith yL_addDevice cL_addDevice 5 (some .int) [(0, 10, 13, 13), (0, 10, 17, 33)] :: ([.classLink RL 13 "java/lang/IndexOutOfBoundsException", .classLink RL 33 "java/lang/IllegalStateException", .methodLink RL 30 yX3_addDevice, .instanceMethod yX3_addDevice, .selects RX3 yX3_addDevice yX3_addDevice, .initialized RX3, .code yX3_addDevice cX3_addDevice 4 (some .int), .classLink RX3 83 "java/lang/IndexOutOfBoundsException", .initialized "java/lang/IndexOutOfBoundsException", .classLink RX3 88 "java/lang/IllegalStateException", .initialized "java/lang/IllegalStateException", .fieldLink RX3 32 "Ringroll" "deviceCount" "I", .fieldLink RX3 9 "Ringroll" "kindsOfVersion" "[I", .fieldLink RX3 22 "Ringroll" "fleet" "[LRingroll$Device;", .fieldLink RX3 99 "Ringroll$Device" "kind" "I", .fieldLink RX3 102 "Ringroll$Device" "version" "I", .fieldLink RX3 105 "Ringroll$Device" "number" "I", .methodLink RX3 52 yX3_needVersion, .static yX3_needVersion, .code yX3_needVersion cX3_needVersion 1 none, .methodLink RX3 93 yX3_has, .static yX3_has, .code yX3_has cX3_has 2 (some .boolean)] ++ wsX30 ++ wsX10 ++ (vx_atS RX3 87 "java/lang/IndexOutOfBoundsException" ["java/lang/RuntimeException", "java/lang/Exception"]).filter goodWord ++ (vx_atS RX3 92 "java/lang/IllegalStateException" ["java/lang/RuntimeException", "java/lang/Exception"]).filter goodWord)
def wsL_charge : List Cond := .codeWith yL_charge cL_charge 5 (some .int) [(0, 10, 13, 13), (0, 10, 17, 15)] :: ([.classLink RL 13 "java/lang/IndexOutOfBoundsException", .classLink RL 15 "java/lang/IllegalArgumentException", .methodLink RL 35 yX3_charge, .instanceMethod yX3_charge, .selects RX3 yX3_charge yX3_charge, .initialized RX3, .code yX3_charge cX3_charge 5 (some .int), .fieldLink RX3 112 "Ringroll$Device" "battery" "I", .methodLink RX3 108 yX3_deviceAt, .instanceMethod yX3_deviceAt, .selects RX3 yX3_deviceAt yX3_deviceAt, .code yX3_deviceAt cX3_deviceAt 2 (some (.object "Ringroll$Device")), .classLink RX3 83 "java/lang/IndexOutOfBoundsException", .initialized "java/lang/IndexOutOfBoundsException", .fieldLink RX3 32 "Ringroll" "deviceCount" "I", .fieldLink RX3 22 "Ringroll" "fleet" "[LRingroll$Device;", .methodLink RX3 55 yX3_needRange, .static yX3_needRange, .code yX3_needRange cX3_needRange 3 none, .classLink RX3 66 "java/lang/IllegalArgumentException", .initialized "java/lang/IllegalArgumentException"] ++ wsX10 ++ wsX30 ++ (vx_atS RX3 87 "java/lang/IndexOutOfBoundsException" ["java/lang/RuntimeException", "java/lang/Exception"]).filter goodWord ++ (vx_atS RX3 70 "java/lang/IllegalArgumentException" ["java/lang/RuntimeException", "java/lang/Exception"]).filter goodWord)
def wsL_setWindow : List Cond := .codeWith yL_setWindow cL_setWindow 5 (some .int) [(0, 7, 10, 13), (0, 7, 14, 15)] :: ([.classLink RL 13 "java/lang/IndexOutOfBoundsException", .classLink RL 15 "java/lang/IllegalArgumentException", .methodLink RL 38 yX3_setWindow, .instanceMethod yX3_setWindow, .selects RX3 yX3_setWindow yX3_setWindow, .initialized RX3, .code yX3_setWindow cX3_setWindow 5 none, .fieldLink RX3 115 "Ringroll$Device" "firstHour" "I", .fieldLink RX3 118 "Ringroll$Device" "lastHour" "I", .methodLink RX3 108 yX3_deviceAt, .instanceMethod yX3_deviceAt, .selects RX3 yX3_deviceAt yX3_deviceAt, .code yX3_deviceAt cX3_deviceAt 2 (some (.object "Ringroll$Device")), .classLink RX3 83 "java/lang/IndexOutOfBoundsException", .initialized "java/lang/IndexOutOfBoundsException", .fieldLink RX3 32 "Ringroll" "deviceCount" "I", .fieldLink RX3 22 "Ringroll" "fleet" "[LRingroll$Device;", .methodLink RX3 55 yX3_needRange, .static yX3_needRange, .code yX3_needRange cX3_needRange 3 none, .classLink RX3 66 "java/lang/IllegalArgumentException", .initialized "java/lang/IllegalArgumentException"] ++ wsX10 ++ wsX30 ++ (vx_atS RX3 87 "java/lang/IndexOutOfBoundsException" ["java/lang/RuntimeException", "java/lang/Exception"]).filter goodWord ++ (vx_atS RX3 70 "java/lang/IllegalArgumentException" ["java/lang/RuntimeException", "java/lang/Exception"]).filter goodWord)
def wsL_report_r1 : List Cond := [Cond.classLink RL 13 "java/lang/IndexOutOfBoundsException", Cond.classLink RL 33 "java/lang/IllegalStateException", Cond.methodLink RL 42 yX3_report, Cond.instanceMethod yX3_report, Cond.selects RX3 yX3_report yX3_report, Cond.initialized RX3, Cond.code yX3_report cX3_report 5 (some .int), Cond.classLink RX3 88 "java/lang/IllegalStateException", Cond.initialized "java/lang/IllegalStateException", Cond.fieldLink RX3 121 "Ringroll$Device" "state" "I", Cond.fieldLink RX3 126 "Ringroll$Device" "campaign" "I", Cond.fieldLink RX3 133 "Ringroll$Campaign" "target" "I", Cond.fieldLink RX3 102 "Ringroll$Device" "version" "I", Cond.methodLink RX3 108 yX3_deviceAt, Cond.instanceMethod yX3_deviceAt, Cond.selects RX3 yX3_deviceAt yX3_deviceAt, Cond.code yX3_deviceAt cX3_deviceAt 2 (some (.object "Ringroll$Device")), Cond.classLink RX3 83 "java/lang/IndexOutOfBoundsException", Cond.initialized "java/lang/IndexOutOfBoundsException", Cond.fieldLink RX3 32 "Ringroll" "deviceCount" "I", Cond.fieldLink RX3 22 "Ringroll" "fleet" "[LRingroll$Device;", Cond.methodLink RX3 129 yX3_campaignAt, Cond.instanceMethod yX3_campaignAt, Cond.selects RX3 yX3_campaignAt yX3_campaignAt]
def wsL_report_r2 : List Cond := [Cond.code yX3_campaignAt cX3_campaignAt 2 (some (.object "Ringroll$Campaign")), Cond.fieldLink RX3 28 "Ringroll" "campaigns" "[LRingroll$Campaign;", Cond.methodLink RX3 146 yX3_needCampaign, Cond.instanceMethod yX3_needCampaign, Cond.selects RX3 yX3_needCampaign yX3_needCampaign, Cond.code yX3_needCampaign cX3_needCampaign 2 none, Cond.fieldLink RX3 36 "Ringroll" "campaignCount" "I", Cond.methodLink RX3 136 yX0_countReport, Cond.instanceMethod yX0_countReport, Cond.selects RX0 yX0_countReport yX0_countReport, Cond.initialized RX0, Cond.code yX0_countReport cX0_countReport 3 none, Cond.fieldLink RX0 46 "Ringroll$Campaign" "reporters" "I", Cond.fieldLink RX0 72 "Ringroll$Device" "number" "I", Cond.fieldLink RX0 40 "Ringroll$Campaign" "reports" "I", Cond.fieldLink RX0 43 "Ringroll$Campaign" "failures" "I", Cond.methodLink RX3 140 yX0_judgeRing, Cond.instanceMethod yX0_judgeRing, Cond.selects RX0 yX0_judgeRing yX0_judgeRing, Cond.code yX0_judgeRing cX0_judgeRing 1 none, Cond.fieldLink RX0 33 "Ringroll$Campaign" "isActive" "Z", Cond.fieldLink RX0 27 "Ringroll$Campaign" "needs" "I", Cond.fieldLink RX0 30 "Ringroll$Campaign" "thousandths" "I", Cond.fieldLink RX0 37 "Ringroll$Campaign" "ring" "I"]
def wsL_report_r3 : List Cond := [Cond.methodLink RX0 73 yX0_beginRing, Cond.instanceMethod yX0_beginRing, Cond.selects RX0 yX0_beginRing yX0_beginRing, Cond.code yX0_beginRing cX0_beginRing 2 none]
def wsL_report : List Cond := .codeWith yL_report cL_report 5 (some .int) [(0, 10, 13, 13), (0, 10, 17, 33)] :: ((wsL_report_r1 ++ (wsL_report_r2 ++ wsL_report_r3)) ++ wsX10 ++ wsX00 ++ wsX30 ++ (vx_atS RX3 92 "java/lang/IllegalStateException" ["java/lang/RuntimeException", "java/lang/Exception"]).filter goodWord ++ (vx_atS RX3 87 "java/lang/IndexOutOfBoundsException" ["java/lang/RuntimeException", "java/lang/Exception"]).filter goodWord)
def wsL_state : List Cond := .codeWith yL_state cL_state 4 (some .int) [(0, 9, 12, 13)] :: ([.classLink RL 13 "java/lang/IndexOutOfBoundsException", .methodLink RL 46 yX3_state, .instanceMethod yX3_state, .selects RX3 yX3_state yX3_state, .initialized RX3, .code yX3_state cX3_state 2 (some .int), .fieldLink RX3 121 "Ringroll$Device" "state" "I", .methodLink RX3 108 yX3_deviceAt, .instanceMethod yX3_deviceAt, .selects RX3 yX3_deviceAt yX3_deviceAt, .code yX3_deviceAt cX3_deviceAt 2 (some (.object "Ringroll$Device")), .classLink RX3 83 "java/lang/IndexOutOfBoundsException", .initialized "java/lang/IndexOutOfBoundsException", .fieldLink RX3 32 "Ringroll" "deviceCount" "I", .fieldLink RX3 22 "Ringroll" "fleet" "[LRingroll$Device;"] ++ wsX10 ++ wsX30 ++ (vx_atS RX3 87 "java/lang/IndexOutOfBoundsException" ["java/lang/RuntimeException", "java/lang/Exception"]).filter goodWord)
def wsL_version : List Cond := .codeWith yL_version cL_version 4 (some .int) [(0, 9, 12, 13)] :: ([.classLink RL 13 "java/lang/IndexOutOfBoundsException", .methodLink RL 50 yX3_version, .instanceMethod yX3_version, .selects RX3 yX3_version yX3_version, .initialized RX3, .code yX3_version cX3_version 2 (some .int), .fieldLink RX3 102 "Ringroll$Device" "version" "I", .methodLink RX3 108 yX3_deviceAt, .instanceMethod yX3_deviceAt, .selects RX3 yX3_deviceAt yX3_deviceAt, .code yX3_deviceAt cX3_deviceAt 2 (some (.object "Ringroll$Device")), .classLink RX3 83 "java/lang/IndexOutOfBoundsException", .initialized "java/lang/IndexOutOfBoundsException", .fieldLink RX3 32 "Ringroll" "deviceCount" "I", .fieldLink RX3 22 "Ringroll" "fleet" "[LRingroll$Device;"] ++ wsX10 ++ wsX30 ++ (vx_atS RX3 87 "java/lang/IndexOutOfBoundsException" ["java/lang/RuntimeException", "java/lang/Exception"]).filter goodWord)
def wsL_campaignOf : List Cond := .codeWith yL_campaignOf cL_campaignOf 4 (some .int) [(0, 9, 12, 13)] :: ([.classLink RL 13 "java/lang/IndexOutOfBoundsException", .methodLink RL 53 yX3_campaignOf, .instanceMethod yX3_campaignOf, .selects RX3 yX3_campaignOf yX3_campaignOf, .initialized RX3, .code yX3_campaignOf cX3_campaignOf 2 (some .int), .fieldLink RX3 126 "Ringroll$Device" "campaign" "I", .methodLink RX3 108 yX3_deviceAt, .instanceMethod yX3_deviceAt, .selects RX3 yX3_deviceAt yX3_deviceAt, .code yX3_deviceAt cX3_deviceAt 2 (some (.object "Ringroll$Device")), .classLink RX3 83 "java/lang/IndexOutOfBoundsException", .initialized "java/lang/IndexOutOfBoundsException", .fieldLink RX3 32 "Ringroll" "deviceCount" "I", .fieldLink RX3 22 "Ringroll" "fleet" "[LRingroll$Device;"] ++ wsX10 ++ wsX30 ++ (vx_atS RX3 87 "java/lang/IndexOutOfBoundsException" ["java/lang/RuntimeException", "java/lang/Exception"]).filter goodWord)
def wsL_toGo : List Cond := .codeWith yL_toGo cL_toGo 4 (some .int) [(0, 9, 12, 13)] :: ([.classLink RL 13 "java/lang/IndexOutOfBoundsException", .methodLink RL 56 yX3_toGo, .instanceMethod yX3_toGo, .selects RX3 yX3_toGo yX3_toGo, .initialized RX3, .code yX3_toGo cX3_toGo 2 (some .int), .fieldLink RX3 143 "Ringroll$Device" "bytesToGo" "I", .methodLink RX3 108 yX3_deviceAt, .instanceMethod yX3_deviceAt, .selects RX3 yX3_deviceAt yX3_deviceAt, .code yX3_deviceAt cX3_deviceAt 2 (some (.object "Ringroll$Device")), .classLink RX3 83 "java/lang/IndexOutOfBoundsException", .initialized "java/lang/IndexOutOfBoundsException", .fieldLink RX3 32 "Ringroll" "deviceCount" "I", .fieldLink RX3 22 "Ringroll" "fleet" "[LRingroll$Device;"] ++ wsX10 ++ wsX30 ++ (vx_atS RX3 87 "java/lang/IndexOutOfBoundsException" ["java/lang/RuntimeException", "java/lang/Exception"]).filter goodWord)
def wsL_battery : List Cond := .codeWith yL_battery cL_battery 4 (some .int) [(0, 9, 12, 13)] :: ([.classLink RL 13 "java/lang/IndexOutOfBoundsException", .methodLink RL 59 yX3_battery, .instanceMethod yX3_battery, .selects RX3 yX3_battery yX3_battery, .initialized RX3, .code yX3_battery cX3_battery 2 (some .int), .fieldLink RX3 112 "Ringroll$Device" "battery" "I", .methodLink RX3 108 yX3_deviceAt, .instanceMethod yX3_deviceAt, .selects RX3 yX3_deviceAt yX3_deviceAt, .code yX3_deviceAt cX3_deviceAt 2 (some (.object "Ringroll$Device")), .classLink RX3 83 "java/lang/IndexOutOfBoundsException", .initialized "java/lang/IndexOutOfBoundsException", .fieldLink RX3 32 "Ringroll" "deviceCount" "I", .fieldLink RX3 22 "Ringroll" "fleet" "[LRingroll$Device;"] ++ wsX10 ++ wsX30 ++ (vx_atS RX3 87 "java/lang/IndexOutOfBoundsException" ["java/lang/RuntimeException", "java/lang/Exception"]).filter goodWord)
def wsL_begin_r1 : List Cond := [Cond.classLink RL 13 "java/lang/IndexOutOfBoundsException", Cond.classLink RL 15 "java/lang/IllegalArgumentException", Cond.classLink RL 33 "java/lang/IllegalStateException", Cond.methodLink RL 62 yX3_begin, Cond.instanceMethod yX3_begin, Cond.selects RX3 yX3_begin yX3_begin, Cond.initialized RX3, Cond.code yX3_begin cX3_begin 6 (some .int), Cond.classLink RX3 88 "java/lang/IllegalStateException", Cond.initialized "java/lang/IllegalStateException", Cond.fieldLink RX3 36 "Ringroll" "campaignCount" "I", Cond.fieldLink RX3 151 "Ringroll$Campaign" "isActive" "Z", Cond.fieldLink RX3 28 "Ringroll" "campaigns" "[LRingroll$Campaign;", Cond.fieldLink RX3 133 "Ringroll$Campaign" "target" "I", Cond.fieldLink RX3 155 "Ringroll$Campaign" "kinds" "I", Cond.fieldLink RX3 158 "Ringroll$Campaign" "versions" "I", Cond.fieldLink RX3 161 "Ringroll$Campaign" "number" "I", Cond.methodLink RX3 52 yX3_needVersion, Cond.static yX3_needVersion, Cond.code yX3_needVersion cX3_needVersion 1 none, Cond.classLink RX3 83 "java/lang/IndexOutOfBoundsException", Cond.initialized "java/lang/IndexOutOfBoundsException", Cond.methodLink RX3 146 yX3_needCampaign, Cond.instanceMethod yX3_needCampaign]
def wsL_begin_r2 : List Cond := [Cond.selects RX3 yX3_needCampaign yX3_needCampaign, Cond.code yX3_needCampaign cX3_needCampaign 2 none, Cond.methodLink RX3 55 yX3_needRange, Cond.static yX3_needRange, Cond.code yX3_needRange cX3_needRange 3 none, Cond.classLink RX3 66 "java/lang/IllegalArgumentException", Cond.initialized "java/lang/IllegalArgumentException", Cond.methodLink RX3 129 yX3_campaignAt, Cond.instanceMethod yX3_campaignAt, Cond.selects RX3 yX3_campaignAt yX3_campaignAt, Cond.code yX3_campaignAt cX3_campaignAt 2 (some (.object "Ringroll$Campaign"))]
def wsL_begin : List Cond := .codeWith yL_begin cL_begin 7 (some .int) [(0, 14, 17, 13), (0, 14, 21, 15), (0, 14, 25, 33)] :: ((wsL_begin_r1 ++ wsL_begin_r2) ++ wsX30 ++ wsX00 ++ (vx_atS RX3 92 "java/lang/IllegalStateException" ["java/lang/RuntimeException", "java/lang/Exception"]).filter goodWord ++ (vx_atS RX3 87 "java/lang/IndexOutOfBoundsException" ["java/lang/RuntimeException", "java/lang/Exception"]).filter goodWord ++ (vx_atS RX3 70 "java/lang/IllegalArgumentException" ["java/lang/RuntimeException", "java/lang/Exception"]).filter goodWord)
def wsL_setRules_r1 : List Cond := [Cond.classLink RL 13 "java/lang/IndexOutOfBoundsException", Cond.classLink RL 15 "java/lang/IllegalArgumentException", Cond.methodLink RL 66 yX3_setRules, Cond.instanceMethod yX3_setRules, Cond.selects RX3 yX3_setRules yX3_setRules, Cond.initialized RX3, Cond.code yX3_setRules cX3_setRules 7 none, Cond.fieldLink RX3 162 "Ringroll$Campaign" "firstShare" "I", Cond.fieldLink RX3 165 "Ringroll$Campaign" "secondShare" "I", Cond.fieldLink RX3 168 "Ringroll$Campaign" "needs" "I", Cond.fieldLink RX3 171 "Ringroll$Campaign" "thousandths" "I", Cond.methodLink RX3 129 yX3_campaignAt, Cond.instanceMethod yX3_campaignAt, Cond.selects RX3 yX3_campaignAt yX3_campaignAt, Cond.code yX3_campaignAt cX3_campaignAt 2 (some (.object "Ringroll$Campaign")), Cond.fieldLink RX3 28 "Ringroll" "campaigns" "[LRingroll$Campaign;", Cond.methodLink RX3 146 yX3_needCampaign, Cond.instanceMethod yX3_needCampaign, Cond.selects RX3 yX3_needCampaign yX3_needCampaign, Cond.code yX3_needCampaign cX3_needCampaign 2 none, Cond.classLink RX3 83 "java/lang/IndexOutOfBoundsException", Cond.initialized "java/lang/IndexOutOfBoundsException", Cond.fieldLink RX3 36 "Ringroll" "campaignCount" "I", Cond.methodLink RX3 55 yX3_needRange]
def wsL_setRules_r2 : List Cond := [Cond.static yX3_needRange, Cond.code yX3_needRange cX3_needRange 3 none, Cond.classLink RX3 66 "java/lang/IllegalArgumentException", Cond.initialized "java/lang/IllegalArgumentException"]
def wsL_setRules : List Cond := .codeWith yL_setRules cL_setRules 7 (some .int) [(0, 11, 14, 13), (0, 11, 18, 15)] :: ((wsL_setRules_r1 ++ wsL_setRules_r2) ++ wsX00 ++ wsX30 ++ (vx_atS RX3 87 "java/lang/IndexOutOfBoundsException" ["java/lang/RuntimeException", "java/lang/Exception"]).filter goodWord ++ (vx_atS RX3 70 "java/lang/IllegalArgumentException" ["java/lang/RuntimeException", "java/lang/Exception"]).filter goodWord)
def wsL_toggle_r1 : List Cond := [Cond.classLink RL 13 "java/lang/IndexOutOfBoundsException", Cond.methodLink RL 70 yX3_toggle, Cond.instanceMethod yX3_toggle, Cond.selects RX3 yX3_toggle yX3_toggle, Cond.initialized RX3, Cond.code yX3_toggle cX3_toggle 3 (some .boolean), Cond.fieldLink RX3 151 "Ringroll$Campaign" "isActive" "Z", Cond.fieldLink RX3 174 "Ringroll$Campaign" "ring" "I", Cond.methodLink RX3 129 yX3_campaignAt, Cond.instanceMethod yX3_campaignAt, Cond.selects RX3 yX3_campaignAt yX3_campaignAt, Cond.code yX3_campaignAt cX3_campaignAt 2 (some (.object "Ringroll$Campaign")), Cond.fieldLink RX3 28 "Ringroll" "campaigns" "[LRingroll$Campaign;", Cond.methodLink RX3 146 yX3_needCampaign, Cond.instanceMethod yX3_needCampaign, Cond.selects RX3 yX3_needCampaign yX3_needCampaign, Cond.code yX3_needCampaign cX3_needCampaign 2 none, Cond.classLink RX3 83 "java/lang/IndexOutOfBoundsException", Cond.initialized "java/lang/IndexOutOfBoundsException", Cond.fieldLink RX3 36 "Ringroll" "campaignCount" "I", Cond.methodLink RX3 177 yX0_beginRing, Cond.instanceMethod yX0_beginRing, Cond.selects RX0 yX0_beginRing yX0_beginRing, Cond.initialized RX0]
def wsL_toggle_r2 : List Cond := [Cond.code yX0_beginRing cX0_beginRing 2 none, Cond.fieldLink RX0 37 "Ringroll$Campaign" "ring" "I", Cond.fieldLink RX0 40 "Ringroll$Campaign" "reports" "I", Cond.fieldLink RX0 43 "Ringroll$Campaign" "failures" "I"]
def wsL_toggle : List Cond := .codeWith yL_toggle cL_toggle 4 (some .int) [(0, 16, 19, 13)] :: ((wsL_toggle_r1 ++ wsL_toggle_r2) ++ wsX00 ++ wsX30 ++ (vx_atS RX3 87 "java/lang/IndexOutOfBoundsException" ["java/lang/RuntimeException", "java/lang/Exception"]).filter goodWord)
def wsL_isActive : List Cond := .codeWith yL_isActive cL_isActive 4 (some .int) [(0, 16, 19, 13)] :: ([.classLink RL 13 "java/lang/IndexOutOfBoundsException", .methodLink RL 74 yX3_isActive, .instanceMethod yX3_isActive, .selects RX3 yX3_isActive yX3_isActive, .initialized RX3, .code yX3_isActive cX3_isActive 2 (some .boolean), .fieldLink RX3 151 "Ringroll$Campaign" "isActive" "Z", .methodLink RX3 129 yX3_campaignAt, .instanceMethod yX3_campaignAt, .selects RX3 yX3_campaignAt yX3_campaignAt, .code yX3_campaignAt cX3_campaignAt 2 (some (.object "Ringroll$Campaign")), .fieldLink RX3 28 "Ringroll" "campaigns" "[LRingroll$Campaign;", .methodLink RX3 146 yX3_needCampaign, .instanceMethod yX3_needCampaign, .selects RX3 yX3_needCampaign yX3_needCampaign, .code yX3_needCampaign cX3_needCampaign 2 none, .classLink RX3 83 "java/lang/IndexOutOfBoundsException", .initialized "java/lang/IndexOutOfBoundsException", .fieldLink RX3 36 "Ringroll" "campaignCount" "I"] ++ wsX00 ++ wsX30 ++ (vx_atS RX3 87 "java/lang/IndexOutOfBoundsException" ["java/lang/RuntimeException", "java/lang/Exception"]).filter goodWord)
def wsL_ring : List Cond := .codeWith yL_ring cL_ring 4 (some .int) [(0, 9, 12, 13)] :: ([.classLink RL 13 "java/lang/IndexOutOfBoundsException", .methodLink RL 77 yX3_ring, .instanceMethod yX3_ring, .selects RX3 yX3_ring yX3_ring, .initialized RX3, .code yX3_ring cX3_ring 2 (some .int), .fieldLink RX3 174 "Ringroll$Campaign" "ring" "I", .methodLink RX3 129 yX3_campaignAt, .instanceMethod yX3_campaignAt, .selects RX3 yX3_campaignAt yX3_campaignAt, .code yX3_campaignAt cX3_campaignAt 2 (some (.object "Ringroll$Campaign")), .fieldLink RX3 28 "Ringroll" "campaigns" "[LRingroll$Campaign;", .methodLink RX3 146 yX3_needCampaign, .instanceMethod yX3_needCampaign, .selects RX3 yX3_needCampaign yX3_needCampaign, .code yX3_needCampaign cX3_needCampaign 2 none, .classLink RX3 83 "java/lang/IndexOutOfBoundsException", .initialized "java/lang/IndexOutOfBoundsException", .fieldLink RX3 36 "Ringroll" "campaignCount" "I"] ++ wsX00 ++ wsX30 ++ (vx_atS RX3 87 "java/lang/IndexOutOfBoundsException" ["java/lang/RuntimeException", "java/lang/Exception"]).filter goodWord)
def wsL_reports : List Cond := .codeWith yL_reports cL_reports 4 (some .int) [(0, 9, 12, 13)] :: ([.classLink RL 13 "java/lang/IndexOutOfBoundsException", .methodLink RL 80 yX3_reports, .instanceMethod yX3_reports, .selects RX3 yX3_reports yX3_reports, .initialized RX3, .code yX3_reports cX3_reports 2 (some .int), .fieldLink RX3 180 "Ringroll$Campaign" "reports" "I", .methodLink RX3 129 yX3_campaignAt, .instanceMethod yX3_campaignAt, .selects RX3 yX3_campaignAt yX3_campaignAt, .code yX3_campaignAt cX3_campaignAt 2 (some (.object "Ringroll$Campaign")), .fieldLink RX3 28 "Ringroll" "campaigns" "[LRingroll$Campaign;", .methodLink RX3 146 yX3_needCampaign, .instanceMethod yX3_needCampaign, .selects RX3 yX3_needCampaign yX3_needCampaign, .code yX3_needCampaign cX3_needCampaign 2 none, .classLink RX3 83 "java/lang/IndexOutOfBoundsException", .initialized "java/lang/IndexOutOfBoundsException", .fieldLink RX3 36 "Ringroll" "campaignCount" "I"] ++ wsX00 ++ wsX30 ++ (vx_atS RX3 87 "java/lang/IndexOutOfBoundsException" ["java/lang/RuntimeException", "java/lang/Exception"]).filter goodWord)
def wsL_eligible_r1 : List Cond := [Cond.classLink RL 13 "java/lang/IndexOutOfBoundsException", Cond.methodLink RL 83 yX3_eligible, Cond.instanceMethod yX3_eligible, Cond.selects RX3 yX3_eligible yX3_eligible, Cond.initialized RX3, Cond.code yX3_eligible cX3_eligible 5 (some .int), Cond.fieldLink RX3 32 "Ringroll" "deviceCount" "I", Cond.fieldLink RX3 22 "Ringroll" "fleet" "[LRingroll$Device;", Cond.methodLink RX3 129 yX3_campaignAt, Cond.instanceMethod yX3_campaignAt, Cond.selects RX3 yX3_campaignAt yX3_campaignAt, Cond.code yX3_campaignAt cX3_campaignAt 2 (some (.object "Ringroll$Campaign")), Cond.fieldLink RX3 28 "Ringroll" "campaigns" "[LRingroll$Campaign;", Cond.methodLink RX3 146 yX3_needCampaign, Cond.instanceMethod yX3_needCampaign, Cond.selects RX3 yX3_needCampaign yX3_needCampaign, Cond.code yX3_needCampaign cX3_needCampaign 2 none, Cond.classLink RX3 83 "java/lang/IndexOutOfBoundsException", Cond.initialized "java/lang/IndexOutOfBoundsException", Cond.fieldLink RX3 36 "Ringroll" "campaignCount" "I", Cond.methodLink RX3 183 yX3_mayTake, Cond.instanceMethod yX3_mayTake, Cond.selects RX3 yX3_mayTake yX3_mayTake, Cond.code yX3_mayTake cX3_mayTake 3 (some .boolean)]
def wsL_eligible_r2 : List Cond := [Cond.fieldLink RX3 121 "Ringroll$Device" "state" "I", Cond.fieldLink RX3 9 "Ringroll" "kindsOfVersion" "[I", Cond.fieldLink RX3 133 "Ringroll$Campaign" "target" "I", Cond.fieldLink RX3 99 "Ringroll$Device" "kind" "I", Cond.fieldLink RX3 16 "Ringroll" "ways" "LRingroll$Ways;", Cond.fieldLink RX3 102 "Ringroll$Device" "version" "I", Cond.methodLink RX3 206 yX0_isFor, Cond.instanceMethod yX0_isFor, Cond.selects RX0 yX0_isFor yX0_isFor, Cond.initialized RX0, Cond.code yX0_isFor cX0_isFor 2 (some .boolean), Cond.fieldLink RX0 33 "Ringroll$Campaign" "isActive" "Z", Cond.fieldLink RX0 15 "Ringroll$Campaign" "kinds" "I", Cond.fieldLink RX0 52 "Ringroll$Device" "kind" "I", Cond.fieldLink RX0 18 "Ringroll$Campaign" "versions" "I", Cond.fieldLink RX0 61 "Ringroll$Device" "version" "I", Cond.fieldLink RX0 9 "Ringroll$Campaign" "target" "I", Cond.fieldLink RX0 46 "Ringroll$Campaign" "reporters" "I", Cond.fieldLink RX0 72 "Ringroll$Device" "number" "I", Cond.static yX3_has, Cond.code yX3_has cX3_has 2 (some .boolean), Cond.methodLink RX0 64 yX0_drawOf, Cond.instanceMethod yX0_drawOf, Cond.selects RX0 yX0_drawOf yX0_drawOf]
def wsL_eligible_r3 : List Cond := [Cond.code yX0_drawOf cX0_drawOf 2 (some .int), Cond.fieldLink RX0 49 "Ringroll$Campaign" "number" "I", Cond.methodLink RX0 68 yX0_share, Cond.instanceMethod yX0_share, Cond.selects RX0 yX0_share yX0_share, Cond.code yX0_share cX0_share 1 (some .int), Cond.fieldLink RX0 37 "Ringroll$Campaign" "ring" "I", Cond.fieldLink RX0 21 "Ringroll$Campaign" "firstShare" "I", Cond.fieldLink RX0 24 "Ringroll$Campaign" "secondShare" "I", Cond.methodLink RX3 93 yX3_has, Cond.methodLink RX3 77 yX2_leastBytes, Cond.instanceMethod yX2_leastBytes, Cond.selects RX2 yX2_leastBytes yX2_leastBytes, Cond.initialized RX2, Cond.code yX2_leastBytes cX2_leastBytes 3 (some .int), Cond.fieldLink RX2 20 "Ringroll$Ways" "leastByDeltas" "[[I", Cond.fieldLink RX2 23 "Ringroll$Ways" "leastByImage" "[I", Cond.methodLink RX2 35 Lib.Math.min.name, Cond.static Lib.Math.min.name, Cond.initialized "java/lang/Math", Cond.code Lib.Math.min.name Lib.Math.min.code 2 (some .int), Cond.methodLink RX2 41 yX2_orNone, Cond.static yX2_orNone, Cond.code yX2_orNone cX2_orNone 1 (some .int)]
def wsL_eligible_r4 : List Cond := [Cond.constant RX2 49 (1000000)]
def wsL_eligible : List Cond := .codeWith yL_eligible cL_eligible 4 (some .int) [(0, 9, 12, 13)] :: ((wsL_eligible_r1 ++ (wsL_eligible_r2 ++ (wsL_eligible_r3 ++ wsL_eligible_r4))) ++ wsX30 ++ wsX10 ++ wsX00 ++ wsX20 ++ (vx_atS RX3 87 "java/lang/IndexOutOfBoundsException" ["java/lang/RuntimeException", "java/lang/Exception"]).filter goodWord)
def wsL_pass_r1 : List Cond := [Cond.classLink RL 15 "java/lang/IllegalArgumentException", Cond.methodLink RL 86 yX3_pass, Cond.instanceMethod yX3_pass, Cond.selects RX3 yX3_pass yX3_pass, Cond.initialized RX3, Cond.code yX3_pass cX3_pass 4 (some .int), Cond.methodLink RX3 55 yX3_needRange, Cond.static yX3_needRange, Cond.code yX3_needRange cX3_needRange 3 none, Cond.classLink RX3 66 "java/lang/IllegalArgumentException", Cond.initialized "java/lang/IllegalArgumentException", Cond.methodLink RX3 187 yX3_passOneHour, Cond.instanceMethod yX3_passOneHour, Cond.selects RX3 yX3_passOneHour yX3_passOneHour, Cond.code yX3_passOneHour cX3_passOneHour 4 (some .int), Cond.fieldLink RX3 32 "Ringroll" "deviceCount" "I", Cond.fieldLink RX3 22 "Ringroll" "fleet" "[LRingroll$Device;", Cond.fieldLink RX3 39 "Ringroll" "hourOfDay" "I", Cond.fieldLink RX3 121 "Ringroll$Device" "state" "I", Cond.methodLink RX3 191 yX3_takeLowestCampaign, Cond.instanceMethod yX3_takeLowestCampaign, Cond.selects RX3 yX3_takeLowestCampaign yX3_takeLowestCampaign, Cond.code yX3_takeLowestCampaign cX3_takeLowestCampaign 4 none, Cond.fieldLink RX3 36 "Ringroll" "campaignCount" "I"]
def wsL_pass_r2 : List Cond := [Cond.fieldLink RX3 28 "Ringroll" "campaigns" "[LRingroll$Campaign;", Cond.fieldLink RX3 16 "Ringroll" "ways" "LRingroll$Ways;", Cond.fieldLink RX3 102 "Ringroll$Device" "version" "I", Cond.fieldLink RX3 133 "Ringroll$Campaign" "target" "I", Cond.methodLink RX3 183 yX3_mayTake, Cond.instanceMethod yX3_mayTake, Cond.selects RX3 yX3_mayTake yX3_mayTake, Cond.code yX3_mayTake cX3_mayTake 3 (some .boolean), Cond.fieldLink RX3 9 "Ringroll" "kindsOfVersion" "[I", Cond.fieldLink RX3 99 "Ringroll$Device" "kind" "I", Cond.methodLink RX3 206 yX0_isFor, Cond.instanceMethod yX0_isFor, Cond.selects RX0 yX0_isFor yX0_isFor, Cond.initialized RX0, Cond.code yX0_isFor cX0_isFor 2 (some .boolean), Cond.fieldLink RX0 33 "Ringroll$Campaign" "isActive" "Z", Cond.fieldLink RX0 15 "Ringroll$Campaign" "kinds" "I", Cond.fieldLink RX0 52 "Ringroll$Device" "kind" "I", Cond.fieldLink RX0 18 "Ringroll$Campaign" "versions" "I", Cond.fieldLink RX0 61 "Ringroll$Device" "version" "I", Cond.fieldLink RX0 9 "Ringroll$Campaign" "target" "I", Cond.fieldLink RX0 46 "Ringroll$Campaign" "reporters" "I", Cond.fieldLink RX0 72 "Ringroll$Device" "number" "I", Cond.static yX3_has]
def wsL_pass_r3 : List Cond := [Cond.code yX3_has cX3_has 2 (some .boolean), Cond.methodLink RX0 64 yX0_drawOf, Cond.instanceMethod yX0_drawOf, Cond.selects RX0 yX0_drawOf yX0_drawOf, Cond.code yX0_drawOf cX0_drawOf 2 (some .int), Cond.fieldLink RX0 49 "Ringroll$Campaign" "number" "I", Cond.methodLink RX0 68 yX0_share, Cond.instanceMethod yX0_share, Cond.selects RX0 yX0_share yX0_share, Cond.code yX0_share cX0_share 1 (some .int), Cond.fieldLink RX0 37 "Ringroll$Campaign" "ring" "I", Cond.fieldLink RX0 21 "Ringroll$Campaign" "firstShare" "I", Cond.fieldLink RX0 24 "Ringroll$Campaign" "secondShare" "I", Cond.methodLink RX3 93 yX3_has, Cond.methodLink RX3 77 yX2_leastBytes, Cond.instanceMethod yX2_leastBytes, Cond.selects RX2 yX2_leastBytes yX2_leastBytes, Cond.initialized RX2, Cond.code yX2_leastBytes cX2_leastBytes 3 (some .int), Cond.fieldLink RX2 20 "Ringroll$Ways" "leastByDeltas" "[[I", Cond.fieldLink RX2 23 "Ringroll$Ways" "leastByImage" "[I", Cond.methodLink RX2 35 Lib.Math.min.name, Cond.static Lib.Math.min.name, Cond.initialized "java/lang/Math"]
def wsL_pass_r4 : List Cond := [Cond.code Lib.Math.min.name Lib.Math.min.code 2 (some .int), Cond.methodLink RX2 41 yX2_orNone, Cond.static yX2_orNone, Cond.code yX2_orNone cX2_orNone 1 (some .int), Cond.constant RX2 49 (1000000), Cond.methodLink RX3 202 yX1_take, Cond.instanceMethod yX1_take, Cond.selects RX1 yX1_take yX1_take, Cond.initialized RX1, Cond.code yX1_take cX1_take 3 none, Cond.fieldLink RX1 27 "Ringroll$Device" "state" "I", Cond.fieldLink RX1 39 "Ringroll$Campaign" "number" "I", Cond.fieldLink RX1 30 "Ringroll$Device" "campaign" "I", Cond.fieldLink RX1 33 "Ringroll$Device" "bytesToGo" "I", Cond.methodLink RX3 195 yX1_canLoad, Cond.instanceMethod yX1_canLoad, Cond.selects RX1 yX1_canLoad yX1_canLoad, Cond.code yX1_canLoad cX1_canLoad 2 (some .boolean), Cond.fieldLink RX1 18 "Ringroll$Device" "battery" "I", Cond.methodLink RX1 42 yX1_isInWindow, Cond.instanceMethod yX1_isInWindow, Cond.selects RX1 yX1_isInWindow yX1_isInWindow, Cond.code yX1_isInWindow cX1_isInWindow 2 (some .boolean), Cond.fieldLink RX1 21 "Ringroll$Device" "firstHour" "I"]
def wsL_pass_r5 : List Cond := [Cond.fieldLink RX1 24 "Ringroll$Device" "lastHour" "I", Cond.methodLink RX3 199 yX1_load, Cond.instanceMethod yX1_load, Cond.selects RX1 yX1_load yX1_load, Cond.code yX1_load cX1_load 1 none, Cond.methodLink RX1 46 Lib.Math.max.name, Cond.static Lib.Math.max.name, Cond.code Lib.Math.max.name Lib.Math.max.code 2 (some .int)]
def wsL_pass : List Cond := .codeWith yL_pass cL_pass 4 (some .int) [(0, 9, 12, 15)] :: ((wsL_pass_r1 ++ (wsL_pass_r2 ++ (wsL_pass_r3 ++ (wsL_pass_r4 ++ wsL_pass_r5)))) ++ wsX30 ++ wsX10 ++ wsX00 ++ wsX20 ++ (vx_atS RX3 70 "java/lang/IllegalArgumentException" ["java/lang/RuntimeException", "java/lang/Exception"]).filter goodWord)
def wsL_law0_r1 : List Cond := [Cond.classLink RL 8 RX3, Cond.instantiable RX3 7, Cond.initialized RX3, Cond.classLink RL 90 RX4, Cond.instantiable RX4 27, Cond.initialized RX4, Cond.arrayClass .long, Cond.methodLink RL 89 yX3_init, Cond.instanceMethod yX3_init, Cond.code yX3_init cX3_init 2 none, Cond.methodLink RX3 1 objectInit, Cond.instanceMethod objectInit, Cond.code objectInit ⟨#[0xb1]⟩ 1 none, Cond.arrayClass .int, Cond.fieldLink RX3 9 "Ringroll" "kindsOfVersion" "[I", Cond.classLink RX3 13 RX2, Cond.instantiable RX2 4, Cond.initialized RX2, Cond.fieldLink RX3 16 "Ringroll" "ways" "LRingroll$Ways;", Cond.classLink RX3 20 RX1, Cond.fieldLink RX3 22 "Ringroll" "fleet" "[LRingroll$Device;", Cond.classLink RX3 26 RX0, Cond.fieldLink RX3 28 "Ringroll" "campaigns" "[LRingroll$Campaign;", Cond.fieldLink RX3 32 "Ringroll" "deviceCount" "I"]
def wsL_law0_r2 : List Cond := [Cond.fieldLink RX3 36 "Ringroll" "campaignCount" "I", Cond.fieldLink RX3 39 "Ringroll" "hourOfDay" "I", Cond.instantiable RX1 9, Cond.initialized RX1, Cond.instantiable RX0 13, Cond.initialized RX0, Cond.methodLink RX3 15 yX2_init, Cond.instanceMethod yX2_init, Cond.code yX2_init cX2_init 2 none, Cond.methodLink RX2 3 objectInit, Cond.fieldLink RX2 9 "Ringroll$Ways" "images" "[I", Cond.classLink RX2 15 "[[I", Cond.fieldLink RX2 17 "Ringroll$Ways" "deltas" "[[I", Cond.fieldLink RX2 20 "Ringroll$Ways" "leastByDeltas" "[[I", Cond.fieldLink RX2 23 "Ringroll$Ways" "leastByImage" "[I", Cond.methodLink RX2 26 yJ7_fill_53178, Cond.static yJ7_fill_53178, Cond.initialized RJ7, Cond.code yJ7_fill_53178 cJ7_fill_53178 4 none, Cond.methodLink RX2 32 yX2_measure, Cond.instanceMethod yX2_measure, Cond.selects RX2 yX2_measure yX2_measure, Cond.code yX2_measure cX2_measure 3 none, Cond.constant RX2 49 (1000000)]
def wsL_law0_r3 : List Cond := [Cond.methodLink RX2 35 Lib.Math.min.name, Cond.static Lib.Math.min.name, Cond.initialized "java/lang/Math", Cond.code Lib.Math.min.name Lib.Math.min.code 2 (some .int), Cond.methodLink RX2 54 yX2_orFar, Cond.static yX2_orFar, Cond.code yX2_orFar cX2_orFar 1 (some .int), Cond.methodLink RX2 57 yX2_measureVia, Cond.instanceMethod yX2_measureVia, Cond.selects RX2 yX2_measureVia yX2_measureVia, Cond.code yX2_measureVia cX2_measureVia 5 none, Cond.methodLink RX3 42 yJ7_fill_53178, Cond.methodLink RX3 48 yX1_init, Cond.instanceMethod yX1_init, Cond.code yX1_init cX1_init 2 none, Cond.methodLink RX1 3 objectInit, Cond.fieldLink RX1 9 "Ringroll$Device" "kind" "I", Cond.fieldLink RX1 15 "Ringroll$Device" "version" "I", Cond.fieldLink RX1 18 "Ringroll$Device" "battery" "I", Cond.fieldLink RX1 21 "Ringroll$Device" "firstHour" "I", Cond.fieldLink RX1 24 "Ringroll$Device" "lastHour" "I", Cond.fieldLink RX1 27 "Ringroll$Device" "state" "I", Cond.fieldLink RX1 30 "Ringroll$Device" "campaign" "I", Cond.fieldLink RX1 33 "Ringroll$Device" "bytesToGo" "I"]
def wsL_law0_r4 : List Cond := [Cond.fieldLink RX1 36 "Ringroll$Device" "number" "I", Cond.methodLink RX3 51 yX0_init, Cond.instanceMethod yX0_init, Cond.code yX0_init cX0_init 2 none, Cond.methodLink RX0 3 objectInit, Cond.fieldLink RX0 9 "Ringroll$Campaign" "target" "I", Cond.fieldLink RX0 15 "Ringroll$Campaign" "kinds" "I", Cond.fieldLink RX0 18 "Ringroll$Campaign" "versions" "I", Cond.fieldLink RX0 21 "Ringroll$Campaign" "firstShare" "I", Cond.fieldLink RX0 24 "Ringroll$Campaign" "secondShare" "I", Cond.fieldLink RX0 27 "Ringroll$Campaign" "needs" "I", Cond.fieldLink RX0 30 "Ringroll$Campaign" "thousandths" "I", Cond.fieldLink RX0 33 "Ringroll$Campaign" "isActive" "Z", Cond.fieldLink RX0 37 "Ringroll$Campaign" "ring" "I", Cond.fieldLink RX0 40 "Ringroll$Campaign" "reports" "I", Cond.fieldLink RX0 43 "Ringroll$Campaign" "failures" "I", Cond.fieldLink RX0 46 "Ringroll$Campaign" "reporters" "I", Cond.fieldLink RX0 49 "Ringroll$Campaign" "number" "I", Cond.methodLink RL 92 yX4_init, Cond.instanceMethod yX4_init, Cond.code yX4_init cX4_init 2 none, Cond.methodLink RX4 1 objectInit, Cond.fieldLink RX4 7 "RingrollModel" "allowed" "[I", Cond.fieldLink RX4 13 "RingrollModel" "images" "[I"]
def wsL_law0_r5 : List Cond := [Cond.fieldLink RX4 16 "RingrollModel" "deltas" "[I", Cond.fieldLink RX4 19 "RingrollModel" "reached" "[I", Cond.fieldLink RX4 22 "RingrollModel" "kinds" "[I", Cond.fieldLink RX4 25 "RingrollModel" "versions" "[I", Cond.fieldLink RX4 28 "RingrollModel" "batteries" "[I", Cond.fieldLink RX4 31 "RingrollModel" "froms" "[I", Cond.fieldLink RX4 34 "RingrollModel" "tos" "[I", Cond.fieldLink RX4 37 "RingrollModel" "states" "[I", Cond.fieldLink RX4 40 "RingrollModel" "taken" "[I", Cond.fieldLink RX4 43 "RingrollModel" "left" "[I", Cond.fieldLink RX4 46 "RingrollModel" "targets" "[I", Cond.fieldLink RX4 49 "RingrollModel" "forKinds" "[I", Cond.fieldLink RX4 52 "RingrollModel" "forVersions" "[I", Cond.arrayClass .boolean, Cond.fieldLink RX4 55 "RingrollModel" "isActive" "[Z", Cond.fieldLink RX4 59 "RingrollModel" "rings" "[I", Cond.fieldLink RX4 62 "RingrollModel" "shares" "[I", Cond.fieldLink RX4 65 "RingrollModel" "needs" "[I", Cond.fieldLink RX4 68 "RingrollModel" "bears" "[I", Cond.fieldLink RX4 71 "RingrollModel" "reports" "[I", Cond.fieldLink RX4 74 "RingrollModel" "failures" "[I", Cond.fieldLink RX4 77 "RingrollModel" "reporters" "[I", Cond.methodLink RL 93 yL_allow, Cond.static yL_allow]
def wsL_law0_r6 : List Cond := [Cond.initialized RL, Cond.codeWith yL_allow cL_allow 5 (some .int) [(0, 10, 13, 13), (0, 10, 17, 15)], Cond.classLink RL 13 "java/lang/IndexOutOfBoundsException", Cond.classLink RL 15 "java/lang/IllegalArgumentException", Cond.methodLink RL 7 yX3_allow, Cond.instanceMethod yX3_allow, Cond.selects RX3 yX3_allow yX3_allow, Cond.code yX3_allow cX3_allow 4 (some .int), Cond.methodLink RX3 52 yX3_needVersion, Cond.static yX3_needVersion, Cond.code yX3_needVersion cX3_needVersion 1 none, Cond.classLink RX3 83 "java/lang/IndexOutOfBoundsException", Cond.initialized "java/lang/IndexOutOfBoundsException", Cond.methodLink RX3 55 yX3_needRange, Cond.static yX3_needRange, Cond.code yX3_needRange cX3_needRange 3 none, Cond.classLink RX3 66 "java/lang/IllegalArgumentException", Cond.initialized "java/lang/IllegalArgumentException", Cond.methodLink RL 98 yX4_allow, Cond.instanceMethod yX4_allow, Cond.selects RX4 yX4_allow yX4_allow, Cond.code yX4_allow cX4_allow 4 (some .int), Cond.methodLink RX4 95 yX4_isVersion, Cond.static yX4_isVersion]
def wsL_law0_r7 : List Cond := [Cond.code yX4_isVersion cX4_isVersion 1 (some .boolean), Cond.methodLink RX4 84 yX4_in, Cond.static yX4_in, Cond.code yX4_in cX4_in 3 (some .boolean), Cond.methodLink RX4 99 yX4_refused, Cond.instanceMethod yX4_refused, Cond.selects RX4 yX4_refused yX4_refused, Cond.code yX4_refused cX4_refused 2 (some .boolean), Cond.fieldLink RX4 80 "RingrollModel" "refusal" "I", Cond.methodLink RL 99 yX4_thrown, Cond.instanceMethod yX4_thrown, Cond.selects RX4 yX4_thrown yX4_thrown, Cond.code yX4_thrown cX4_thrown 1 (some .int), Cond.methodLink RL 103 yL_setImage, Cond.static yL_setImage, Cond.codeWith yL_setImage cL_setImage 5 (some .int) [(0, 10, 13, 13), (0, 10, 17, 15)], Cond.methodLink RL 17 yX3_setImage, Cond.instanceMethod yX3_setImage, Cond.selects RX3 yX3_setImage yX3_setImage, Cond.code yX3_setImage cX3_setImage 3 (some .int), Cond.methodLink RX3 59 yX3_needBytesOrNone, Cond.static yX3_needBytesOrNone, Cond.code yX3_needBytesOrNone cX3_needBytesOrNone 1 none, Cond.constant RX3 216 (100000)]
def wsL_law0_r8 : List Cond := [Cond.methodLink RX3 62 yX2_changeImage, Cond.instanceMethod yX2_changeImage, Cond.selects RX2 yX2_changeImage yX2_changeImage, Cond.code yX2_changeImage cX2_changeImage 4 (some .int), Cond.methodLink RL 105 yX4_setImage, Cond.instanceMethod yX4_setImage, Cond.selects RX4 yX4_setImage yX4_setImage, Cond.code yX4_setImage cX4_setImage 4 (some .int), Cond.methodLink RX4 102 yX4_isSize, Cond.static yX4_isSize, Cond.code yX4_isSize cX4_isSize 1 (some .boolean), Cond.constant RX4 88 (100000), Cond.methodLink RL 106 yL_setDelta, Cond.static yL_setDelta, Cond.codeWith yL_setDelta cL_setDelta 6 (some .int) [(0, 12, 15, 13), (0, 12, 19, 15)], Cond.methodLink RL 20 yX3_setDelta, Cond.instanceMethod yX3_setDelta, Cond.selects RX3 yX3_setDelta yX3_setDelta, Cond.code yX3_setDelta cX3_setDelta 4 (some .int), Cond.methodLink RX3 73 yX2_changeDelta, Cond.instanceMethod yX2_changeDelta, Cond.selects RX2 yX2_changeDelta yX2_changeDelta, Cond.code yX2_changeDelta cX2_changeDelta 5 (some .int), Cond.methodLink RL 109 yX4_setDelta]
def wsL_law0_r9 : List Cond := [Cond.instanceMethod yX4_setDelta, Cond.selects RX4 yX4_setDelta yX4_setDelta, Cond.code yX4_setDelta cX4_setDelta 6 (some .int), Cond.methodLink RL 110 yL_size, Cond.static yL_size, Cond.codeWith yL_size cL_size 5 (some .int) [(0, 10, 13, 13)], Cond.methodLink RL 24 yX3_size, Cond.instanceMethod yX3_size, Cond.selects RX3 yX3_size yX3_size, Cond.code yX3_size cX3_size 3 (some .int), Cond.methodLink RX3 77 yX2_leastBytes, Cond.instanceMethod yX2_leastBytes, Cond.selects RX2 yX2_leastBytes yX2_leastBytes, Cond.code yX2_leastBytes cX2_leastBytes 3 (some .int), Cond.methodLink RX2 41 yX2_orNone, Cond.static yX2_orNone, Cond.code yX2_orNone cX2_orNone 1 (some .int), Cond.methodLink RL 112 yX4_size, Cond.instanceMethod yX4_size, Cond.selects RX4 yX4_size yX4_size, Cond.code yX4_size cX4_size 3 (some .int), Cond.methodLink RX4 106 yX4_sizeOf, Cond.instanceMethod yX4_sizeOf, Cond.selects RX4 yX4_sizeOf yX4_sizeOf]
def wsL_law0_r10 : List Cond := [Cond.code yX4_sizeOf cX4_sizeOf 5 (some .int), Cond.constant RX4 105 (100000000), Cond.methodLink RL 113 yL_sizeByWays, Cond.static yL_sizeByWays, Cond.codeWith yL_sizeByWays cL_sizeByWays 5 (some .int) [(0, 10, 13, 13)], Cond.methodLink RL 27 yX3_sizeByWays, Cond.instanceMethod yX3_sizeByWays, Cond.selects RX3 yX3_sizeByWays yX3_sizeByWays, Cond.code yX3_sizeByWays cX3_sizeByWays 3 (some .int), Cond.methodLink RX3 80 yX2_leastBytesOfAllWays, Cond.instanceMethod yX2_leastBytesOfAllWays, Cond.selects RX2 yX2_leastBytesOfAllWays yX2_leastBytesOfAllWays, Cond.code yX2_leastBytesOfAllWays cX2_leastBytesOfAllWays 5 (some .int), Cond.methodLink RX2 45 yX2_leastAlong, Cond.static yX2_leastAlong, Cond.code yX2_leastAlong cX2_leastAlong 8 (some .int), Cond.static yX3_has, Cond.code yX3_has cX3_has 2 (some .boolean), Cond.methodLink RL 115 yX4_sizeByWays, Cond.instanceMethod yX4_sizeByWays, Cond.selects RX4 yX4_sizeByWays yX4_sizeByWays, Cond.code yX4_sizeByWays cX4_sizeByWays 3 (some .int), Cond.methodLink RX4 110 yX4_size, Cond.methodLink RL 116 yL_addDevice]
def wsL_law0_r11 : List Cond := [Cond.static yL_addDevice, Cond.codeWith yL_addDevice cL_addDevice 5 (some .int) [(0, 10, 13, 13), (0, 10, 17, 33)], Cond.classLink RL 33 "java/lang/IllegalStateException", Cond.methodLink RL 30 yX3_addDevice, Cond.instanceMethod yX3_addDevice, Cond.selects RX3 yX3_addDevice yX3_addDevice, Cond.code yX3_addDevice cX3_addDevice 4 (some .int), Cond.classLink RX3 88 "java/lang/IllegalStateException", Cond.initialized "java/lang/IllegalStateException", Cond.fieldLink RX3 99 "Ringroll$Device" "kind" "I", Cond.fieldLink RX3 102 "Ringroll$Device" "version" "I", Cond.fieldLink RX3 105 "Ringroll$Device" "number" "I", Cond.methodLink RX3 93 yX3_has, Cond.methodLink RL 118 yX4_addDevice, Cond.instanceMethod yX4_addDevice, Cond.selects RX4 yX4_addDevice yX4_addDevice, Cond.code yX4_addDevice cX4_addDevice 5 (some .int), Cond.fieldLink RX4 89 "RingrollModel" "devices" "I", Cond.methodLink RL 119 yL_charge, Cond.static yL_charge, Cond.codeWith yL_charge cL_charge 5 (some .int) [(0, 10, 13, 13), (0, 10, 17, 15)], Cond.methodLink RL 35 yX3_charge, Cond.instanceMethod yX3_charge, Cond.selects RX3 yX3_charge yX3_charge]
def wsL_law0_r12 : List Cond := [Cond.code yX3_charge cX3_charge 5 (some .int), Cond.fieldLink RX3 112 "Ringroll$Device" "battery" "I", Cond.methodLink RX3 108 yX3_deviceAt, Cond.instanceMethod yX3_deviceAt, Cond.selects RX3 yX3_deviceAt yX3_deviceAt, Cond.code yX3_deviceAt cX3_deviceAt 2 (some (.object "Ringroll$Device")), Cond.methodLink RL 121 yX4_charge, Cond.instanceMethod yX4_charge, Cond.selects RX4 yX4_charge yX4_charge, Cond.code yX4_charge cX4_charge 4 (some .int), Cond.methodLink RX4 113 yX4_isDevice, Cond.instanceMethod yX4_isDevice, Cond.selects RX4 yX4_isDevice yX4_isDevice, Cond.code yX4_isDevice cX4_isDevice 2 (some .boolean), Cond.methodLink RL 122 yL_setWindow, Cond.static yL_setWindow, Cond.codeWith yL_setWindow cL_setWindow 5 (some .int) [(0, 7, 10, 13), (0, 7, 14, 15)], Cond.methodLink RL 38 yX3_setWindow, Cond.instanceMethod yX3_setWindow, Cond.selects RX3 yX3_setWindow yX3_setWindow, Cond.code yX3_setWindow cX3_setWindow 5 none, Cond.fieldLink RX3 115 "Ringroll$Device" "firstHour" "I", Cond.fieldLink RX3 118 "Ringroll$Device" "lastHour" "I", Cond.methodLink RL 125 yX4_setWindow]
def wsL_law0_r13 : List Cond := [Cond.instanceMethod yX4_setWindow, Cond.selects RX4 yX4_setWindow yX4_setWindow, Cond.code yX4_setWindow cX4_setWindow 4 none, Cond.methodLink RL 126 yL_report, Cond.static yL_report, Cond.codeWith yL_report cL_report 5 (some .int) [(0, 10, 13, 13), (0, 10, 17, 33)], Cond.methodLink RL 42 yX3_report, Cond.instanceMethod yX3_report, Cond.selects RX3 yX3_report yX3_report, Cond.code yX3_report cX3_report 5 (some .int), Cond.fieldLink RX3 121 "Ringroll$Device" "state" "I", Cond.fieldLink RX3 126 "Ringroll$Device" "campaign" "I", Cond.fieldLink RX3 133 "Ringroll$Campaign" "target" "I", Cond.methodLink RX3 129 yX3_campaignAt, Cond.instanceMethod yX3_campaignAt, Cond.selects RX3 yX3_campaignAt yX3_campaignAt, Cond.code yX3_campaignAt cX3_campaignAt 2 (some (.object "Ringroll$Campaign")), Cond.methodLink RX3 146 yX3_needCampaign, Cond.instanceMethod yX3_needCampaign, Cond.selects RX3 yX3_needCampaign yX3_needCampaign, Cond.code yX3_needCampaign cX3_needCampaign 2 none, Cond.methodLink RX3 136 yX0_countReport, Cond.instanceMethod yX0_countReport, Cond.selects RX0 yX0_countReport yX0_countReport]
def wsL_law0_r14 : List Cond := [Cond.code yX0_countReport cX0_countReport 3 none, Cond.fieldLink RX0 72 "Ringroll$Device" "number" "I", Cond.methodLink RX3 140 yX0_judgeRing, Cond.instanceMethod yX0_judgeRing, Cond.selects RX0 yX0_judgeRing yX0_judgeRing, Cond.code yX0_judgeRing cX0_judgeRing 1 none, Cond.methodLink RX0 73 yX0_beginRing, Cond.instanceMethod yX0_beginRing, Cond.selects RX0 yX0_beginRing yX0_beginRing, Cond.code yX0_beginRing cX0_beginRing 2 none, Cond.methodLink RL 129 yX4_report, Cond.instanceMethod yX4_report, Cond.selects RX4 yX4_report yX4_report, Cond.code yX4_report cX4_report 4 (some .int), Cond.methodLink RX4 116 yX4_judge, Cond.instanceMethod yX4_judge, Cond.selects RX4 yX4_judge yX4_judge, Cond.code yX4_judge cX4_judge 2 none, Cond.methodLink RL 130 yX3_devices, Cond.instanceMethod yX3_devices, Cond.selects RX3 yX3_devices yX3_devices, Cond.code yX3_devices cX3_devices 1 (some .int), Cond.methodLink RL 133 yX4_devices, Cond.instanceMethod yX4_devices]
def wsL_law0_r15 : List Cond := [Cond.selects RX4 yX4_devices yX4_devices, Cond.code yX4_devices cX4_devices 1 (some .int), Cond.methodLink RX4 120 yX4_fine, Cond.instanceMethod yX4_fine, Cond.selects RX4 yX4_fine yX4_fine, Cond.code yX4_fine cX4_fine 2 (some .int), Cond.methodLink RL 134 yL_state, Cond.static yL_state, Cond.codeWith yL_state cL_state 4 (some .int) [(0, 9, 12, 13)], Cond.methodLink RL 46 yX3_state, Cond.instanceMethod yX3_state, Cond.selects RX3 yX3_state yX3_state, Cond.code yX3_state cX3_state 2 (some .int), Cond.methodLink RL 137 yX4_state, Cond.instanceMethod yX4_state, Cond.selects RX4 yX4_state yX4_state, Cond.code yX4_state cX4_state 2 (some .int), Cond.methodLink RX4 124 yX4_noDevice, Cond.instanceMethod yX4_noDevice, Cond.selects RX4 yX4_noDevice yX4_noDevice, Cond.code yX4_noDevice cX4_noDevice 2 (some .boolean), Cond.methodLink RL 138 yL_version, Cond.static yL_version, Cond.codeWith yL_version cL_version 4 (some .int) [(0, 9, 12, 13)]]
def wsL_law0_r16 : List Cond := [Cond.methodLink RL 50 yX3_version, Cond.instanceMethod yX3_version, Cond.selects RX3 yX3_version yX3_version, Cond.code yX3_version cX3_version 2 (some .int), Cond.methodLink RL 140 yX4_version, Cond.instanceMethod yX4_version, Cond.selects RX4 yX4_version yX4_version, Cond.code yX4_version cX4_version 2 (some .int), Cond.methodLink RL 141 yL_campaignOf, Cond.static yL_campaignOf, Cond.codeWith yL_campaignOf cL_campaignOf 4 (some .int) [(0, 9, 12, 13)], Cond.methodLink RL 53 yX3_campaignOf, Cond.instanceMethod yX3_campaignOf, Cond.selects RX3 yX3_campaignOf yX3_campaignOf, Cond.code yX3_campaignOf cX3_campaignOf 2 (some .int), Cond.methodLink RL 143 yX4_campaignOf, Cond.instanceMethod yX4_campaignOf, Cond.selects RX4 yX4_campaignOf yX4_campaignOf, Cond.code yX4_campaignOf cX4_campaignOf 2 (some .int), Cond.methodLink RL 144 yL_toGo, Cond.static yL_toGo, Cond.codeWith yL_toGo cL_toGo 4 (some .int) [(0, 9, 12, 13)], Cond.methodLink RL 56 yX3_toGo, Cond.instanceMethod yX3_toGo]
def wsL_law0_r17 : List Cond := [Cond.selects RX3 yX3_toGo yX3_toGo, Cond.code yX3_toGo cX3_toGo 2 (some .int), Cond.fieldLink RX3 143 "Ringroll$Device" "bytesToGo" "I", Cond.methodLink RL 146 yX4_toGo, Cond.instanceMethod yX4_toGo, Cond.selects RX4 yX4_toGo yX4_toGo, Cond.code yX4_toGo cX4_toGo 2 (some .int), Cond.methodLink RL 147 yL_battery, Cond.static yL_battery, Cond.codeWith yL_battery cL_battery 4 (some .int) [(0, 9, 12, 13)], Cond.methodLink RL 59 yX3_battery, Cond.instanceMethod yX3_battery, Cond.selects RX3 yX3_battery yX3_battery, Cond.code yX3_battery cX3_battery 2 (some .int), Cond.methodLink RL 149 yX4_battery, Cond.instanceMethod yX4_battery, Cond.selects RX4 yX4_battery yX4_battery, Cond.code yX4_battery cX4_battery 2 (some .int), Cond.methodLink RL 150 yL_begin, Cond.static yL_begin, Cond.codeWith yL_begin cL_begin 7 (some .int) [(0, 14, 17, 13), (0, 14, 21, 15), (0, 14, 25, 33)], Cond.methodLink RL 62 yX3_begin, Cond.instanceMethod yX3_begin, Cond.selects RX3 yX3_begin yX3_begin]
def wsL_law0_r18 : List Cond := [Cond.code yX3_begin cX3_begin 6 (some .int), Cond.fieldLink RX3 151 "Ringroll$Campaign" "isActive" "Z", Cond.fieldLink RX3 155 "Ringroll$Campaign" "kinds" "I", Cond.fieldLink RX3 158 "Ringroll$Campaign" "versions" "I", Cond.fieldLink RX3 161 "Ringroll$Campaign" "number" "I", Cond.methodLink RL 153 yX4_begin, Cond.instanceMethod yX4_begin, Cond.selects RX4 yX4_begin yX4_begin, Cond.code yX4_begin cX4_begin 7 (some .int), Cond.fieldLink RX4 92 "RingrollModel" "campaigns" "I", Cond.methodLink RX4 127 yX4_isCampaign, Cond.instanceMethod yX4_isCampaign, Cond.selects RX4 yX4_isCampaign yX4_isCampaign, Cond.code yX4_isCampaign cX4_isCampaign 2 (some .boolean), Cond.methodLink RL 154 yL_setRules, Cond.static yL_setRules, Cond.codeWith yL_setRules cL_setRules 7 (some .int) [(0, 11, 14, 13), (0, 11, 18, 15)], Cond.methodLink RL 66 yX3_setRules, Cond.instanceMethod yX3_setRules, Cond.selects RX3 yX3_setRules yX3_setRules, Cond.code yX3_setRules cX3_setRules 7 none, Cond.fieldLink RX3 162 "Ringroll$Campaign" "firstShare" "I", Cond.fieldLink RX3 165 "Ringroll$Campaign" "secondShare" "I", Cond.fieldLink RX3 168 "Ringroll$Campaign" "needs" "I"]
def wsL_law0_r19 : List Cond := [Cond.fieldLink RX3 171 "Ringroll$Campaign" "thousandths" "I", Cond.methodLink RL 157 yX4_setRules, Cond.instanceMethod yX4_setRules, Cond.selects RX4 yX4_setRules yX4_setRules, Cond.code yX4_setRules cX4_setRules 7 none, Cond.methodLink RL 158 yL_toggle, Cond.static yL_toggle, Cond.codeWith yL_toggle cL_toggle 4 (some .int) [(0, 16, 19, 13)], Cond.methodLink RL 70 yX3_toggle, Cond.instanceMethod yX3_toggle, Cond.selects RX3 yX3_toggle yX3_toggle, Cond.code yX3_toggle cX3_toggle 3 (some .boolean), Cond.fieldLink RX3 174 "Ringroll$Campaign" "ring" "I", Cond.methodLink RX3 177 yX0_beginRing, Cond.methodLink RL 160 yX4_toggle, Cond.instanceMethod yX4_toggle, Cond.selects RX4 yX4_toggle yX4_toggle, Cond.code yX4_toggle cX4_toggle 2 (some .boolean), Cond.methodLink RX4 130 yX4_noCampaign, Cond.instanceMethod yX4_noCampaign, Cond.selects RX4 yX4_noCampaign yX4_noCampaign, Cond.code yX4_noCampaign cX4_noCampaign 2 (some .boolean), Cond.methodLink RL 161 yL_isActive, Cond.static yL_isActive]
def wsL_law0_r20 : List Cond := [Cond.codeWith yL_isActive cL_isActive 4 (some .int) [(0, 16, 19, 13)], Cond.methodLink RL 74 yX3_isActive, Cond.instanceMethod yX3_isActive, Cond.selects RX3 yX3_isActive yX3_isActive, Cond.code yX3_isActive cX3_isActive 2 (some .boolean), Cond.methodLink RL 163 yX4_isActive, Cond.instanceMethod yX4_isActive, Cond.selects RX4 yX4_isActive yX4_isActive, Cond.code yX4_isActive cX4_isActive 2 (some .boolean), Cond.methodLink RL 164 yL_ring, Cond.static yL_ring, Cond.codeWith yL_ring cL_ring 4 (some .int) [(0, 9, 12, 13)], Cond.methodLink RL 77 yX3_ring, Cond.instanceMethod yX3_ring, Cond.selects RX3 yX3_ring yX3_ring, Cond.code yX3_ring cX3_ring 2 (some .int), Cond.methodLink RL 166 yX4_ring, Cond.instanceMethod yX4_ring, Cond.selects RX4 yX4_ring yX4_ring, Cond.code yX4_ring cX4_ring 2 (some .int), Cond.methodLink RL 167 yL_reports, Cond.static yL_reports, Cond.codeWith yL_reports cL_reports 4 (some .int) [(0, 9, 12, 13)], Cond.methodLink RL 80 yX3_reports]
def wsL_law0_r21 : List Cond := [Cond.instanceMethod yX3_reports, Cond.selects RX3 yX3_reports yX3_reports, Cond.code yX3_reports cX3_reports 2 (some .int), Cond.fieldLink RX3 180 "Ringroll$Campaign" "reports" "I", Cond.methodLink RL 169 yX4_reports, Cond.instanceMethod yX4_reports, Cond.selects RX4 yX4_reports yX4_reports, Cond.code yX4_reports cX4_reports 2 (some .int), Cond.methodLink RL 170 yL_eligible, Cond.static yL_eligible, Cond.codeWith yL_eligible cL_eligible 4 (some .int) [(0, 9, 12, 13)], Cond.methodLink RL 83 yX3_eligible, Cond.instanceMethod yX3_eligible, Cond.selects RX3 yX3_eligible yX3_eligible, Cond.code yX3_eligible cX3_eligible 5 (some .int), Cond.methodLink RX3 183 yX3_mayTake, Cond.instanceMethod yX3_mayTake, Cond.selects RX3 yX3_mayTake yX3_mayTake, Cond.code yX3_mayTake cX3_mayTake 3 (some .boolean), Cond.methodLink RX3 206 yX0_isFor, Cond.instanceMethod yX0_isFor, Cond.selects RX0 yX0_isFor yX0_isFor, Cond.code yX0_isFor cX0_isFor 2 (some .boolean), Cond.fieldLink RX0 52 "Ringroll$Device" "kind" "I"]
def wsL_law0_r22 : List Cond := [Cond.fieldLink RX0 61 "Ringroll$Device" "version" "I", Cond.methodLink RX0 64 yX0_drawOf, Cond.instanceMethod yX0_drawOf, Cond.selects RX0 yX0_drawOf yX0_drawOf, Cond.code yX0_drawOf cX0_drawOf 2 (some .int), Cond.methodLink RX0 68 yX0_share, Cond.instanceMethod yX0_share, Cond.selects RX0 yX0_share yX0_share, Cond.code yX0_share cX0_share 1 (some .int), Cond.methodLink RL 172 yX4_eligible, Cond.instanceMethod yX4_eligible, Cond.selects RX4 yX4_eligible yX4_eligible, Cond.code yX4_eligible cX4_eligible 4 (some .int), Cond.methodLink RX4 133 yX4_mayTake, Cond.instanceMethod yX4_mayTake, Cond.selects RX4 yX4_mayTake yX4_mayTake, Cond.code yX4_mayTake cX4_mayTake 8 (some .boolean), Cond.methodLink RL 173 yL_pass, Cond.static yL_pass, Cond.codeWith yL_pass cL_pass 4 (some .int) [(0, 9, 12, 15)], Cond.methodLink RL 86 yX3_pass, Cond.instanceMethod yX3_pass, Cond.selects RX3 yX3_pass yX3_pass, Cond.code yX3_pass cX3_pass 4 (some .int)]
def wsL_law0_r23 : List Cond := [Cond.methodLink RX3 187 yX3_passOneHour, Cond.instanceMethod yX3_passOneHour, Cond.selects RX3 yX3_passOneHour yX3_passOneHour, Cond.code yX3_passOneHour cX3_passOneHour 4 (some .int), Cond.methodLink RX3 191 yX3_takeLowestCampaign, Cond.instanceMethod yX3_takeLowestCampaign, Cond.selects RX3 yX3_takeLowestCampaign yX3_takeLowestCampaign, Cond.code yX3_takeLowestCampaign cX3_takeLowestCampaign 4 none, Cond.methodLink RX3 202 yX1_take, Cond.instanceMethod yX1_take, Cond.selects RX1 yX1_take yX1_take, Cond.code yX1_take cX1_take 3 none, Cond.fieldLink RX1 39 "Ringroll$Campaign" "number" "I", Cond.methodLink RX3 195 yX1_canLoad, Cond.instanceMethod yX1_canLoad, Cond.selects RX1 yX1_canLoad yX1_canLoad, Cond.code yX1_canLoad cX1_canLoad 2 (some .boolean), Cond.methodLink RX1 42 yX1_isInWindow, Cond.instanceMethod yX1_isInWindow, Cond.selects RX1 yX1_isInWindow yX1_isInWindow, Cond.code yX1_isInWindow cX1_isInWindow 2 (some .boolean), Cond.methodLink RX3 199 yX1_load, Cond.instanceMethod yX1_load, Cond.selects RX1 yX1_load yX1_load]
def wsL_law0_r24 : List Cond := [Cond.code yX1_load cX1_load 1 none, Cond.methodLink RX1 46 Lib.Math.max.name, Cond.static Lib.Math.max.name, Cond.code Lib.Math.max.name Lib.Math.max.code 2 (some .int), Cond.methodLink RL 175 yX4_pass, Cond.instanceMethod yX4_pass, Cond.selects RX4 yX4_pass yX4_pass, Cond.code yX4_pass cX4_pass 5 (some .int), Cond.fieldLink RX4 137 "RingrollModel" "clock" "I", Cond.methodLink RX4 140 yX4_take, Cond.instanceMethod yX4_take, Cond.selects RX4 yX4_take yX4_take, Cond.code yX4_take cX4_take 3 none, Cond.methodLink RX4 143 yX4_isOpen, Cond.instanceMethod yX4_isOpen, Cond.selects RX4 yX4_isOpen yX4_isOpen, Cond.code yX4_isOpen cX4_isOpen 5 (some .boolean)]
def wsL_law0 : List Cond := (wsL_law0_r1 ++ (wsL_law0_r2 ++ (wsL_law0_r3 ++ (wsL_law0_r4 ++ (wsL_law0_r5 ++ (wsL_law0_r6 ++ (wsL_law0_r7 ++ (wsL_law0_r8 ++ (wsL_law0_r9 ++ (wsL_law0_r10 ++ (wsL_law0_r11 ++ (wsL_law0_r12 ++ (wsL_law0_r13 ++ (wsL_law0_r14 ++ (wsL_law0_r15 ++ (wsL_law0_r16 ++ (wsL_law0_r17 ++ (wsL_law0_r18 ++ (wsL_law0_r19 ++ (wsL_law0_r20 ++ (wsL_law0_r21 ++ (wsL_law0_r22 ++ (wsL_law0_r23 ++ wsL_law0_r24))))))))))))))))))))))) ++ wsX30 ++ wsX40 ++ wsX20 ++ wsX10 ++ wsX00 ++ ([] : List Cond)
def wsL_law : List Cond := wsL_law0 ++ (vx_atS RX3 87 "java/lang/IndexOutOfBoundsException" ["java/lang/RuntimeException", "java/lang/Exception"]).filter goodWord ++ (vx_atS RX3 70 "java/lang/IllegalArgumentException" ["java/lang/RuntimeException", "java/lang/Exception"]).filter goodWord ++ (vx_atS RX3 92 "java/lang/IllegalStateException" ["java/lang/RuntimeException", "java/lang/Exception"]).filter goodWord
abbrev vwCl : List vw_C := [(RX0, TX0, 13), (RX1, TX1, 9), (RX2, TX2, 4), (RX3, TX3, 7), (RX4, TX4, 27)]
end
section
/-! ===== BEGIN kernel: the packed goal xA (heap, written places, locals are bound inside), one row an instruction ===== -/
/-- contents of the cells, by cell and place -/
abbrev XV : Type := Nat → Nat → Int32
def xs (V : XV) (p k : Nat) (v : Int32) : XV := fun q => if q = p then upd (V p) k v else V q
theorem xs_at (V : XV) (p k : Nat) (v : Int32) : xs V p k v p = upd (V p) k v := if_pos rfl
theorem xs_off (V : XV) {p q : Nat} (k : Nat) (v : Int32) (h : q ≠ p) : xs V p k v q = V q := if_neg h
theorem xs_eq (V : XV) (p k : Nat) (v : Int32) (q j : Nat) : xs V p k v q j = if q = p ∧ j = k then v else V q j := by
  unfold xs
  by_cases h : q = p
  · subst h
    rw [if_pos rfl]
    unfold upd
    by_cases h2 : j = k
    · rw [if_pos h2, if_pos ⟨rfl, h2⟩]
    · rw [if_neg h2, if_neg (fun z => h2 z.2)]
  · rw [if_neg h, if_neg (fun z => h z.1)]
/-- n cells at the addresses a 0 .. a (n-1) -/
def xw (n : Nat) (a : Nat → Nat) (E : Nat → va_E) : va_W := (List.range n).map (fun p => (a p, E p))
theorem xw_len (n : Nat) (a : Nat → Nat) (E : Nat → va_E) : (xw n a E).length = n := by simp [xw]
theorem xw_get {n : Nat} {a : Nat → Nat} {E : Nat → va_E} {X : va_W} {p : Nat} (h : p < n) : (xw n a E ++ X)[p]? = some (a p, E p) := by
  rw [List.getElem?_append_left (by rw [xw_len]; exact h)]
  simp [xw, h]
theorem xw_set {n : Nat} {a : Nat → Nat} {E E' : Nat → va_E} {X : va_W} {p : Nat} {e : va_E} (h : p < n) (he : E' p = e) (ho : ∀ q, q ≠ p → E' q = E q) : (xw n a E ++ X).set p (a p, e) = xw n a E' ++ X := by
  rw [List.set_append_left _ _ (by rw [xw_len]; exact h)]
  congr 1
  apply List.ext_getElem?
  intro i
  by_cases hi : i = p
  · subst hi
    simp [xw, h, he]
  · by_cases hn : i < n
    · simp [xw, hn, List.getElem?_set, Ne.symm hi, ho i hi]
    · rw [List.getElem?_eq_none (by simp [xw]; omega), List.getElem?_eq_none (by simp [xw]; omega)]
/-- locals: the first row of i counts -/
def xl : List (Nat × Value) → Nat → Option Value
  | [], _ => none
  | q :: r, i => match Nat.beq q.1 i with
    | true => some q.2
    | false => xl r i
def lvx (ls : Array Slot) (nL : Nat) (lv : List (Nat × Value)) : Prop := ls.size = nL ∧ lv_wf ls ∧ ∀ i v, xl lv i = some v → ls[i]? = some (.val v) ∧ v.category = 1
theorem xl_mem : ∀ {lv : List (Nat × Value)} {i : Nat} {v : Value}, xl lv i = some v → (i, v) ∈ lv
  | [], _, _, h => by cases h
  | q :: r, i, v, h => by
    unfold xl at h
    cases hq : Nat.beq q.1 i with
    | true =>
      rw [hq] at h
      have e := Nat.eq_of_beq_eq_true hq
      cases h
      rw [← e]
      exact List.mem_cons_self
    | false =>
      rw [hq] at h
      exact List.mem_cons_of_mem _ (xl_mem h)
theorem xl_cons_self (lv : List (Nat × Value)) (i : Nat) (v : Value) : xl ((i, v) :: lv) i = some v := by
  simp [xl]
theorem xl_cons_ne (lv : List (Nat × Value)) {i j : Nat} (v : Value) (h : i ≠ j) : xl ((i, v) :: lv) j = xl lv j := by
  have hb : Nat.beq i j = false := by
    cases hq : Nat.beq i j with
    | true => exact absurd (Nat.eq_of_beq_eq_true hq) h
    | false => rfl
  conv => lhs; unfold xl
  simp only [hb]
theorem lvx.of {ls : Array Slot} {nL : Nat} {lv : List (Nat × Value)} (h : lv_has ls nL lv) (hc : lv.all (fun q => q.2.category == 1) = true) : lvx ls nL lv := by
  refine ⟨h.1, h.2.1, fun i v hv => ?_⟩
  have hm := xl_mem hv
  refine ⟨h.2.2 (i, v) hm, ?_⟩
  have := List.all_eq_true.mp hc _ hm
  simpa using this
/-- all that is known, as a list without double rows -/
def lvl (lv : List (Nat × Value)) (nL : Nat) : List (Nat × Value) := (List.range nL).filterMap (fun j => (xl lv j).map (fun v => (j, v)))
theorem lvl_has {ls : Array Slot} {nL : Nat} {lv : List (Nat × Value)} (h : lvx ls nL lv) : lv_has ls nL (lvl lv nL) := by
  refine ⟨h.1, h.2.1, fun q hq => ?_⟩
  obtain ⟨j, -, hj⟩ := List.mem_filterMap.mp hq
  cases hx : xl lv j with
  | none => rw [hx] at hj; cases hj
  | some v =>
    rw [hx] at hj
    cases hj
    exact (h.2.2 j v hx).1
theorem lvx.put {ls ls' : Array Slot} {nL : Nat} {lv : List (Nat × Value)} {i : Nat} {v : Value} (h : lvx ls nL lv) (hv : v.category = 1) (h2 : lv_has ls' nL ((i, v) :: (lvl lv nL).filter (fun q => !(q.1 == i) && !(q.1 + 1 == i && q.2.category == 2)))) : lvx ls' nL ((i, v) :: lv) := by
  refine ⟨h2.1, h2.2.1, fun j w hj => ?_⟩
  by_cases hij : i = j
  · subst hij
    rw [xl_cons_self] at hj
    cases hj
    exact ⟨h2.2.2 (i, v) List.mem_cons_self, hv⟩
  · rw [xl_cons_ne lv v hij] at hj
    obtain ⟨q1, q2⟩ := h.2.2 j w hj
    have hjn : j < nL := by
      have := (Array.getElem?_eq_some_iff.mp q1).1
      rw [h.1] at this
      exact this
    refine ⟨h2.2.2 (j, w) (List.mem_cons_of_mem _ (List.mem_filter.mpr ⟨List.mem_filterMap.mpr ⟨j, List.mem_range.mpr hjn, by rw [hj]; rfl⟩, ?_⟩)), q2⟩
    simp [q2, Ne.symm hij]
theorem lvx.sub {ls : Array Slot} {nL : Nat} {lv lv' : List (Nat × Value)} (h : lvx ls nL lv) (hs : ∀ q ∈ lv', xl lv q.1 = some q.2) : lvx ls nL lv' :=
  ⟨h.1, h.2.1, fun i v hv => h.2.2 i v (hs (i, v) (xl_mem hv))⟩
/-- what stands fast in a method's walk -/
def xC (p : Program) (s : State) (m : MethodId) (args : Array Value) (meth : Method) (c : Code) (cc : ByteArray) (nL : Nat) (own : String) (Ts : List Cond) (D : va_G) (tys : List (ClassId × FieldType)) (A : Nat → Prop) (ret : Option FieldType) : Prop :=
  p.tables.exec = Jvm.exec ∧ c.code = cc ∧ c.maxLocals = nL ∧ s.vm.findClass own = some m.cls ∧ (∀ w ∈ Ts, w.before args s = true) ∧ va_K D vwCl tys s ∧ (∀ q, s.heap.size ≤ q → A q) ∧ meth.locks = false ∧ meth.sig.returnType = ret
/-- the goal at a place of the code, over every heap that holds the world -/
def xA (p : Program) (l : Launch) (e : Env) (R : Room) (s : State) (m : MethodId) (args : Array Value) (below : List Frame) (meth : Method) (c : Code) (D : va_G) (A : Nat → Prop) (nL cells slots : Nat) (Q : State → Prop) (pc : Nat) (lv : List (Nat × Value)) (st : List Value) (ws : va_W) : Prop :=
  ∀ (H : Heap) (locs : List Loc) (ls : Array Slot), va_P D vwCl ws H → va_D A ws → va_S A s.heap H locs → lvx ls nL lv → W p l e R s m args below meth c H locs cells slots Q (F0 m pc ls st)
section XK
variable {p : Program} {l : Launch} {e : Env} {R : Room} {s : State} {m : MethodId} {args : Array Value} {below : List Frame} {meth : Method} {c : Code} {cells slots : Nat} {Q : State → Prop} {cc : ByteArray} {nL : Nat} {own : String} {Ts : List Cond} {D : va_G} {tys : List (ClassId × FieldType)} {A : Nat → Prop} {ret : Option FieldType} {pc : Nat} {lv : List (Nat × Value)} {st : List Value} {ws : va_W}

theorem x_sub {lv' : List (Nat × Value)} (k : xA p l e R s m args below meth c D A nL cells slots Q pc lv' st ws) (hs : ∀ q ∈ lv', xl lv q.1 = some q.2) : xA p l e R s m args below meth c D A nL cells slots Q pc lv st ws := fun H locs ls hP hD hS hl => k H locs ls hP hD hS (hl.sub hs)
theorem x_subm {lv' : List (Nat × Value)} (k : xA p l e R s m args below meth c D A nL cells slots Q pc lv' st ws) (hs : lv'.map (fun q => xl lv q.1) = lv'.map (fun q => some q.2)) : xA p l e R s m args below meth c D A nL cells slots Q pc lv st ws := x_sub k (fun q hq => List.map_inj_left.mp hs q hq)
theorem x_st {st' : List Value} (h : st = st') (k : xA p l e R s m args below meth c D A nL cells slots Q pc lv st' ws) : xA p l e R s m args below meth c D A nL cells slots Q pc lv st ws := h ▸ k
theorem x_ws {ws' : va_W} (h : ws = ws') (k : xA p l e R s m args below meth c D A nL cells slots Q pc lv st ws') : xA p l e R s m args below meth c D A nL cells slots Q pc lv st ws := h ▸ k
theorem x_widen {k n : Nat} (h1 : cells ≤ k) (h2 : slots ≤ n) (kk : xA p l e R s m args below meth c D A nL k n Q pc lv st ws) : xA p l e R s m args below meth c D A nL cells slots Q pc lv st ws := fun H locs ls hP hD hS hl => W.widen h1 h2 (kk H locs ls hP hD hS hl)

theorem x_iconst (C : xC p s m args meth c cc nL own Ts D tys A ret) {n : Int} {v : Int32} (hd : decode cc pc = .ok (.iconst n, 1)) (hv : Int32.ofInt n = v)
    (k : xA p l e R s m args below meth c D A nL cells slots Q (pc + 1) lv (.int v :: st) ws) : xA p l e R s m args below meth c D A nL cells slots Q pc lv st ws := fun H locs ls hP hD hS hl => lv_iconst C.1 C.2.1 hd hv (k H locs ls hP hD hS hl)
theorem x_bipush (C : xC p s m args meth c cc nL own Ts D tys A ret) {n : Int} {v : Int32} (hd : decode cc pc = .ok (.bipush n, 2)) (hv : (Int8.ofInt n).toInt32 = v)
    (k : xA p l e R s m args below meth c D A nL cells slots Q (pc + 2) lv (.int v :: st) ws) : xA p l e R s m args below meth c D A nL cells slots Q pc lv st ws := fun H locs ls hP hD hS hl => lv_bipush C.1 C.2.1 hd hv (k H locs ls hP hD hS hl)
theorem x_sipush (C : xC p s m args meth c cc nL own Ts D tys A ret) {n : Int} {v : Int32} (hd : decode cc pc = .ok (.sipush n, 3)) (hv : (Int16.ofInt n).toInt32 = v)
    (k : xA p l e R s m args below meth c D A nL cells slots Q (pc + 3) lv (.int v :: st) ws) : xA p l e R s m args below meth c D A nL cells slots Q pc lv st ws := fun H locs ls hP hD hS hl => lv_sipush C.1 C.2.1 hd hv (k H locs ls hP hD hS hl)
theorem x_iadd (C : xC p s m args meth c cc nL own Ts D tys A ret) {x y : Int32} (hd : decode cc pc = .ok (.iadd, 1)) 
    (k : xA p l e R s m args below meth c D A nL cells slots Q (pc + 1) lv (.int (x + y) :: st) ws) : xA p l e R s m args below meth c D A nL cells slots Q pc lv (.int y :: .int x :: st) ws := fun H locs ls hP hD hS hl => lv_iadd C.1 C.2.1 hd  (k H locs ls hP hD hS hl)
theorem x_isub (C : xC p s m args meth c cc nL own Ts D tys A ret) {x y : Int32} (hd : decode cc pc = .ok (.isub, 1)) 
    (k : xA p l e R s m args below meth c D A nL cells slots Q (pc + 1) lv (.int (x - y) :: st) ws) : xA p l e R s m args below meth c D A nL cells slots Q pc lv (.int y :: .int x :: st) ws := fun H locs ls hP hD hS hl => lv_isub C.1 C.2.1 hd  (k H locs ls hP hD hS hl)
theorem x_imul (C : xC p s m args meth c cc nL own Ts D tys A ret) {x y : Int32} (hd : decode cc pc = .ok (.imul, 1)) 
    (k : xA p l e R s m args below meth c D A nL cells slots Q (pc + 1) lv (.int (x * y) :: st) ws) : xA p l e R s m args below meth c D A nL cells slots Q pc lv (.int y :: .int x :: st) ws := fun H locs ls hP hD hS hl => lv_imul C.1 C.2.1 hd  (k H locs ls hP hD hS hl)
theorem x_iand (C : xC p s m args meth c cc nL own Ts D tys A ret) {x y : Int32} (hd : decode cc pc = .ok (.iand, 1)) 
    (k : xA p l e R s m args below meth c D A nL cells slots Q (pc + 1) lv (.int (x &&& y) :: st) ws) : xA p l e R s m args below meth c D A nL cells slots Q pc lv (.int y :: .int x :: st) ws := fun H locs ls hP hD hS hl => lv_iand C.1 C.2.1 hd  (k H locs ls hP hD hS hl)
theorem x_ior (C : xC p s m args meth c cc nL own Ts D tys A ret) {x y : Int32} (hd : decode cc pc = .ok (.ior, 1)) 
    (k : xA p l e R s m args below meth c D A nL cells slots Q (pc + 1) lv (.int (x ||| y) :: st) ws) : xA p l e R s m args below meth c D A nL cells slots Q pc lv (.int y :: .int x :: st) ws := fun H locs ls hP hD hS hl => lv_ior C.1 C.2.1 hd  (k H locs ls hP hD hS hl)
theorem x_ixor (C : xC p s m args meth c cc nL own Ts D tys A ret) {x y : Int32} (hd : decode cc pc = .ok (.ixor, 1)) 
    (k : xA p l e R s m args below meth c D A nL cells slots Q (pc + 1) lv (.int (x ^^^ y) :: st) ws) : xA p l e R s m args below meth c D A nL cells slots Q pc lv (.int y :: .int x :: st) ws := fun H locs ls hP hD hS hl => lv_ixor C.1 C.2.1 hd  (k H locs ls hP hD hS hl)
theorem x_ishl (C : xC p s m args meth c cc nL own Ts D tys A ret) {x y : Int32} (hd : decode cc pc = .ok (.ishl, 1)) 
    (k : xA p l e R s m args below meth c D A nL cells slots Q (pc + 1) lv (.int (x <<< (y &&& 31)) :: st) ws) : xA p l e R s m args below meth c D A nL cells slots Q pc lv (.int y :: .int x :: st) ws := fun H locs ls hP hD hS hl => lv_ishl C.1 C.2.1 hd  (k H locs ls hP hD hS hl)
theorem x_ishr (C : xC p s m args meth c cc nL own Ts D tys A ret) {x y : Int32} (hd : decode cc pc = .ok (.ishr, 1)) 
    (k : xA p l e R s m args below meth c D A nL cells slots Q (pc + 1) lv (.int (x >>> (y &&& 31)) :: st) ws) : xA p l e R s m args below meth c D A nL cells slots Q pc lv (.int y :: .int x :: st) ws := fun H locs ls hP hD hS hl => lv_ishr C.1 C.2.1 hd  (k H locs ls hP hD hS hl)
theorem x_idiv (C : xC p s m args meth c cc nL own Ts D tys A ret) {x y : Int32} (hd : decode cc pc = .ok (.idiv, 1)) (hne : ¬ y = 0)
    (k : xA p l e R s m args below meth c D A nL cells slots Q (pc + 1) lv (.int (x / y) :: st) ws) : xA p l e R s m args below meth c D A nL cells slots Q pc lv (.int y :: .int x :: st) ws := fun H locs ls hP hD hS hl => lv_idiv C.1 C.2.1 hd hne (k H locs ls hP hD hS hl)
theorem x_irem (C : xC p s m args meth c cc nL own Ts D tys A ret) {x y : Int32} (hd : decode cc pc = .ok (.irem, 1)) (hne : ¬ y = 0)
    (k : xA p l e R s m args below meth c D A nL cells slots Q (pc + 1) lv (.int (x - x / y * y) :: st) ws) : xA p l e R s m args below meth c D A nL cells slots Q pc lv (.int y :: .int x :: st) ws := fun H locs ls hP hD hS hl => lv_irem C.1 C.2.1 hd hne (k H locs ls hP hD hS hl)
theorem x_ineg (C : xC p s m args meth c cc nL own Ts D tys A ret) {x : Int32} (hd : decode cc pc = .ok (.ineg, 1)) 
    (k : xA p l e R s m args below meth c D A nL cells slots Q (pc + 1) lv (.int (-x) :: st) ws) : xA p l e R s m args below meth c D A nL cells slots Q pc lv (.int x :: st) ws := fun H locs ls hP hD hS hl => lv_ineg C.1 C.2.1 hd  (k H locs ls hP hD hS hl)
theorem x_i2l (C : xC p s m args meth c cc nL own Ts D tys A ret) {x : Int32} {v : Int64} (hd : decode cc pc = .ok (.i2l, 1)) (hv : x.toInt64 = v)
    (k : xA p l e R s m args below meth c D A nL cells slots Q (pc + 1) lv (.long v :: st) ws) : xA p l e R s m args below meth c D A nL cells slots Q pc lv (.int x :: st) ws := fun H locs ls hP hD hS hl => lv_i2l C.1 C.2.1 hd hv (k H locs ls hP hD hS hl)
theorem x_dup (C : xC p s m args meth c cc nL own Ts D tys A ret) {va : Value} (hd : decode cc pc = .ok (.dup, 1)) (hva : va.category = 1)
    (k : xA p l e R s m args below meth c D A nL cells slots Q (pc + 1) lv (va :: va :: st) ws) : xA p l e R s m args below meth c D A nL cells slots Q pc lv (va :: st) ws := fun H locs ls hP hD hS hl => lv_dup C.1 C.2.1 hd hva (k H locs ls hP hD hS hl)
theorem x_pop (C : xC p s m args meth c cc nL own Ts D tys A ret) {va : Value} (hd : decode cc pc = .ok (.pop, 1)) (hva : va.category = 1)
    (k : xA p l e R s m args below meth c D A nL cells slots Q (pc + 1) lv st ws) : xA p l e R s m args below meth c D A nL cells slots Q pc lv (va :: st) ws := fun H locs ls hP hD hS hl => lv_pop C.1 C.2.1 hd hva (k H locs ls hP hD hS hl)
theorem x_dup_x1 (C : xC p s m args meth c cc nL own Ts D tys A ret) {va vb : Value} (hd : decode cc pc = .ok (.dup_x1, 1)) (hva : va.category = 1) (hvb : vb.category = 1)
    (k : xA p l e R s m args below meth c D A nL cells slots Q (pc + 1) lv (va :: vb :: va :: st) ws) : xA p l e R s m args below meth c D A nL cells slots Q pc lv (va :: vb :: st) ws := fun H locs ls hP hD hS hl => lv_dup_x1 C.1 C.2.1 hd hva hvb (k H locs ls hP hD hS hl)
theorem x_dup2_11 (C : xC p s m args meth c cc nL own Ts D tys A ret) {va vb : Value} (hd : decode cc pc = .ok (.dup2, 1)) (hva : va.category = 1) (hvb : vb.category = 1)
    (k : xA p l e R s m args below meth c D A nL cells slots Q (pc + 1) lv (va :: vb :: va :: vb :: st) ws) : xA p l e R s m args below meth c D A nL cells slots Q pc lv (va :: vb :: st) ws := fun H locs ls hP hD hS hl => lv_dup2_11 C.1 C.2.1 hd hva hvb (k H locs ls hP hD hS hl)
theorem x_dup_x2 (C : xC p s m args meth c cc nL own Ts D tys A ret) {va vb vd : Value} (hd : decode cc pc = .ok (.dup_x2, 1)) (hva : va.category = 1) (hvb : vb.category = 1) (hvd : vd.category = 1)
    (k : xA p l e R s m args below meth c D A nL cells slots Q (pc + 1) lv (va :: vb :: vd :: va :: st) ws) : xA p l e R s m args below meth c D A nL cells slots Q pc lv (va :: vb :: vd :: st) ws := fun H locs ls hP hD hS hl => lv_dup_x2 C.1 C.2.1 hd hva hvb hvd (k H locs ls hP hD hS hl)
theorem x_topi {x y : Int32} (h : x = y) (k : xA p l e R s m args below meth c D A nL cells slots Q pc lv (.int y :: st) ws) : xA p l e R s m args below meth c D A nL cells slots Q pc lv (.int x :: st) ws := h ▸ k
theorem x_iload_n (C : xC p s m args meth c cc nL own Ts D tys A ret) {k : Fin 4} {i : Nat} {x : Int32} (hd : decode cc pc = .ok (.iload_n k, 1)) (hi : (k : Nat) = i) (hx : xl lv i = some (.int x))
    (kk : xA p l e R s m args below meth c D A nL cells slots Q (pc + 1) lv (.int x :: st) ws) : xA p l e R s m args below meth c D A nL cells slots Q pc lv st ws := fun H locs ls hP hD hS hl => lv_iload_n C.1 C.2.1 hd hi (hl.2.2 i _ hx).1 (kk H locs ls hP hD hS hl)
theorem x_iload (C : xC p s m args meth c cc nL own Ts D tys A ret) {i : Nat} {x : Int32} (hd : decode cc pc = .ok (.iload i, 2)) (hx : xl lv i = some (.int x))
    (kk : xA p l e R s m args below meth c D A nL cells slots Q (pc + 2) lv (.int x :: st) ws) : xA p l e R s m args below meth c D A nL cells slots Q pc lv st ws := fun H locs ls hP hD hS hl => lv_iload C.1 C.2.1 hd (hl.2.2 i _ hx).1 (kk H locs ls hP hD hS hl)
theorem x_aload_n (C : xC p s m args meth c cc nL own Ts D tys A ret) {k : Fin 4} {i : Nat} {x : Nat} (hd : decode cc pc = .ok (.aload_n k, 1)) (hi : (k : Nat) = i) (hx : xl lv i = some (.ref x))
    (kk : xA p l e R s m args below meth c D A nL cells slots Q (pc + 1) lv (.ref x :: st) ws) : xA p l e R s m args below meth c D A nL cells slots Q pc lv st ws := fun H locs ls hP hD hS hl => lv_aload_n C.1 C.2.1 hd hi (hl.2.2 i _ hx).1 (kk H locs ls hP hD hS hl)
theorem x_aload (C : xC p s m args meth c cc nL own Ts D tys A ret) {i : Nat} {x : Nat} (hd : decode cc pc = .ok (.aload i, 2)) (hx : xl lv i = some (.ref x))
    (kk : xA p l e R s m args below meth c D A nL cells slots Q (pc + 2) lv (.ref x :: st) ws) : xA p l e R s m args below meth c D A nL cells slots Q pc lv st ws := fun H locs ls hP hD hS hl => lv_aload C.1 C.2.1 hd (hl.2.2 i _ hx).1 (kk H locs ls hP hD hS hl)
theorem x_istore_n (C : xC p s m args meth c cc nL own Ts D tys A ret) {k : Fin 4} {i : Nat} {x : Int32} (hd : decode cc pc = .ok (.istore_n k, 1)) (hi : (k : Nat) = i) (hn : i < nL)
    (kk : xA p l e R s m args below meth c D A nL cells slots Q (pc + 1) ((i, .int x) :: lv) st ws) : xA p l e R s m args below meth c D A nL cells slots Q pc lv (.int x :: st) ws := fun H locs ls hP hD hS hl => lv_istore_n C.1 C.2.1 hd hi (lvl_has hl) hn rfl (fun ls' h' => kk H locs ls' hP hD hS (hl.put rfl h'))
theorem x_istore (C : xC p s m args meth c cc nL own Ts D tys A ret) {i : Nat} {x : Int32} (hd : decode cc pc = .ok (.istore i, 2)) (hn : i < nL)
    (kk : xA p l e R s m args below meth c D A nL cells slots Q (pc + 2) ((i, .int x) :: lv) st ws) : xA p l e R s m args below meth c D A nL cells slots Q pc lv (.int x :: st) ws := fun H locs ls hP hD hS hl => lv_istore C.1 C.2.1 hd (lvl_has hl) hn rfl (fun ls' h' => kk H locs ls' hP hD hS (hl.put rfl h'))
theorem x_astore_n (C : xC p s m args meth c cc nL own Ts D tys A ret) {k : Fin 4} {i : Nat} {x : Nat} (hd : decode cc pc = .ok (.astore_n k, 1)) (hi : (k : Nat) = i) (hn : i < nL)
    (kk : xA p l e R s m args below meth c D A nL cells slots Q (pc + 1) ((i, .ref x) :: lv) st ws) : xA p l e R s m args below meth c D A nL cells slots Q pc lv (.ref x :: st) ws := fun H locs ls hP hD hS hl => lv_astore_n C.1 C.2.1 hd hi (lvl_has hl) hn rfl (fun ls' h' => kk H locs ls' hP hD hS (hl.put rfl h'))
theorem x_astore (C : xC p s m args meth c cc nL own Ts D tys A ret) {i : Nat} {x : Nat} (hd : decode cc pc = .ok (.astore i, 2)) (hn : i < nL)
    (kk : xA p l e R s m args below meth c D A nL cells slots Q (pc + 2) ((i, .ref x) :: lv) st ws) : xA p l e R s m args below meth c D A nL cells slots Q pc lv (.ref x :: st) ws := fun H locs ls hP hD hS hl => lv_astore C.1 C.2.1 hd (lvl_has hl) hn rfl (fun ls' h' => kk H locs ls' hP hD hS (hl.put rfl h'))
theorem x_iinc (C : xC p s m args meth c cc nL own Ts D tys A ret) {i : Nat} {n : Int} {x v : Int32} (hd : decode cc pc = .ok (.iinc i n, 3)) (hx : xl lv i = some (.int x)) (hv : x + Int32.ofInt n = v)
    (kk : xA p l e R s m args below meth c D A nL cells slots Q (pc + 3) ((i, .int v) :: lv) st ws) : xA p l e R s m args below meth c D A nL cells slots Q pc lv st ws := by
  intro H locs ls hP hD hS hl
  have hm : (i, Value.int x) ∈ lvl lv nL := by
    have h1 := (hl.2.2 i _ hx).1
    have hn : i < nL := by
      have := (Array.getElem?_eq_some_iff.mp h1).1
      rw [hl.1] at this
      exact this
    exact List.mem_filterMap.mpr ⟨i, List.mem_range.mpr hn, by rw [hx]; rfl⟩
  have hn : i < nL := by
    have := (Array.getElem?_eq_some_iff.mp (hl.2.2 i _ hx).1).1
    rw [hl.1] at this
    exact this
  obtain ⟨k, hk⟩ := List.getElem?_of_mem hm
  exact lv_iinc C.1 C.2.1 hd (lvl_has hl) hk hv hn rfl (fun ls' h' => kk H locs ls' hP hD hS (hl.put rfl h'))
theorem x_if_eq (C : xC p s m args meth c cc nL own Ts D tys A ret) {x : Int32} {off : Int} (tgt : Nat) (hd : decode cc pc = .ok (.ifCond .eq off, 3)) (ht : (pc : Int) + off = (tgt : Int))
    (kt : x = 0 → xA p l e R s m args below meth c D A nL cells slots Q tgt lv st ws) (kf : ¬ x = 0 → xA p l e R s m args below meth c D A nL cells slots Q (pc + 3) lv st ws) : xA p l e R s m args below meth c D A nL cells slots Q pc lv (.int x :: st) ws := fun H locs ls hP hD hS hl => lv_if_eq C.1 C.2.1 hd ht (fun h => kt h H locs ls hP hD hS hl) (fun h => kf h H locs ls hP hD hS hl)
theorem x_icmp_eq (C : xC p s m args meth c cc nL own Ts D tys A ret) {x y : Int32} {off : Int} (tgt : Nat) (hd : decode cc pc = .ok (.if_icmp .eq off, 3)) (ht : (pc : Int) + off = (tgt : Int))
    (kt : x = y → xA p l e R s m args below meth c D A nL cells slots Q tgt lv st ws) (kf : ¬ x = y → xA p l e R s m args below meth c D A nL cells slots Q (pc + 3) lv st ws) : xA p l e R s m args below meth c D A nL cells slots Q pc lv (.int y :: .int x :: st) ws := fun H locs ls hP hD hS hl => lv_icmp_eq C.1 C.2.1 hd ht (fun h => kt h H locs ls hP hD hS hl) (fun h => kf h H locs ls hP hD hS hl)
theorem x_if_ne (C : xC p s m args meth c cc nL own Ts D tys A ret) {x : Int32} {off : Int} (tgt : Nat) (hd : decode cc pc = .ok (.ifCond .ne off, 3)) (ht : (pc : Int) + off = (tgt : Int))
    (kt : ¬ x = 0 → xA p l e R s m args below meth c D A nL cells slots Q tgt lv st ws) (kf : x = 0 → xA p l e R s m args below meth c D A nL cells slots Q (pc + 3) lv st ws) : xA p l e R s m args below meth c D A nL cells slots Q pc lv (.int x :: st) ws := fun H locs ls hP hD hS hl => lv_if_ne C.1 C.2.1 hd ht (fun h => kt h H locs ls hP hD hS hl) (fun h => kf h H locs ls hP hD hS hl)
theorem x_icmp_ne (C : xC p s m args meth c cc nL own Ts D tys A ret) {x y : Int32} {off : Int} (tgt : Nat) (hd : decode cc pc = .ok (.if_icmp .ne off, 3)) (ht : (pc : Int) + off = (tgt : Int))
    (kt : ¬ x = y → xA p l e R s m args below meth c D A nL cells slots Q tgt lv st ws) (kf : x = y → xA p l e R s m args below meth c D A nL cells slots Q (pc + 3) lv st ws) : xA p l e R s m args below meth c D A nL cells slots Q pc lv (.int y :: .int x :: st) ws := fun H locs ls hP hD hS hl => lv_icmp_ne C.1 C.2.1 hd ht (fun h => kt h H locs ls hP hD hS hl) (fun h => kf h H locs ls hP hD hS hl)
theorem x_if_lt (C : xC p s m args meth c cc nL own Ts D tys A ret) {x : Int32} {off : Int} (tgt : Nat) (hd : decode cc pc = .ok (.ifCond .lt off, 3)) (ht : (pc : Int) + off = (tgt : Int))
    (kt : x < 0 → xA p l e R s m args below meth c D A nL cells slots Q tgt lv st ws) (kf : ¬ x < 0 → xA p l e R s m args below meth c D A nL cells slots Q (pc + 3) lv st ws) : xA p l e R s m args below meth c D A nL cells slots Q pc lv (.int x :: st) ws := fun H locs ls hP hD hS hl => lv_if_lt C.1 C.2.1 hd ht (fun h => kt h H locs ls hP hD hS hl) (fun h => kf h H locs ls hP hD hS hl)
theorem x_icmp_lt (C : xC p s m args meth c cc nL own Ts D tys A ret) {x y : Int32} {off : Int} (tgt : Nat) (hd : decode cc pc = .ok (.if_icmp .lt off, 3)) (ht : (pc : Int) + off = (tgt : Int))
    (kt : x < y → xA p l e R s m args below meth c D A nL cells slots Q tgt lv st ws) (kf : ¬ x < y → xA p l e R s m args below meth c D A nL cells slots Q (pc + 3) lv st ws) : xA p l e R s m args below meth c D A nL cells slots Q pc lv (.int y :: .int x :: st) ws := fun H locs ls hP hD hS hl => lv_icmp_lt C.1 C.2.1 hd ht (fun h => kt h H locs ls hP hD hS hl) (fun h => kf h H locs ls hP hD hS hl)
theorem x_if_ge (C : xC p s m args meth c cc nL own Ts D tys A ret) {x : Int32} {off : Int} (tgt : Nat) (hd : decode cc pc = .ok (.ifCond .ge off, 3)) (ht : (pc : Int) + off = (tgt : Int))
    (kt : 0 ≤ x → xA p l e R s m args below meth c D A nL cells slots Q tgt lv st ws) (kf : ¬ 0 ≤ x → xA p l e R s m args below meth c D A nL cells slots Q (pc + 3) lv st ws) : xA p l e R s m args below meth c D A nL cells slots Q pc lv (.int x :: st) ws := fun H locs ls hP hD hS hl => lv_if_ge C.1 C.2.1 hd ht (fun h => kt h H locs ls hP hD hS hl) (fun h => kf h H locs ls hP hD hS hl)
theorem x_icmp_ge (C : xC p s m args meth c cc nL own Ts D tys A ret) {x y : Int32} {off : Int} (tgt : Nat) (hd : decode cc pc = .ok (.if_icmp .ge off, 3)) (ht : (pc : Int) + off = (tgt : Int))
    (kt : y ≤ x → xA p l e R s m args below meth c D A nL cells slots Q tgt lv st ws) (kf : ¬ y ≤ x → xA p l e R s m args below meth c D A nL cells slots Q (pc + 3) lv st ws) : xA p l e R s m args below meth c D A nL cells slots Q pc lv (.int y :: .int x :: st) ws := fun H locs ls hP hD hS hl => lv_icmp_ge C.1 C.2.1 hd ht (fun h => kt h H locs ls hP hD hS hl) (fun h => kf h H locs ls hP hD hS hl)
theorem x_if_gt (C : xC p s m args meth c cc nL own Ts D tys A ret) {x : Int32} {off : Int} (tgt : Nat) (hd : decode cc pc = .ok (.ifCond .gt off, 3)) (ht : (pc : Int) + off = (tgt : Int))
    (kt : 0 < x → xA p l e R s m args below meth c D A nL cells slots Q tgt lv st ws) (kf : ¬ 0 < x → xA p l e R s m args below meth c D A nL cells slots Q (pc + 3) lv st ws) : xA p l e R s m args below meth c D A nL cells slots Q pc lv (.int x :: st) ws := fun H locs ls hP hD hS hl => lv_if_gt C.1 C.2.1 hd ht (fun h => kt h H locs ls hP hD hS hl) (fun h => kf h H locs ls hP hD hS hl)
theorem x_icmp_gt (C : xC p s m args meth c cc nL own Ts D tys A ret) {x y : Int32} {off : Int} (tgt : Nat) (hd : decode cc pc = .ok (.if_icmp .gt off, 3)) (ht : (pc : Int) + off = (tgt : Int))
    (kt : y < x → xA p l e R s m args below meth c D A nL cells slots Q tgt lv st ws) (kf : ¬ y < x → xA p l e R s m args below meth c D A nL cells slots Q (pc + 3) lv st ws) : xA p l e R s m args below meth c D A nL cells slots Q pc lv (.int y :: .int x :: st) ws := fun H locs ls hP hD hS hl => lv_icmp_gt C.1 C.2.1 hd ht (fun h => kt h H locs ls hP hD hS hl) (fun h => kf h H locs ls hP hD hS hl)
theorem x_if_le (C : xC p s m args meth c cc nL own Ts D tys A ret) {x : Int32} {off : Int} (tgt : Nat) (hd : decode cc pc = .ok (.ifCond .le off, 3)) (ht : (pc : Int) + off = (tgt : Int))
    (kt : x ≤ 0 → xA p l e R s m args below meth c D A nL cells slots Q tgt lv st ws) (kf : ¬ x ≤ 0 → xA p l e R s m args below meth c D A nL cells slots Q (pc + 3) lv st ws) : xA p l e R s m args below meth c D A nL cells slots Q pc lv (.int x :: st) ws := fun H locs ls hP hD hS hl => lv_if_le C.1 C.2.1 hd ht (fun h => kt h H locs ls hP hD hS hl) (fun h => kf h H locs ls hP hD hS hl)
theorem x_icmp_le (C : xC p s m args meth c cc nL own Ts D tys A ret) {x y : Int32} {off : Int} (tgt : Nat) (hd : decode cc pc = .ok (.if_icmp .le off, 3)) (ht : (pc : Int) + off = (tgt : Int))
    (kt : x ≤ y → xA p l e R s m args below meth c D A nL cells slots Q tgt lv st ws) (kf : ¬ x ≤ y → xA p l e R s m args below meth c D A nL cells slots Q (pc + 3) lv st ws) : xA p l e R s m args below meth c D A nL cells slots Q pc lv (.int y :: .int x :: st) ws := fun H locs ls hP hD hS hl => lv_icmp_le C.1 C.2.1 hd ht (fun h => kt h H locs ls hP hD hS hl) (fun h => kf h H locs ls hP hD hS hl)
theorem x_goto (C : xC p s m args meth c cc nL own Ts D tys A ret) {off : Int} (tgt : Nat) (hd : decode cc pc = .ok (.goto off, 3)) (ht : (pc : Int) + off = (tgt : Int)) (k : xA p l e R s m args below meth c D A nL cells slots Q tgt lv st ws) : xA p l e R s m args below meth c D A nL cells slots Q pc lv st ws := fun H locs ls hP hD hS hl => lv_goto C.1 C.2.1 hd ht (k H locs ls hP hD hS hl)
theorem x_ldc (C : xC p s m args meth c cc nL own Ts D tys A ret) {index : Nat} {v : Int32} (hc : Cond.constant own index v ∈ Ts) (hd : decode cc pc = .ok (.ldc index, 2)) (k : xA p l e R s m args below meth c D A nL cells slots Q (pc + 2) lv (.int v :: st) ws) : xA p l e R s m args below meth c D A nL cells slots Q pc lv st ws := fun H locs ls hP hD hS hl => lv_ldc C.1 C.2.1 C.2.2.2.1 (C.2.2.2.2.1 _ hc) hd (k H locs ls hP hD hS hl)
theorem x_min (C : xC p s m args meth c cc nL own Ts D tys A ret) {index : Nat} {x y v : Int32} (h1 : Cond.methodLink own index Lib.Math.min.name ∈ Ts) (h2 : Cond.static Lib.Math.min.name ∈ Ts) (h3 : Cond.initialized "java/lang/Math" ∈ Ts) (h4 : Cond.code Lib.Math.min.name Lib.Math.min.code 2 (some .int) ∈ Ts)
    (hr : 1 ≤ R.frames ∧ (st.map fun v => v.category).sum + 13 ≤ R.locals ∧ cells ≤ R.cells ∧ slots ≤ R.slots) (hd : decode cc pc = .ok (.invokestatic index, 3)) (hv : (if y < x then y else x) = v)
    (k : xA p l e R s m args below meth c D A nL cells slots Q (pc + 3) lv (.int v :: st) ws) : xA p l e R s m args below meth c D A nL cells slots Q pc lv (.int y :: .int x :: st) ws := fun H locs ls hP hD hS hl => va_mmin C.1 C.2.1 (C.2.2.1.trans hl.1.symm) C.2.2.2.1 (C.2.2.2.2.1 _ h1) (C.2.2.2.2.1 _ h2) (C.2.2.2.2.1 _ h3) (C.2.2.2.2.1 _ h4) hr.1 hr.2.1 hr.2.2.1 hr.2.2.2 hd (hv ▸ k H locs ls hP hD hS hl)
theorem x_max (C : xC p s m args meth c cc nL own Ts D tys A ret) {index : Nat} {x y v : Int32} (h1 : Cond.methodLink own index Lib.Math.max.name ∈ Ts) (h2 : Cond.static Lib.Math.max.name ∈ Ts) (h3 : Cond.initialized "java/lang/Math" ∈ Ts) (h4 : Cond.code Lib.Math.max.name Lib.Math.max.code 2 (some .int) ∈ Ts)
    (hr : 1 ≤ R.frames ∧ (st.map fun v => v.category).sum + 13 ≤ R.locals ∧ cells ≤ R.cells ∧ slots ≤ R.slots) (hd : decode cc pc = .ok (.invokestatic index, 3)) (hv : (if x < y then y else x) = v)
    (k : xA p l e R s m args below meth c D A nL cells slots Q (pc + 3) lv (.int v :: st) ws) : xA p l e R s m args below meth c D A nL cells slots Q pc lv (.int y :: .int x :: st) ws := fun H locs ls hP hD hS hl => va_mmax C.1 C.2.1 (C.2.2.1.trans hl.1.symm) C.2.2.2.1 (C.2.2.2.2.1 _ h1) (C.2.2.2.2.1 _ h2) (C.2.2.2.2.1 _ h3) (C.2.2.2.2.1 _ h4) hr.1 hr.2.1 hr.2.2.1 hr.2.2.2 hd (hv ▸ k H locs ls hP hD hS hl)

theorem x_get (C : xC p s m args meth c cc nL own Ts D tys A ret) {n : Nat} {a : Nat → Nat} {E : Nat → va_E} {X : va_W} {p0 ci N index : Nat} {Cn ref : String} {T : u_T} {fs : List Value} {v : Value} (hp : p0 < n) (he : E p0 = .inr (ci, fs)) (hc : vwCl[ci]? = some (Cn, T, N)) (k : Nat) (hk : k < N) (hin : ∀ w ∈ u_ws Cn T N, w ∈ Ts) (hlink : Cond.fieldLink own index ref (T k).2.1 (T k).2.2.1 ∈ Ts) (hsame : (T k).1 = ref) (hv : fs[k]? = some v) (hd : decode cc pc = .ok (.getfield index, 3))
    (kk : xA p l e R s m args below meth c D A nL cells slots Q (pc + 3) lv (v :: st) (xw n a E ++ X)) : xA p l e R s m args below meth c D A nL cells slots Q pc lv (.ref (a p0) :: st) (xw n a E ++ X) :=
  fun H locs ls hP hD hS hl => va_get C.1 C.2.1 C.2.2.2.2.1 hin C.2.2.2.1 C.2.2.2.2.2.1 hP p0 ((xw_get hp).trans (by rw [he])) hc k hk (C.2.2.2.2.1 _ hlink) (by rw [← hsame]; exact fun _ h9 => h9) hv hd (kk H locs ls hP hD hS hl)
theorem x_put (C : xC p s m args meth c cc nL own Ts D tys A ret) {n : Nat} {a : Nat → Nat} {E E' : Nat → va_E} {X : va_W} {p0 ci N index : Nat} {Cn ref : String} {T : u_T} {fs : List Value} {v : Value} {ty : FieldType} (ty0 : Nat → FieldType) (hty : ∀ k, k < N → parseFieldDescriptor (T k).2.2.1 = some (ty0 k)) (hnm : ∀ a, a < N → ∀ b, b < N → a ≠ b → (T a).2.1 ≠ (T b).2.1) (hp : p0 < n) (he : E p0 = .inr (ci, fs)) (hc : vwCl[ci]? = some (Cn, T, N)) (k : Nat) (hk : k < N) (hin : ∀ w ∈ u_ws Cn T N, w ∈ Ts) (hlink : Cond.fieldLink own index ref (T k).2.1 (T k).2.2.1 ∈ Ts) (hsame : (T k).1 = ref) (hfin : (T k).2.2.2 = false) (htk : ty0 k = ty) (hn : narrow ty v = v) (hfit : fits ty v = true) (hlen : k < fs.length) (hd : decode cc pc = .ok (.putfield index, 3))
    (hE : E' p0 = .inr (ci, fs.set k v)) (ho : ∀ q, q ≠ p0 → E' q = E q)
    (kk : xA p l e R s m args below meth c D A nL cells slots Q (pc + 3) lv st (xw n a E' ++ X)) : xA p l e R s m args below meth c D A nL cells slots Q pc lv (v :: .ref (a p0) :: st) (xw n a E ++ X) :=
  fun H locs ls hP hD hS hl => va_put C.1 C.2.1 C.2.2.2.2.1 hin ty0 hty hnm C.2.2.2.1 C.2.2.2.2.2.1 hP hD hS p0 ((xw_get hp).trans (by rw [he])) hc k hk (C.2.2.2.2.1 _ hlink) (by rw [← hsame]; exact fun _ h9 => h9) hfin (by rw [hty k hk, htk]) hn hfit hlen hd (fun H1 locs1 hP1 hD1 hS1 => kk H1 locs1 ls (xw_set hp hE ho ▸ hP1) (xw_set hp hE ho ▸ hD1) hS1 hl)
theorem x_putF (C : xC p s m args meth c cc nL own Ts D tys A ret) {n : Nat} {a : Nat → Nat} {E E' : Nat → va_E} {X : va_W} {p0 ci N index : Nat} {Cn ref : String} {T : u_T} {fs : List Value} {v : Value} {ty : FieldType} (ty0 : Nat → FieldType) (hty : ∀ k, k < N → parseFieldDescriptor (T k).2.2.1 = some (ty0 k)) (hnm : ∀ a, a < N → ∀ b, b < N → a ≠ b → (T a).2.1 ≠ (T b).2.1) (hp : p0 < n) (he : E p0 = .inr (ci, fs)) (hc : vwCl[ci]? = some (Cn, T, N)) (k : Nat) (hk : k < N) (hin : ∀ w ∈ u_ws Cn T N, w ∈ Ts) (hlink : Cond.fieldLink own index ref (T k).2.1 (T k).2.2.1 ∈ Ts) (hsame : (T k).1 = ref) (hfin : (T k).2.2.2 = true) (hini : meth.name = "<init>") (hown : (T k).1 = own) (htk : ty0 k = ty) (hn : narrow ty v = v) (hfit : fits ty v = true) (hlen : k < fs.length) (hd : decode cc pc = .ok (.putfield index, 3))
    (hE : E' p0 = .inr (ci, fs.set k v)) (ho : ∀ q, q ≠ p0 → E' q = E q)
    (kk : xA p l e R s m args below meth c D A nL cells slots Q (pc + 3) lv st (xw n a E' ++ X)) : xA p l e R s m args below meth c D A nL cells slots Q pc lv (v :: .ref (a p0) :: st) (xw n a E ++ X) :=
  fun H locs ls hP hD hS hl => va_putF C.1 C.2.1 C.2.2.2.2.1 hin ty0 hty hnm C.2.2.2.1 C.2.2.2.2.2.1 hP hD hS p0 ((xw_get hp).trans (by rw [he])) hc k hk (C.2.2.2.2.1 _ hlink) (by rw [← hsame]; exact fun _ h9 => h9) hfin hini hown (by rw [hty k hk, htk]) hn hfit hlen hd (fun H1 locs1 hP1 hD1 hS1 => kk H1 locs1 ls (xw_set hp hE ho ▸ hP1) (xw_set hp hE ho ▸ hD1) hS1 hl)
theorem x_iald (C : xC p s m args meth c cc nL own Ts D tys A ret) {n : Nat} {a : Nat → Nat} {E : Nat → va_E} {X : va_W} {p0 t0 len : Nat} {cA : ClassId} {f : Nat → Int32} {i v : Int32} (hp : p0 < n) (he : E p0 = .inl (cA, len, .inl f)) (ht : tys[t0]? = some (cA, .int)) (hi : vp_in i len) (hv : f i.toNatClampNeg = v) (hd : decode cc pc = .ok (.iaload, 1))
    (kk : xA p l e R s m args below meth c D A nL cells slots Q (pc + 1) lv (.int v :: st) (xw n a E ++ X)) : xA p l e R s m args below meth c D A nL cells slots Q pc lv (.int i :: .ref (a p0) :: st) (xw n a E ++ X) :=
  fun H locs ls hP hD hS hl => va_iald C.1 C.2.1 C.2.2.2.2.2.1 hP p0 t0 ((xw_get hp).trans (by rw [he])) ht hi hd (hv ▸ kk H locs ls hP hD hS hl)
theorem x_zald (C : xC p s m args meth c cc nL own Ts D tys A ret) {n : Nat} {a : Nat → Nat} {E : Nat → va_E} {X : va_W} {p0 t0 len : Nat} {cA : ClassId} {f : Nat → Int32} {i v : Int32} (hp : p0 < n) (he : E p0 = .inl (cA, len, .inl f)) (ht : tys[t0]? = some (cA, .boolean)) (hi : vp_in i len) (hv : f i.toNatClampNeg = v) (hd : decode cc pc = .ok (.baload, 1))
    (kk : xA p l e R s m args below meth c D A nL cells slots Q (pc + 1) lv (.int v :: st) (xw n a E ++ X)) : xA p l e R s m args below meth c D A nL cells slots Q pc lv (.int i :: .ref (a p0) :: st) (xw n a E ++ X) :=
  fun H locs ls hP hD hS hl => va_zald C.1 C.2.1 C.2.2.2.2.2.1 hP p0 t0 ((xw_get hp).trans (by rw [he])) ht hi hd (hv ▸ kk H locs ls hP hD hS hl)
theorem x_iast (C : xC p s m args meth c cc nL own Ts D tys A ret) {n : Nat} {a : Nat → Nat} {E E' : Nat → va_E} {X : va_W} {p0 t0 len : Nat} {cA : ClassId} {f : Nat → Int32} {i x : Int32} (hp : p0 < n) (he : E p0 = .inl (cA, len, .inl f)) (ht : tys[t0]? = some (cA, .int)) (hi : vp_in i len) (hd : decode cc pc = .ok (.iastore, 1))
    (hE : E' p0 = .inl (cA, len, .inl (upd f i.toNatClampNeg x))) (ho : ∀ q, q ≠ p0 → E' q = E q)
    (kk : xA p l e R s m args below meth c D A nL cells slots Q (pc + 1) lv st (xw n a E' ++ X)) : xA p l e R s m args below meth c D A nL cells slots Q pc lv (.int x :: .int i :: .ref (a p0) :: st) (xw n a E ++ X) :=
  fun H locs ls hP hD hS hl => va_iast C.1 C.2.1 C.2.2.2.2.2.1 hP hD hS p0 t0 ((xw_get hp).trans (by rw [he])) ht hi hd (fun H1 locs1 hP1 hD1 hS1 => kk H1 locs1 ls (xw_set hp hE ho ▸ hP1) (xw_set hp hE ho ▸ hD1) hS1 hl)
theorem x_zast (C : xC p s m args meth c cc nL own Ts D tys A ret) {n : Nat} {a : Nat → Nat} {E E' : Nat → va_E} {X : va_W} {p0 t0 len : Nat} {cA : ClassId} {f : Nat → Int32} {i x : Int32} (hp : p0 < n) (he : E p0 = .inl (cA, len, .inl f)) (ht : tys[t0]? = some (cA, .boolean)) (hi : vp_in i len) (hx : vp_nar .boolean x = x) (hd : decode cc pc = .ok (.bastore, 1))
    (hE : E' p0 = .inl (cA, len, .inl (upd f i.toNatClampNeg x))) (ho : ∀ q, q ≠ p0 → E' q = E q)
    (kk : xA p l e R s m args below meth c D A nL cells slots Q (pc + 1) lv st (xw n a E' ++ X)) : xA p l e R s m args below meth c D A nL cells slots Q pc lv (.int x :: .int i :: .ref (a p0) :: st) (xw n a E ++ X) :=
  fun H locs ls hP hD hS hl => va_zast C.1 C.2.1 C.2.2.2.2.2.1 hP hD hS p0 t0 ((xw_get hp).trans (by rw [he])) ht hi hd (fun H1 locs1 hP1 hD1 hS1 => by rw [hx] at hP1 hD1; exact kk H1 locs1 ls (xw_set hp hE ho ▸ hP1) (xw_set hp hE ho ▸ hD1) hS1 hl)
theorem x_aald (C : xC p s m args meth c cc nL own Ts D tys A ret) {n : Nat} {a : Nat → Nat} {E : Nat → va_E} {X : va_W} {p0 t0 len v : Nat} {cA : ClassId} {f : Nat → Option Nat} {i : Int32} {ty : FieldType} (hp : p0 < n) (he : E p0 = .inl (cA, len, .inr (.inr (.inr (.inr f))))) (ht : tys[t0]? = some (cA, ty)) (hty : ty.isReference = true) (hi : vp_in i len) (hv : f i.toNatClampNeg = some v) (hd : decode cc pc = .ok (.aaload, 1))
    (kk : xA p l e R s m args below meth c D A nL cells slots Q (pc + 1) lv (.ref v :: st) (xw n a E ++ X)) : xA p l e R s m args below meth c D A nL cells slots Q pc lv (.int i :: .ref (a p0) :: st) (xw n a E ++ X) := by
  intro H locs ls hP hD hS hl
  have hlt : i.toNatClampNeg < len := Nat.not_le.mp fun q => hi (Or.inr q)
  have ha := hP p0 _ ((xw_get hp).trans (by rw [he]))
  exact W.aald (v := .ref v) (ty := ty) C.1 C.2.1 ha ((C.2.2.2.2.2.1.2 t0 _ ht).1 len (fun j => va_rf (f j))) hty (fun q => by cases q) (by show ¬ (i < 0 ∨ (arrV _ _ _).slots.size ≤ _); rw [arrV_size]; exact hi) (by show (arrV _ _ _).slots[_]? = _; rw [arrV_read _ _ hlt, hv]; rfl) rfl rfl hd (kk H locs ls hP hD hS hl)
end XK
/-! ===== END kernel ===== -/
end
section
/-! ===== BEGIN calls: the environment, contracts, ends, calls over the packed goal ===== -/
abbrev xIO : String := "java/lang/IndexOutOfBoundsException"
abbrev xIA : String := "java/lang/IllegalArgumentException"
abbrev xIS : String := "java/lang/IllegalStateException"
/-- words that no method's own list may carry, the class's and the catches' -/
def xEw : List Cond := [.methodLinkNest RX2 50 yX3_has "Ringroll", .methodLinkNest RX0 57 yX3_has "Ringroll", .castable xIO xIO, .castable xIA xIA, .castable xIS xIS]
def xEn : List (String × String) := [(xIO, xIA), (xIO, xIS), (xIA, xIO), (xIA, xIS), (xIS, xIO), (xIS, xIA)]
def xEs : List (Nat × String) := [(124, "the device is not on trial"), (149, "no room for another campaign"), (210, "no such device"), (212, "no such campaign"), (214, "no such version"), (217, "a value is out of range"), (68, "a delta leads to another version"), (85, "no such kind"), (90, "no room for another device"), (97, "the version may not run on the kind")]
def xE (A : Nat → Prop) (U : State) : Prop := (∀ w ∈ xEw, va_Nw w U) ∧ (∀ q ∈ xEn, va_Nc q.1 q.2 U) ∧ (∀ q ∈ xEs, ∃ sa : Nat, vk_R RX3 q.1 q.2 sa U) ∧ vx_Zq Bundle.tN "UNASSIGNED_STACK" Bundle.steD A U U.heap ∧ vx_Zq Bundle.tN "SUPPRESSED_SENTINEL" Bundle.listD A U U.heap
theorem xE.at {A : Nat → Prop} {s U : State} {H : Heap} {locs : List Loc} (h : xE A s) (hS : va_S A s.heap H locs) (hU : U.heap = H) (hW : s.WarmedH U.vm) : xE A U := by
  obtain ⟨h1, h2, h3, h4, h5⟩ := h
  refine ⟨fun w hw => ?_, fun q hq => va_Nc.moved hW.alike (h2 q hq), fun q hq => ?_, ?_, ?_⟩
  · have h9 := h1 w hw
    simp only [xEw, List.mem_cons, List.not_mem_nil, or_false] at hw
    rcases hw with rfl | rfl | rfl | rfl | rfl
    · exact va_Nw.warmM hW h9
    · exact va_Nw.warmM hW h9
    · exact va_Nw.warmC hW h9
    · exact va_Nw.warmC hW h9
    · exact va_Nw.warmC hW h9
  · obtain ⟨sa, hs⟩ := h3 q hq
    exact ⟨sa, vk_R.warm hW hs⟩
  · rw [hU]; exact vx_Zq.moved hW.alike (h4.kept hS.2.1)
  · rw [hU]; exact vx_Zq.moved hW.alike (h5.kept hS.2.1)
theorem xE.calling {A : Nat → Prop} {U : State} {g : JFrame} {mk : MethodId} {a : Array Value} (h : xE A U) : xE A (U.calling g mk a) := by
  obtain ⟨h1, h2, h3, h4, h5⟩ := h
  refine ⟨fun w hw => ?_, fun q hq => va_Nc.moved (u := U) (U := U.calling g mk a) (Vm.Alike.refl U.vm) (h2 q hq), fun q hq => ?_, vx_Zq.moved (u := U) (U := U.calling g mk a) (Vm.Alike.refl U.vm) h4, vx_Zq.moved (u := U) (U := U.calling g mk a) (Vm.Alike.refl U.vm) h5⟩
  · have h9 := h1 w hw
    have ho : w.onTables = true := by
      simp only [xEw, List.mem_cons, List.not_mem_nil, or_false] at hw
      rcases hw with rfl | rfl | rfl | rfl | rfl <;> rfl
    exact va_Nw.same (u := U) (U := U.calling g mk a) ho rfl h9
  · obtain ⟨sa, hs⟩ := h3 q hq
    exact ⟨sa, vk_R.same (u := U) (U := U.calling g mk a) rfl hs⟩
def xPre (D : va_G) (tys : List (ClassId × FieldType)) (A : Nat → Prop) (ws : va_W) (U : State) : Prop := (∀ q, U.heap.size ≤ q → A q) ∧ va_P D vwCl ws U.heap ∧ va_K D vwCl tys U ∧ va_D A ws ∧ xE A U
def xPost (D : va_G) (tys : List (ClassId × FieldType)) (A : Nat → Prop) (ws : va_W) (t : State) : Prop := va_P D vwCl ws t.heap ∧ va_K D vwCl tys t ∧ va_D A ws
theorem xPre.blind {D : va_G} {tys : List (ClassId × FieldType)} {A : Nat → Prop} {ws : va_W} {av : List Value} : FrameBlind (va_Pc av (xPre D tys A ws)) := by
  intro a U g mk h
  obtain ⟨h0, h1, h2, h3, h4, h5⟩ := h
  exact ⟨h0, h1, h2, va_K.moved (u := U) (U := U.calling g mk a) (Vm.Alike.refl U.vm) h3, h4, h5.calling⟩
/-- thrown: which class, and the world as it was -/
def xX (D : va_G) (tys : List (ClassId × FieldType)) (A : Nat → Prop) (ws : va_W) (ex : Option String) : String → State → State → Prop := vx_X (fun _ : Unit => True) (fun E _ t => ex = some E ∧ xPost D tys A ws t) A
section VXR
variable {p : Program} {l : Launch} {e : Env} {R : Room} {s : State} {m : MethodId} {args : Array Value} {below : List Frame} {meth : Method} {c : Code} {H : Heap} {locs : List Loc} {cells slots : Nat} {Q : State → Prop}
variable {mc ms : Nat} {free : Addr → Prop} {A0 A1 : Nat → Prop} {H0 : Heap} {a : Array Value} {pc : Nat} {ls : Array Slot} {st0 rest : List Value}
/-- as vx_callv, the answer a cell -/
theorem vx_callr {S SX : Type} {post : S → Prop} {px : SX → Prop} {B : S → Nat → State → Prop} {BX : String → SX → State → Prop} {AX : Nat → Prop} (hr : vx_Run p l e R s m args below meth c H locs cells slots mc ms (F0 m pc ls st0) rest (va_Qr post B A1 a) (vx_X px BX AX) free) (hS : va_S A0 H0 H locs) (hA : ∀ q, q < H.size → A1 q → A0 q) (hf : ∀ q, free q → A0 q) (hAX : ∀ q, q < H.size → AX q → A0 q)
    (kx : ∀ (E : String) (ce : Cell) (q9 : Addr) (u : SX) (t : State) (H1 : Heap) (locs1 : List Loc), t.heap = H1 → s.vm.Alike t.vm → px u → BX E u t → H.size ≤ H1.size → (∀ q : Nat, q < H.size → ¬ AX q → H1[q]? = H[q]?) → va_S A0 H0 H1 locs1 → H1[q9]? = some ce → ce.vm = .none → s.vm.findClass E = some ce.cls → vx_W p l e R s m args below meth c H1 locs1 (cells + mc) (slots + ms) Q (F0 m pc ls rest) q9)
    (kk : ∀ (u : S) (ra : Nat) (t : State) (H1 : Heap) (locs1 : List Loc), t.heap = H1 → s.vm.Alike t.vm → post u → B u ra t → H.size ≤ H1.size → (∀ q : Nat, q < H.size → ¬ A1 q → H1[q]? = H[q]?) → va_S A0 H0 H1 locs1 → W p l e R s m args below meth c H1 locs1 (cells + mc) (slots + ms) Q (F0 m (pc + 3) ls (.ref ra :: rest))) : W p l e R s m args below meth c H locs cells slots Q (F0 m pc ls st0) := by
  intro T hT X
  rcases hr T hT X with ⟨v, st₀, t, T', L, h0, X', hL, e1, e2, ⟨⟨u, ra, hv, hp, hb⟩, hF⟩, st⟩ | ⟨q, st₀, t, T', L, E, ce, h0, X', hL, e1, e2, ⟨u, hp, hb, hF⟩, hce, hcv, hcl, st⟩
  · cases hv
    obtain ⟨k1, k2, k3⟩ := vx_keep h0 e1 hS hA hf hL hF
    obtain ⟨t2, a1, b1⟩ := kk u ra t T'.heap (locs ++ L) e1.symm (by rw [← e2]; exact X'.warmed.alike) hp hb k1 k2 k3 T' rfl X'
    exact ⟨t2, st t2 a1, b1⟩
  · obtain ⟨k1, k2, k3⟩ := vx_keep h0 e1 hS hAX hf hL hF
    obtain ⟨t2, a1, b1⟩ := kx E ce q u t T'.heap (locs ++ L) e1.symm (by rw [← e2]; exact X'.warmed.alike) hp hb k1 k2 k3 (by rw [e1]; exact hce) hcv hcl T' rfl X'
    exact ⟨t2, st.trans a1, b1⟩
end VXR
section XCALL
variable {p : Program} {l : Launch} {e : Env} {R : Room} {s : State} {m : MethodId} {args : Array Value} {below : List Frame} {meth : Method} {c : Code} {cells slots : Nat} {Q : State → Prop} {cc : ByteArray} {nL : Nat} {own : String} {Ts : List Cond} {D : va_G} {tys : List (ClassId × FieldType)} {A : Nat → Prop} {ret : Option FieldType} {pc : Nat} {lv : List (Nat × Value)} {st : List Value} {ws : va_W}
theorem xPre.at {H : Heap} {locs : List Loc} (C : xC p s m args meth c cc nL own Ts D tys A ret) (hE : xE A s) (hP : va_P D vwCl ws H) (hD : va_D A ws) (hS : va_S A s.heap H locs) : ∀ U : State, U.heap = H → s.WarmedH U.vm → xPre D tys A ws U := fun U hU hW =>
  ⟨fun q hq => C.2.2.2.2.2.2.1 q (Nat.le_trans hS.1 (hU ▸ hq)), hU ▸ hP, va_K.moved hW.alike C.2.2.2.2.2.1, hD, hE.at hS hU hW⟩
theorem xPost.at {H : Heap} (C : xC p s m args meth c cc nL own Ts D tys A ret) (hP : va_P D vwCl ws H) (hD : va_D A ws) {t : State} (ht : t.heap = H) (hW : s.vm.Alike t.vm) : xPost D tys A ws t := ⟨ht ▸ hP, va_K.moved hW C.2.2.2.2.2.1, hD⟩
/-- a method's contract out of its walk -/
theorem x_met {y : MethodName} {ws' : List Cond} {rm : Room} {av : List Value} {mc ms : Nat} {Qc : Array Value → State → Outcome → State → Prop} (hy : plainName y.cls = true) (hown : y.cls = own) (hw : Ts = Cond.code y cc nL ret :: ws') (hlen : (lg_sl av).length ≤ nL) (hcat : (lv_args 0 av).all (fun q => q.2.category == 1) = true)
    (body : ∀ p e s m below meth c, meth.name = y.name → xC p s m av.toArray meth c cc nL own Ts D tys A ret → xE A s → xA p l e rm s m av.toArray below meth c D A nL 0 0 (MQ below Qc av.toArray s mc ms A) 0 (lv_args 0 av) [] ws) : Met l y Ts rm (va_Pc av (xPre D tys A ws)) Qc mc ms A := by
  refine Met.ofW (cc := cc) (maxL := nL) (ret := ret) hy hw ?_
  intro p e s m args below meth c s₁ B hml hv
  obtain ⟨rfl, hA, hP, hK, hD, hE⟩ := hv
  have hl := lv_entry av (n := nL) hlen
  rw [lg_entry_eq]
  exact body p e s m below meth c (name_of_methodNamed B.named B.method).1 ⟨B.exec, B.bytes, hml, by rw [← hown]; exact findClass_of_methodNamed B.named, atoms_spec (ws := Ts) B.pre, hK, hA, B.notSynchronized, B.returns⟩ hE s.heap [] _ hP hD va_S.rf (lvx.of hl hcat)
theorem x_metX {y : MethodName} {ws' : List Cond} {rm : Room} {av : List Value} {mc ms : Nat} {Qc : Array Value → State → Outcome → State → Prop} {XC : String → State → State → Prop} (hy : plainName y.cls = true) (hown : y.cls = own) (hw : Ts = Cond.code y cc nL ret :: ws') (hlen : (lg_sl av).length ≤ nL) (hcat : (lv_args 0 av).all (fun q => q.2.category == 1) = true)
    (body : ∀ p e s m below meth c, (∀ x ∈ c.exceptionTable.toList, False) → xC p s m av.toArray meth c cc nL own Ts D tys A ret → xE A s → xA p l e rm s m av.toArray below meth c D A nL 0 0 (vx_MQ below Qc XC av.toArray s mc ms A) 0 (lv_args 0 av) [] ws) : vx_Met l y Ts rm (va_Pc av (xPre D tys A ws)) Qc XC mc ms A := by
  refine vx_ofW (cc := cc) (maxL := nL) (ret := ret) hy hw ?_
  intro p e s m args below meth c s₁ B hml hout hv
  obtain ⟨rfl, hA, hP, hK, hD, hE⟩ := hv
  have hl := lv_entry av (n := nL) hlen
  rw [lg_entry_eq]
  exact body p e s m below meth c hout ⟨B.exec, B.bytes, hml, by rw [← hown]; exact findClass_of_methodNamed B.named, atoms_spec (ws := Ts) B.pre, hK, hA, B.notSynchronized, B.returns⟩ hE s.heap [] _ hP hD va_S.rf (lvx.of hl hcat)

theorem x_iret {σ : Type} {Wf : σ → va_W} {post : Int32 → σ → Prop} {u : σ}  {v : Int32} {mc ms : Nat} (C : xC p s m args meth c cc nL own Ts D tys A (some .int)) (hd : decode cc pc = .ok (.ireturn, 1)) (hc : cells ≤ mc ∧ slots ≤ ms)  (hp : post v u) : xA p l e R s m args below meth c D A nL cells slots (MQ below (va_Qi post (fun u t => xPost D tys A (Wf u) t) A) args s mc ms A) pc lv [.int v] (Wf u) := fun H locs ls hP hD hS hl =>
  W.widen hc.1 hc.2 (W.iret (v := v) C.1 C.2.1 C.2.2.2.2.2.2.2.2 (fun t ht hW => ⟨⟨v, u, rfl, hp, xPost.at C hP hD ht hW.alike⟩, hS.F ht⟩) hS.2.2 hd C.2.2.2.2.2.2.2.1)
theorem x_iretX {σ : Type} {Wf : σ → va_W} {post : Int32 → σ → Prop} {u : σ}  {v : Int32} {mc ms : Nat} {XC : String → State → State → Prop} (C : xC p s m args meth c cc nL own Ts D tys A (some .int)) (hd : decode cc pc = .ok (.ireturn, 1)) (hc : cells ≤ mc ∧ slots ≤ ms)  (hp : post v u) : xA p l e R s m args below meth c D A nL cells slots (vx_MQ below (va_Qi post (fun u t => xPost D tys A (Wf u) t) A) XC args s mc ms A) pc lv [.int v] (Wf u) := fun H locs ls hP hD hS hl =>
  W.widen hc.1 hc.2 (vx_ret (W.iret (v := v) C.1 C.2.1 C.2.2.2.2.2.2.2.2 (fun t ht hW => ⟨⟨v, u, rfl, hp, xPost.at C hP hD ht hW.alike⟩, hS.F ht⟩) hS.2.2 hd C.2.2.2.2.2.2.2.1))
theorem x_zret {σ : Type} {Wf : σ → va_W} {post : Int32 → σ → Prop} {u : σ}  {v : Int32} {mc ms : Nat} (C : xC p s m args meth c cc nL own Ts D tys A (some .boolean)) (hd : decode cc pc = .ok (.ireturn, 1)) (hc : cells ≤ mc ∧ slots ≤ ms) (hn : narrow .boolean (.int v) = .int v) (hp : post v u) : xA p l e R s m args below meth c D A nL cells slots (MQ below (va_Qi post (fun u t => xPost D tys A (Wf u) t) A) args s mc ms A) pc lv [.int v] (Wf u) := fun H locs ls hP hD hS hl =>
  W.widen hc.1 hc.2 (W.zret (v := v) C.1 C.2.1 C.2.2.2.2.2.2.2.2 hn (fun t ht hW => ⟨⟨v, u, rfl, hp, xPost.at C hP hD ht hW.alike⟩, hS.F ht⟩) hS.2.2 hd C.2.2.2.2.2.2.2.1)
theorem x_zretX {σ : Type} {Wf : σ → va_W} {post : Int32 → σ → Prop} {u : σ}  {v : Int32} {mc ms : Nat} {XC : String → State → State → Prop} (C : xC p s m args meth c cc nL own Ts D tys A (some .boolean)) (hd : decode cc pc = .ok (.ireturn, 1)) (hc : cells ≤ mc ∧ slots ≤ ms) (hn : narrow .boolean (.int v) = .int v) (hp : post v u) : xA p l e R s m args below meth c D A nL cells slots (vx_MQ below (va_Qi post (fun u t => xPost D tys A (Wf u) t) A) XC args s mc ms A) pc lv [.int v] (Wf u) := fun H locs ls hP hD hS hl =>
  W.widen hc.1 hc.2 (vx_ret (W.zret (v := v) C.1 C.2.1 C.2.2.2.2.2.2.2.2 hn (fun t ht hW => ⟨⟨v, u, rfl, hp, xPost.at C hP hD ht hW.alike⟩, hS.F ht⟩) hS.2.2 hd C.2.2.2.2.2.2.2.1))
theorem x_vret {σ : Type} {Wf : σ → va_W} {post : σ → Prop} {u : σ}   {mc ms : Nat} (C : xC p s m args meth c cc nL own Ts D tys A none) (hd : decode cc pc = .ok (.return_, 1)) (hc : cells ≤ mc ∧ slots ≤ ms)  (hp : post u) : xA p l e R s m args below meth c D A nL cells slots (MQ below (va_Qv post (fun u t => xPost D tys A (Wf u) t) A) args s mc ms A) pc lv [] (Wf u) := fun H locs ls hP hD hS hl =>
  W.widen hc.1 hc.2 (W.vret C.1 C.2.1 C.2.2.2.2.2.2.2.2 (fun t ht hW => ⟨⟨u, rfl, hp, xPost.at C hP hD ht hW.alike⟩, hS.F ht⟩) hS.2.2 hd C.2.2.2.2.2.2.2.1)
theorem x_vretX {σ : Type} {Wf : σ → va_W} {post : σ → Prop} {u : σ}   {mc ms : Nat} {XC : String → State → State → Prop} (C : xC p s m args meth c cc nL own Ts D tys A none) (hd : decode cc pc = .ok (.return_, 1)) (hc : cells ≤ mc ∧ slots ≤ ms)  (hp : post u) : xA p l e R s m args below meth c D A nL cells slots (vx_MQ below (va_Qv post (fun u t => xPost D tys A (Wf u) t) A) XC args s mc ms A) pc lv [] (Wf u) := fun H locs ls hP hD hS hl =>
  W.widen hc.1 hc.2 (vx_ret (W.vret C.1 C.2.1 C.2.2.2.2.2.2.2.2 (fun t ht hW => ⟨⟨u, rfl, hp, xPost.at C hP hD ht hW.alike⟩, hS.F ht⟩) hS.2.2 hd C.2.2.2.2.2.2.2.1))
theorem x_rret {σ : Type} {Wf : σ → va_W} {post : σ → Prop} {u : σ} {B : σ → Nat → Prop} {v : Nat} {rt : FieldType} {mc ms : Nat} (C : xC p s m args meth c cc nL own Ts D tys A (some rt)) (hd : decode cc pc = .ok (.areturn, 1)) (hc : cells ≤ mc ∧ slots ≤ ms) (hrt : (∃ n, rt = .object n) ∨ ∃ t, rt = .array t) (hB : B u v) (hp : post u) : xA p l e R s m args below meth c D A nL cells slots (MQ below (va_Qr post (fun u v t => B u v ∧ xPost D tys A (Wf u) t) A) args s mc ms A) pc lv [.ref v] (Wf u) := fun H locs ls hP hD hS hl =>
  W.widen hc.1 hc.2 (W.aret (v := .ref v) C.1 C.2.1 C.2.2.2.2.2.2.2.2 hrt (Or.inr ⟨v, rfl⟩) (fun t ht hW => ⟨⟨u, v, rfl, hp, hB, xPost.at C hP hD ht hW.alike⟩, hS.F ht⟩) hS.2.2 hd C.2.2.2.2.2.2.2.1)
theorem x_rretX {σ : Type} {Wf : σ → va_W} {post : σ → Prop} {u : σ} {B : σ → Nat → Prop} {v : Nat} {rt : FieldType} {mc ms : Nat} {XC : String → State → State → Prop} (C : xC p s m args meth c cc nL own Ts D tys A (some rt)) (hd : decode cc pc = .ok (.areturn, 1)) (hc : cells ≤ mc ∧ slots ≤ ms) (hrt : (∃ n, rt = .object n) ∨ ∃ t, rt = .array t) (hB : B u v) (hp : post u) : xA p l e R s m args below meth c D A nL cells slots (vx_MQ below (va_Qr post (fun u v t => B u v ∧ xPost D tys A (Wf u) t) A) XC args s mc ms A) pc lv [.ref v] (Wf u) := fun H locs ls hP hD hS hl =>
  W.widen hc.1 hc.2 (vx_ret (W.aret (v := .ref v) C.1 C.2.1 C.2.2.2.2.2.2.2.2 hrt (Or.inr ⟨v, rfl⟩) (fun t ht hW => ⟨⟨u, v, rfl, hp, hB, xPost.at C hP hD ht hW.alike⟩, hS.F ht⟩) hS.2.2 hd C.2.2.2.2.2.2.2.1))
theorem x_callVi {σ : Type} {Wf : σ → va_W} {post : Int32 → σ → Prop}  {b : Nat}  {As : List Value} {Cn : String} {index n maxL' mc ms : Nat} {y : MethodName} {bytes : ByteArray} {ret' : Option FieldType} {ws' : List Cond} {rm : Room} {st0 : List Value} (C : xC p s m args meth c cc nL own Ts D tys A ret) (hE : xE A s) (hM : Met l y ws' rm (va_Pc (.ref b :: As) (xPre D tys A ws)) (va_Qi post (fun u t => xPost D tys A (Wf u) t) A) mc ms A) (cw : CallW R s args own Cn index y bytes maxL' ret' ws' rm mc ms n) {ci : Nat} {fs : List Value} {r0 : vw_C} (q0 : Nat) (he : ws[q0]? = some (b, .inr (ci, fs))) (hcl : vwCl[ci]? = some r0) (hr0 : r0.1 = Cn) (hn : As.length = n) (hst : st0 = As.reverse ++ .ref b :: st) (hW : (st.map fun v => v.category).sum ≤ 8) (hd : decode cc pc = .ok (.invokevirtual index, 3)) (hf : cells + mc ≤ R.cells ∧ slots + ms ≤ R.slots)
    (kk : ∀ (r : Int32) (u : σ), post r u → xA p l e R s m args below meth c D A nL (cells + mc) (slots + ms) Q (pc + 3) lv (.int r :: st) (Wf u)) : xA p l e R s m args below meth c D A nL cells slots Q pc lv st0 ws := by
  subst hst
  intro H locs ls hP hD hS hl
  exact va_calli (va_runV (As := As) (rest := st) ⟨C.1, C.2.1, C.2.2.1, C.2.2.2.1, C.2.2.2.2.1⟩ hM cw ⟨xPre.blind, by have h9 := va_recv C.2.2.2.2.2.1 hP hcl he; rw [hr0] at h9; exact h9, fun U hU hW => ⟨rfl, xPre.at C hE hP hD hS U hU hW⟩⟩ rfl hn hl.1 rfl (lv_room hW) hd hf) hS (fun q _ h => h) (fun q h => h) (fun r u t H1 locs1 ht hvm hp hB hz hk hS1 => kk r u hp H1 locs1 ls (ht ▸ hB.1) hB.2.2 hS1 hl)
theorem x_callVv {σ : Type} {Wf : σ → va_W} {post : σ → Prop}  {b : Nat}  {As : List Value} {Cn : String} {index n maxL' mc ms : Nat} {y : MethodName} {bytes : ByteArray} {ret' : Option FieldType} {ws' : List Cond} {rm : Room} {st0 : List Value} (C : xC p s m args meth c cc nL own Ts D tys A ret) (hE : xE A s) (hM : Met l y ws' rm (va_Pc (.ref b :: As) (xPre D tys A ws)) (va_Qv post (fun u t => xPost D tys A (Wf u) t) A) mc ms A) (cw : CallW R s args own Cn index y bytes maxL' ret' ws' rm mc ms n) {ci : Nat} {fs : List Value} {r0 : vw_C} (q0 : Nat) (he : ws[q0]? = some (b, .inr (ci, fs))) (hcl : vwCl[ci]? = some r0) (hr0 : r0.1 = Cn) (hn : As.length = n) (hst : st0 = As.reverse ++ .ref b :: st) (hW : (st.map fun v => v.category).sum ≤ 8) (hd : decode cc pc = .ok (.invokevirtual index, 3)) (hf : cells + mc ≤ R.cells ∧ slots + ms ≤ R.slots)
    (kk : ∀ (u : σ), post u → xA p l e R s m args below meth c D A nL (cells + mc) (slots + ms) Q (pc + 3) lv st (Wf u)) : xA p l e R s m args below meth c D A nL cells slots Q pc lv st0 ws := by
  subst hst
  intro H locs ls hP hD hS hl
  exact va_callv (va_runV (As := As) (rest := st) ⟨C.1, C.2.1, C.2.2.1, C.2.2.2.1, C.2.2.2.2.1⟩ hM cw ⟨xPre.blind, by have h9 := va_recv C.2.2.2.2.2.1 hP hcl he; rw [hr0] at h9; exact h9, fun U hU hW => ⟨rfl, xPre.at C hE hP hD hS U hU hW⟩⟩ rfl hn hl.1 rfl (lv_room hW) hd hf) hS (fun q _ h => h) (fun q h => h) (fun u t H1 locs1 ht hvm hp hB hz hk hS1 => kk u hp H1 locs1 ls (ht ▸ hB.1) hB.2.2 hS1 hl)
theorem x_callVr {σ : Type} {Wf : σ → va_W} {post : σ → Prop} {B : σ → Nat → Prop} {b : Nat}  {As : List Value} {Cn : String} {index n maxL' mc ms : Nat} {y : MethodName} {bytes : ByteArray} {ret' : Option FieldType} {ws' : List Cond} {rm : Room} {st0 : List Value} (C : xC p s m args meth c cc nL own Ts D tys A ret) (hE : xE A s) (hM : Met l y ws' rm (va_Pc (.ref b :: As) (xPre D tys A ws)) (va_Qr post (fun u v t => B u v ∧ xPost D tys A (Wf u) t) A) mc ms A) (cw : CallW R s args own Cn index y bytes maxL' ret' ws' rm mc ms n) {ci : Nat} {fs : List Value} {r0 : vw_C} (q0 : Nat) (he : ws[q0]? = some (b, .inr (ci, fs))) (hcl : vwCl[ci]? = some r0) (hr0 : r0.1 = Cn) (hn : As.length = n) (hst : st0 = As.reverse ++ .ref b :: st) (hW : (st.map fun v => v.category).sum ≤ 8) (hd : decode cc pc = .ok (.invokevirtual index, 3)) (hf : cells + mc ≤ R.cells ∧ slots + ms ≤ R.slots)
    (kk : ∀ (u : σ) (v : Nat), post u → B u v → xA p l e R s m args below meth c D A nL (cells + mc) (slots + ms) Q (pc + 3) lv (.ref v :: st) (Wf u)) : xA p l e R s m args below meth c D A nL cells slots Q pc lv st0 ws := by
  subst hst
  intro H locs ls hP hD hS hl
  exact va_callr (va_runV (As := As) (rest := st) ⟨C.1, C.2.1, C.2.2.1, C.2.2.2.1, C.2.2.2.2.1⟩ hM cw ⟨xPre.blind, by have h9 := va_recv C.2.2.2.2.2.1 hP hcl he; rw [hr0] at h9; exact h9, fun U hU hW => ⟨rfl, xPre.at C hE hP hD hS U hU hW⟩⟩ rfl hn hl.1 rfl (lv_room hW) hd hf) hS (fun q _ h => h) (fun q h => h) (fun u v t H1 locs1 ht hvm hp hB hz hk hS1 => kk u v hp hB.1 H1 locs1 ls (ht ▸ hB.2.1) hB.2.2.2 hS1 hl)
theorem x_callSi {σ : Type} {Wf : σ → va_W} {post : Int32 → σ → Prop}    {As : List Value}  {index n maxL' mc ms : Nat} {y : MethodName} {bytes : ByteArray} {ret' : Option FieldType} {ws' : List Cond} {rm : Room} {st0 : List Value} (C : xC p s m args meth c cc nL own Ts D tys A ret) (hE : xE A s) (hM : Met l y ws' rm (va_Pc (As) (xPre D tys A ws)) (va_Qi post (fun u t => xPost D tys A (Wf u) t) A) mc ms A) (cw : CallB R s args own index y bytes maxL' ret' ws' rm mc ms n ∧ (Cond.static y).before args s = true)  (hn : As.length = n) (hst : st0 = As.reverse ++ st) (hW : (st.map fun v => v.category).sum ≤ 8) (hd : decode cc pc = .ok (.invokestatic index, 3)) (hf : cells + mc ≤ R.cells ∧ slots + ms ≤ R.slots)
    (kk : ∀ (r : Int32) (u : σ), post r u → xA p l e R s m args below meth c D A nL (cells + mc) (slots + ms) Q (pc + 3) lv (.int r :: st) (Wf u)) : xA p l e R s m args below meth c D A nL cells slots Q pc lv st0 ws := by
  subst hst
  intro H locs ls hP hD hS hl
  exact va_calli (va_runS (As := As) (rest := st) ⟨C.1, C.2.1, C.2.2.1, C.2.2.2.1, C.2.2.2.2.1⟩ hM cw ⟨xPre.blind, fun U hU hW => ⟨rfl, xPre.at C hE hP hD hS U hU hW⟩⟩ rfl hn hl.1 rfl (lv_room hW) hd hf) hS (fun q _ h => h) (fun q h => h) (fun r u t H1 locs1 ht hvm hp hB hz hk hS1 => kk r u hp H1 locs1 ls (ht ▸ hB.1) hB.2.2 hS1 hl)
theorem x_callSv {σ : Type} {Wf : σ → va_W} {post : σ → Prop}    {As : List Value}  {index n maxL' mc ms : Nat} {y : MethodName} {bytes : ByteArray} {ret' : Option FieldType} {ws' : List Cond} {rm : Room} {st0 : List Value} (C : xC p s m args meth c cc nL own Ts D tys A ret) (hE : xE A s) (hM : Met l y ws' rm (va_Pc (As) (xPre D tys A ws)) (va_Qv post (fun u t => xPost D tys A (Wf u) t) A) mc ms A) (cw : CallB R s args own index y bytes maxL' ret' ws' rm mc ms n ∧ (Cond.static y).before args s = true)  (hn : As.length = n) (hst : st0 = As.reverse ++ st) (hW : (st.map fun v => v.category).sum ≤ 8) (hd : decode cc pc = .ok (.invokestatic index, 3)) (hf : cells + mc ≤ R.cells ∧ slots + ms ≤ R.slots)
    (kk : ∀ (u : σ), post u → xA p l e R s m args below meth c D A nL (cells + mc) (slots + ms) Q (pc + 3) lv st (Wf u)) : xA p l e R s m args below meth c D A nL cells slots Q pc lv st0 ws := by
  subst hst
  intro H locs ls hP hD hS hl
  exact va_callv (va_runS (As := As) (rest := st) ⟨C.1, C.2.1, C.2.2.1, C.2.2.2.1, C.2.2.2.2.1⟩ hM cw ⟨xPre.blind, fun U hU hW => ⟨rfl, xPre.at C hE hP hD hS U hU hW⟩⟩ rfl hn hl.1 rfl (lv_room hW) hd hf) hS (fun q _ h => h) (fun q h => h) (fun u t H1 locs1 ht hvm hp hB hz hk hS1 => kk u hp H1 locs1 ls (ht ▸ hB.1) hB.2.2 hS1 hl)
theorem x_callSr {σ : Type} {Wf : σ → va_W} {post : σ → Prop} {B : σ → Nat → Prop}   {As : List Value}  {index n maxL' mc ms : Nat} {y : MethodName} {bytes : ByteArray} {ret' : Option FieldType} {ws' : List Cond} {rm : Room} {st0 : List Value} (C : xC p s m args meth c cc nL own Ts D tys A ret) (hE : xE A s) (hM : Met l y ws' rm (va_Pc (As) (xPre D tys A ws)) (va_Qr post (fun u v t => B u v ∧ xPost D tys A (Wf u) t) A) mc ms A) (cw : CallB R s args own index y bytes maxL' ret' ws' rm mc ms n ∧ (Cond.static y).before args s = true)  (hn : As.length = n) (hst : st0 = As.reverse ++ st) (hW : (st.map fun v => v.category).sum ≤ 8) (hd : decode cc pc = .ok (.invokestatic index, 3)) (hf : cells + mc ≤ R.cells ∧ slots + ms ≤ R.slots)
    (kk : ∀ (u : σ) (v : Nat), post u → B u v → xA p l e R s m args below meth c D A nL (cells + mc) (slots + ms) Q (pc + 3) lv (.ref v :: st) (Wf u)) : xA p l e R s m args below meth c D A nL cells slots Q pc lv st0 ws := by
  subst hst
  intro H locs ls hP hD hS hl
  exact va_callr (va_runS (As := As) (rest := st) ⟨C.1, C.2.1, C.2.2.1, C.2.2.2.1, C.2.2.2.2.1⟩ hM cw ⟨xPre.blind, fun U hU hW => ⟨rfl, xPre.at C hE hP hD hS U hU hW⟩⟩ rfl hn hl.1 rfl (lv_room hW) hd hf) hS (fun q _ h => h) (fun q h => h) (fun u v t H1 locs1 ht hvm hp hB hz hk hS1 => kk u v hp hB.1 H1 locs1 ls (ht ▸ hB.2.1) hB.2.2.2 hS1 hl)
theorem x_callIv {σ : Type} {Wf : σ → va_W} {post : σ → Prop}  {b : Nat}  {As : List Value}  {index n maxL' mc ms : Nat} {y : MethodName} {bytes : ByteArray} {ret' : Option FieldType} {ws' : List Cond} {rm : Room} {st0 : List Value} (C : xC p s m args meth c cc nL own Ts D tys A ret) (hE : xE A s) (hM : Met l y ws' rm (va_Pc (.ref b :: As) (xPre D tys A ws)) (va_Qv post (fun u t => xPost D tys A (Wf u) t) A) mc ms A) (cw : CallB R s args own index y bytes maxL' none ws' rm mc ms n ∧ y.name = "<init>" ∧ (Cond.instanceMethod y).before args s = true)  (hn : As.length = n) (hst : st0 = As.reverse ++ .ref b :: st) (hW : (st.map fun v => v.category).sum ≤ 8) (hd : decode cc pc = .ok (.invokespecial index, 3)) (hf : cells + mc ≤ R.cells ∧ slots + ms ≤ R.slots)
    (kk : ∀ (u : σ), post u → xA p l e R s m args below meth c D A nL (cells + mc) (slots + ms) Q (pc + 3) lv st (Wf u)) : xA p l e R s m args below meth c D A nL cells slots Q pc lv st0 ws := by
  subst hst
  intro H locs ls hP hD hS hl
  exact va_callv (va_runI (As := As) (rest := st) ⟨C.1, C.2.1, C.2.2.1, C.2.2.2.1, C.2.2.2.2.1⟩ hM cw ⟨xPre.blind, fun U hU hW => ⟨rfl, xPre.at C hE hP hD hS U hU hW⟩⟩ rfl hn hl.1 rfl (lv_room hW) hd hf) hS (fun q _ h => h) (fun q h => h) (fun u t H1 locs1 ht hvm hp hB hz hk hS1 => kk u hp H1 locs1 ls (ht ▸ hB.1) hB.2.2 hS1 hl)
theorem x_callNi {σ : Type} {Wf : σ → va_W} {post : Int32 → σ → Prop}   {host : String} {As : List Value}  {index n maxL' mc ms : Nat} {y : MethodName} {bytes : ByteArray} {ret' : Option FieldType} {ws' : List Cond} {rm : Room} {st0 : List Value} (C : xC p s m args meth c cc nL own Ts D tys A ret) (hE : xE A s) (hM : Met l y ws' rm (va_Pc (As) (xPre D tys A ws)) (va_Qi post (fun u t => xPost D tys A (Wf u) t) A) mc ms A) (cw : va_CN R s args own index y host bytes maxL' ret' ws' rm mc ms n ∧ (Cond.static y).before args s = true ∧ True)  (hn : As.length = n) (hst : st0 = As.reverse ++ st) (hW : (st.map fun v => v.category).sum ≤ 8) (hd : decode cc pc = .ok (.invokestatic index, 3)) (hf : cells + mc ≤ R.cells ∧ slots + ms ≤ R.slots)
    (kk : ∀ (r : Int32) (u : σ), post r u → xA p l e R s m args below meth c D A nL (cells + mc) (slots + ms) Q (pc + 3) lv (.int r :: st) (Wf u)) : xA p l e R s m args below meth c D A nL cells slots Q pc lv st0 ws := by
  subst hst
  intro H locs ls hP hD hS hl
  exact va_calli (va_runSN (As := As) (rest := st) ⟨C.1, C.2.1, C.2.2.1, C.2.2.2.1, C.2.2.2.2.1⟩ hM cw ⟨xPre.blind, fun U hU hW => ⟨rfl, xPre.at C hE hP hD hS U hU hW⟩⟩ rfl hn hl.1 rfl (lv_room hW) hd hf) hS (fun q _ h => h) (fun q h => h) (fun r u t H1 locs1 ht hvm hp hB hz hk hS1 => kk r u hp H1 locs1 ls (ht ▸ hB.1) hB.2.2 hS1 hl)
theorem x_callViK {σ : Type} {Wf : σ → va_W} {post : Int32 → σ → Prop}  {b : Nat} {As : List Value} {Cn : String} {index n maxL' mc ms : Nat} {y : MethodName} {bytes : ByteArray} {ret' : Option FieldType} {ws' : List Cond} {rm : Room} {st0 : List Value} {ex : Option String} (C : xC p s m args meth c cc nL own Ts D tys A ret) (hE : xE A s) (hM : vx_Met l y ws' rm (va_Pc (.ref b :: As) (xPre D tys A ws)) (va_Qi post (fun u t => xPost D tys A (Wf u) t) A) (xX D tys A ws ex) mc ms A) (cw : CallW R s args own Cn index y bytes maxL' ret' ws' rm mc ms n) {ci : Nat} {fs : List Value} {r0 : vw_C} (q0 : Nat) (he : ws[q0]? = some (b, .inr (ci, fs))) (hcl : vwCl[ci]? = some r0) (hr0 : r0.1 = Cn) (hn : As.length = n) (hst : st0 = As.reverse ++ .ref b :: st) (hW : (st.map fun v => v.category).sum ≤ 8) (hd : decode cc pc = .ok (.invokevirtual index, 3)) (hf : cells + mc ≤ R.cells ∧ slots + ms ≤ R.slots)
    (kx : ∀ E, ex = some E → ∀ (H : Heap) (locs : List Loc) (ls : Array Slot) (q9 : Nat) (ce : Cell), va_P D vwCl ws H → va_D A ws → va_S A s.heap H locs → lvx ls nL lv → H[q9]? = some ce → ce.vm = .none → s.vm.findClass E = some ce.cls → vx_W p l e R s m args below meth c H locs (cells + mc) (slots + ms) Q (F0 m pc ls st) q9)
    (kk : ∀ (r : Int32) (u : σ), post r u → xA p l e R s m args below meth c D A nL (cells + mc) (slots + ms) Q (pc + 3) lv (.int r :: st) (Wf u)) : xA p l e R s m args below meth c D A nL cells slots Q pc lv st0 ws := by
  subst hst
  intro H locs ls hP hD hS hl
  exact vx_calli (vx_runV (As := As) (rest := st) ⟨C.1, C.2.1, C.2.2.1, C.2.2.2.1, C.2.2.2.2.1⟩ hM cw ⟨xPre.blind, by have h9 := va_recv C.2.2.2.2.2.1 hP hcl he; rw [hr0] at h9; exact h9, fun U hU hW => ⟨rfl, xPre.at C hE hP hD hS U hU hW⟩⟩ rfl hn hl.1 rfl (lv_room hW) hd hf) hS (fun q _ h => h) (fun q h => h) (fun q _ h => h)
    (fun E ce q9 _ t H1 locs1 ht hvm _ hB hz hk hS1 hce hcv hcl9 => kx E hB.1 H1 locs1 ls q9 ce (ht ▸ hB.2.1) hB.2.2.2 hS1 hl hce hcv hcl9) (fun r u t H1 locs1 ht hvm hp hB hz hk hS1 => kk r u hp H1 locs1 ls (ht ▸ hB.1) hB.2.2 hS1 hl)
theorem x_callViX {σ : Type} {Wf : σ → va_W} {post : Int32 → σ → Prop}  {b : Nat} {As : List Value} {Cn : String} {index n maxL' mc ms : Nat} {y : MethodName} {bytes : ByteArray} {ret' : Option FieldType} {ws' : List Cond} {rm : Room} {st0 : List Value} {ex ex' : Option String} {Qc : Array Value → State → Outcome → State → Prop} {mc' ms' : Nat} (hout : ∀ x ∈ c.exceptionTable.toList, False) (C : xC p s m args meth c cc nL own Ts D tys A ret) (hE : xE A s) (hM : vx_Met l y ws' rm (va_Pc (.ref b :: As) (xPre D tys A ws)) (va_Qi post (fun u t => xPost D tys A (Wf u) t) A) (xX D tys A ws ex) mc ms A) (cw : CallW R s args own Cn index y bytes maxL' ret' ws' rm mc ms n) {ci : Nat} {fs : List Value} {r0 : vw_C} (q0 : Nat) (he : ws[q0]? = some (b, .inr (ci, fs))) (hcl : vwCl[ci]? = some r0) (hr0 : r0.1 = Cn) (hn : As.length = n) (hst : st0 = As.reverse ++ .ref b :: st) (hW : (st.map fun v => v.category).sum ≤ 8) (hd : decode cc pc = .ok (.invokevirtual index, 3)) (hf : cells + mc ≤ R.cells ∧ slots + ms ≤ R.slots) (hm : cells + mc ≤ mc' ∧ slots + ms ≤ ms')
    (hx : ∀ E, ex = some E → ex' = some E)
    (kk : ∀ (r : Int32) (u : σ), post r u → xA p l e R s m args below meth c D A nL (cells + mc) (slots + ms) (vx_MQ below Qc (xX D tys A ws ex') args s mc' ms' A) (pc + 3) lv (.int r :: st) (Wf u)) : xA p l e R s m args below meth c D A nL cells slots (vx_MQ below Qc (xX D tys A ws ex') args s mc' ms' A) pc lv st0 ws :=
  x_callViK C hE hM cw q0 he hcl hr0 hn hst hW hd hf (fun E hex H locs ls q9 ce hP hD hS hl hce hcv hcl9 =>
    vx_out (fun x hx9 => (hout x hx9).elim) C.2.2.2.2.2.2.2.1 hce hcv hcl9 (fun t ht hvm => ⟨(), trivial, ⟨hx E hex, xPost.at C hP hD ht hvm⟩, hS.F ht⟩) hS.2.2 hm.1 hm.2) kk
theorem x_callVvK {σ : Type} {Wf : σ → va_W} {post : σ → Prop}  {b : Nat} {As : List Value} {Cn : String} {index n maxL' mc ms : Nat} {y : MethodName} {bytes : ByteArray} {ret' : Option FieldType} {ws' : List Cond} {rm : Room} {st0 : List Value} {ex : Option String} (C : xC p s m args meth c cc nL own Ts D tys A ret) (hE : xE A s) (hM : vx_Met l y ws' rm (va_Pc (.ref b :: As) (xPre D tys A ws)) (va_Qv post (fun u t => xPost D tys A (Wf u) t) A) (xX D tys A ws ex) mc ms A) (cw : CallW R s args own Cn index y bytes maxL' ret' ws' rm mc ms n) {ci : Nat} {fs : List Value} {r0 : vw_C} (q0 : Nat) (he : ws[q0]? = some (b, .inr (ci, fs))) (hcl : vwCl[ci]? = some r0) (hr0 : r0.1 = Cn) (hn : As.length = n) (hst : st0 = As.reverse ++ .ref b :: st) (hW : (st.map fun v => v.category).sum ≤ 8) (hd : decode cc pc = .ok (.invokevirtual index, 3)) (hf : cells + mc ≤ R.cells ∧ slots + ms ≤ R.slots)
    (kx : ∀ E, ex = some E → ∀ (H : Heap) (locs : List Loc) (ls : Array Slot) (q9 : Nat) (ce : Cell), va_P D vwCl ws H → va_D A ws → va_S A s.heap H locs → lvx ls nL lv → H[q9]? = some ce → ce.vm = .none → s.vm.findClass E = some ce.cls → vx_W p l e R s m args below meth c H locs (cells + mc) (slots + ms) Q (F0 m pc ls st) q9)
    (kk : ∀ (u : σ), post u → xA p l e R s m args below meth c D A nL (cells + mc) (slots + ms) Q (pc + 3) lv st (Wf u)) : xA p l e R s m args below meth c D A nL cells slots Q pc lv st0 ws := by
  subst hst
  intro H locs ls hP hD hS hl
  exact vx_callv (vx_runV (As := As) (rest := st) ⟨C.1, C.2.1, C.2.2.1, C.2.2.2.1, C.2.2.2.2.1⟩ hM cw ⟨xPre.blind, by have h9 := va_recv C.2.2.2.2.2.1 hP hcl he; rw [hr0] at h9; exact h9, fun U hU hW => ⟨rfl, xPre.at C hE hP hD hS U hU hW⟩⟩ rfl hn hl.1 rfl (lv_room hW) hd hf) hS (fun q _ h => h) (fun q h => h) (fun q _ h => h)
    (fun E ce q9 _ t H1 locs1 ht hvm _ hB hz hk hS1 hce hcv hcl9 => kx E hB.1 H1 locs1 ls q9 ce (ht ▸ hB.2.1) hB.2.2.2 hS1 hl hce hcv hcl9) (fun u t H1 locs1 ht hvm hp hB hz hk hS1 => kk u hp H1 locs1 ls (ht ▸ hB.1) hB.2.2 hS1 hl)
theorem x_callVvX {σ : Type} {Wf : σ → va_W} {post : σ → Prop}  {b : Nat} {As : List Value} {Cn : String} {index n maxL' mc ms : Nat} {y : MethodName} {bytes : ByteArray} {ret' : Option FieldType} {ws' : List Cond} {rm : Room} {st0 : List Value} {ex ex' : Option String} {Qc : Array Value → State → Outcome → State → Prop} {mc' ms' : Nat} (hout : ∀ x ∈ c.exceptionTable.toList, False) (C : xC p s m args meth c cc nL own Ts D tys A ret) (hE : xE A s) (hM : vx_Met l y ws' rm (va_Pc (.ref b :: As) (xPre D tys A ws)) (va_Qv post (fun u t => xPost D tys A (Wf u) t) A) (xX D tys A ws ex) mc ms A) (cw : CallW R s args own Cn index y bytes maxL' ret' ws' rm mc ms n) {ci : Nat} {fs : List Value} {r0 : vw_C} (q0 : Nat) (he : ws[q0]? = some (b, .inr (ci, fs))) (hcl : vwCl[ci]? = some r0) (hr0 : r0.1 = Cn) (hn : As.length = n) (hst : st0 = As.reverse ++ .ref b :: st) (hW : (st.map fun v => v.category).sum ≤ 8) (hd : decode cc pc = .ok (.invokevirtual index, 3)) (hf : cells + mc ≤ R.cells ∧ slots + ms ≤ R.slots) (hm : cells + mc ≤ mc' ∧ slots + ms ≤ ms')
    (hx : ∀ E, ex = some E → ex' = some E)
    (kk : ∀ (u : σ), post u → xA p l e R s m args below meth c D A nL (cells + mc) (slots + ms) (vx_MQ below Qc (xX D tys A ws ex') args s mc' ms' A) (pc + 3) lv st (Wf u)) : xA p l e R s m args below meth c D A nL cells slots (vx_MQ below Qc (xX D tys A ws ex') args s mc' ms' A) pc lv st0 ws :=
  x_callVvK C hE hM cw q0 he hcl hr0 hn hst hW hd hf (fun E hex H locs ls q9 ce hP hD hS hl hce hcv hcl9 =>
    vx_out (fun x hx9 => (hout x hx9).elim) C.2.2.2.2.2.2.2.1 hce hcv hcl9 (fun t ht hvm => ⟨(), trivial, ⟨hx E hex, xPost.at C hP hD ht hvm⟩, hS.F ht⟩) hS.2.2 hm.1 hm.2) kk
theorem x_callVrK {σ : Type} {Wf : σ → va_W} {post : σ → Prop} {B : σ → Nat → Prop} {b : Nat} {As : List Value} {Cn : String} {index n maxL' mc ms : Nat} {y : MethodName} {bytes : ByteArray} {ret' : Option FieldType} {ws' : List Cond} {rm : Room} {st0 : List Value} {ex : Option String} (C : xC p s m args meth c cc nL own Ts D tys A ret) (hE : xE A s) (hM : vx_Met l y ws' rm (va_Pc (.ref b :: As) (xPre D tys A ws)) (va_Qr post (fun u v t => B u v ∧ xPost D tys A (Wf u) t) A) (xX D tys A ws ex) mc ms A) (cw : CallW R s args own Cn index y bytes maxL' ret' ws' rm mc ms n) {ci : Nat} {fs : List Value} {r0 : vw_C} (q0 : Nat) (he : ws[q0]? = some (b, .inr (ci, fs))) (hcl : vwCl[ci]? = some r0) (hr0 : r0.1 = Cn) (hn : As.length = n) (hst : st0 = As.reverse ++ .ref b :: st) (hW : (st.map fun v => v.category).sum ≤ 8) (hd : decode cc pc = .ok (.invokevirtual index, 3)) (hf : cells + mc ≤ R.cells ∧ slots + ms ≤ R.slots)
    (kx : ∀ E, ex = some E → ∀ (H : Heap) (locs : List Loc) (ls : Array Slot) (q9 : Nat) (ce : Cell), va_P D vwCl ws H → va_D A ws → va_S A s.heap H locs → lvx ls nL lv → H[q9]? = some ce → ce.vm = .none → s.vm.findClass E = some ce.cls → vx_W p l e R s m args below meth c H locs (cells + mc) (slots + ms) Q (F0 m pc ls st) q9)
    (kk : ∀ (u : σ) (v : Nat), post u → B u v → xA p l e R s m args below meth c D A nL (cells + mc) (slots + ms) Q (pc + 3) lv (.ref v :: st) (Wf u)) : xA p l e R s m args below meth c D A nL cells slots Q pc lv st0 ws := by
  subst hst
  intro H locs ls hP hD hS hl
  exact vx_callr (vx_runV (As := As) (rest := st) ⟨C.1, C.2.1, C.2.2.1, C.2.2.2.1, C.2.2.2.2.1⟩ hM cw ⟨xPre.blind, by have h9 := va_recv C.2.2.2.2.2.1 hP hcl he; rw [hr0] at h9; exact h9, fun U hU hW => ⟨rfl, xPre.at C hE hP hD hS U hU hW⟩⟩ rfl hn hl.1 rfl (lv_room hW) hd hf) hS (fun q _ h => h) (fun q h => h) (fun q _ h => h)
    (fun E ce q9 _ t H1 locs1 ht hvm _ hB hz hk hS1 hce hcv hcl9 => kx E hB.1 H1 locs1 ls q9 ce (ht ▸ hB.2.1) hB.2.2.2 hS1 hl hce hcv hcl9) (fun u v t H1 locs1 ht hvm hp hB hz hk hS1 => kk u v hp hB.1 H1 locs1 ls (ht ▸ hB.2.1) hB.2.2.2 hS1 hl)
theorem x_callVrX {σ : Type} {Wf : σ → va_W} {post : σ → Prop} {B : σ → Nat → Prop} {b : Nat} {As : List Value} {Cn : String} {index n maxL' mc ms : Nat} {y : MethodName} {bytes : ByteArray} {ret' : Option FieldType} {ws' : List Cond} {rm : Room} {st0 : List Value} {ex ex' : Option String} {Qc : Array Value → State → Outcome → State → Prop} {mc' ms' : Nat} (hout : ∀ x ∈ c.exceptionTable.toList, False) (C : xC p s m args meth c cc nL own Ts D tys A ret) (hE : xE A s) (hM : vx_Met l y ws' rm (va_Pc (.ref b :: As) (xPre D tys A ws)) (va_Qr post (fun u v t => B u v ∧ xPost D tys A (Wf u) t) A) (xX D tys A ws ex) mc ms A) (cw : CallW R s args own Cn index y bytes maxL' ret' ws' rm mc ms n) {ci : Nat} {fs : List Value} {r0 : vw_C} (q0 : Nat) (he : ws[q0]? = some (b, .inr (ci, fs))) (hcl : vwCl[ci]? = some r0) (hr0 : r0.1 = Cn) (hn : As.length = n) (hst : st0 = As.reverse ++ .ref b :: st) (hW : (st.map fun v => v.category).sum ≤ 8) (hd : decode cc pc = .ok (.invokevirtual index, 3)) (hf : cells + mc ≤ R.cells ∧ slots + ms ≤ R.slots) (hm : cells + mc ≤ mc' ∧ slots + ms ≤ ms')
    (hx : ∀ E, ex = some E → ex' = some E)
    (kk : ∀ (u : σ) (v : Nat), post u → B u v → xA p l e R s m args below meth c D A nL (cells + mc) (slots + ms) (vx_MQ below Qc (xX D tys A ws ex') args s mc' ms' A) (pc + 3) lv (.ref v :: st) (Wf u)) : xA p l e R s m args below meth c D A nL cells slots (vx_MQ below Qc (xX D tys A ws ex') args s mc' ms' A) pc lv st0 ws :=
  x_callVrK C hE hM cw q0 he hcl hr0 hn hst hW hd hf (fun E hex H locs ls q9 ce hP hD hS hl hce hcv hcl9 =>
    vx_out (fun x hx9 => (hout x hx9).elim) C.2.2.2.2.2.2.2.1 hce hcv hcl9 (fun t ht hvm => ⟨(), trivial, ⟨hx E hex, xPost.at C hP hD ht hvm⟩, hS.F ht⟩) hS.2.2 hm.1 hm.2) kk
theorem x_callSiK {σ : Type} {Wf : σ → va_W} {post : Int32 → σ → Prop}   {As : List Value}  {index n maxL' mc ms : Nat} {y : MethodName} {bytes : ByteArray} {ret' : Option FieldType} {ws' : List Cond} {rm : Room} {st0 : List Value} {ex : Option String} (C : xC p s m args meth c cc nL own Ts D tys A ret) (hE : xE A s) (hM : vx_Met l y ws' rm (va_Pc (As) (xPre D tys A ws)) (va_Qi post (fun u t => xPost D tys A (Wf u) t) A) (xX D tys A ws ex) mc ms A) (cw : CallB R s args own index y bytes maxL' ret' ws' rm mc ms n ∧ (Cond.static y).before args s = true)  (hn : As.length = n) (hst : st0 = As.reverse ++ st) (hW : (st.map fun v => v.category).sum ≤ 8) (hd : decode cc pc = .ok (.invokestatic index, 3)) (hf : cells + mc ≤ R.cells ∧ slots + ms ≤ R.slots)
    (kx : ∀ E, ex = some E → ∀ (H : Heap) (locs : List Loc) (ls : Array Slot) (q9 : Nat) (ce : Cell), va_P D vwCl ws H → va_D A ws → va_S A s.heap H locs → lvx ls nL lv → H[q9]? = some ce → ce.vm = .none → s.vm.findClass E = some ce.cls → vx_W p l e R s m args below meth c H locs (cells + mc) (slots + ms) Q (F0 m pc ls st) q9)
    (kk : ∀ (r : Int32) (u : σ), post r u → xA p l e R s m args below meth c D A nL (cells + mc) (slots + ms) Q (pc + 3) lv (.int r :: st) (Wf u)) : xA p l e R s m args below meth c D A nL cells slots Q pc lv st0 ws := by
  subst hst
  intro H locs ls hP hD hS hl
  exact vx_calli (vx_runS (As := As) (rest := st) ⟨C.1, C.2.1, C.2.2.1, C.2.2.2.1, C.2.2.2.2.1⟩ hM cw ⟨xPre.blind, fun U hU hW => ⟨rfl, xPre.at C hE hP hD hS U hU hW⟩⟩ rfl hn hl.1 rfl (lv_room hW) hd hf) hS (fun q _ h => h) (fun q h => h) (fun q _ h => h)
    (fun E ce q9 _ t H1 locs1 ht hvm _ hB hz hk hS1 hce hcv hcl9 => kx E hB.1 H1 locs1 ls q9 ce (ht ▸ hB.2.1) hB.2.2.2 hS1 hl hce hcv hcl9) (fun r u t H1 locs1 ht hvm hp hB hz hk hS1 => kk r u hp H1 locs1 ls (ht ▸ hB.1) hB.2.2 hS1 hl)
theorem x_callSiX {σ : Type} {Wf : σ → va_W} {post : Int32 → σ → Prop}   {As : List Value}  {index n maxL' mc ms : Nat} {y : MethodName} {bytes : ByteArray} {ret' : Option FieldType} {ws' : List Cond} {rm : Room} {st0 : List Value} {ex ex' : Option String} {Qc : Array Value → State → Outcome → State → Prop} {mc' ms' : Nat} (hout : ∀ x ∈ c.exceptionTable.toList, False) (C : xC p s m args meth c cc nL own Ts D tys A ret) (hE : xE A s) (hM : vx_Met l y ws' rm (va_Pc (As) (xPre D tys A ws)) (va_Qi post (fun u t => xPost D tys A (Wf u) t) A) (xX D tys A ws ex) mc ms A) (cw : CallB R s args own index y bytes maxL' ret' ws' rm mc ms n ∧ (Cond.static y).before args s = true)  (hn : As.length = n) (hst : st0 = As.reverse ++ st) (hW : (st.map fun v => v.category).sum ≤ 8) (hd : decode cc pc = .ok (.invokestatic index, 3)) (hf : cells + mc ≤ R.cells ∧ slots + ms ≤ R.slots) (hm : cells + mc ≤ mc' ∧ slots + ms ≤ ms')
    (hx : ∀ E, ex = some E → ex' = some E)
    (kk : ∀ (r : Int32) (u : σ), post r u → xA p l e R s m args below meth c D A nL (cells + mc) (slots + ms) (vx_MQ below Qc (xX D tys A ws ex') args s mc' ms' A) (pc + 3) lv (.int r :: st) (Wf u)) : xA p l e R s m args below meth c D A nL cells slots (vx_MQ below Qc (xX D tys A ws ex') args s mc' ms' A) pc lv st0 ws :=
  x_callSiK C hE hM cw  hn hst hW hd hf (fun E hex H locs ls q9 ce hP hD hS hl hce hcv hcl9 =>
    vx_out (fun x hx9 => (hout x hx9).elim) C.2.2.2.2.2.2.2.1 hce hcv hcl9 (fun t ht hvm => ⟨(), trivial, ⟨hx E hex, xPost.at C hP hD ht hvm⟩, hS.F ht⟩) hS.2.2 hm.1 hm.2) kk
theorem x_callSvK {σ : Type} {Wf : σ → va_W} {post : σ → Prop}   {As : List Value}  {index n maxL' mc ms : Nat} {y : MethodName} {bytes : ByteArray} {ret' : Option FieldType} {ws' : List Cond} {rm : Room} {st0 : List Value} {ex : Option String} (C : xC p s m args meth c cc nL own Ts D tys A ret) (hE : xE A s) (hM : vx_Met l y ws' rm (va_Pc (As) (xPre D tys A ws)) (va_Qv post (fun u t => xPost D tys A (Wf u) t) A) (xX D tys A ws ex) mc ms A) (cw : CallB R s args own index y bytes maxL' ret' ws' rm mc ms n ∧ (Cond.static y).before args s = true)  (hn : As.length = n) (hst : st0 = As.reverse ++ st) (hW : (st.map fun v => v.category).sum ≤ 8) (hd : decode cc pc = .ok (.invokestatic index, 3)) (hf : cells + mc ≤ R.cells ∧ slots + ms ≤ R.slots)
    (kx : ∀ E, ex = some E → ∀ (H : Heap) (locs : List Loc) (ls : Array Slot) (q9 : Nat) (ce : Cell), va_P D vwCl ws H → va_D A ws → va_S A s.heap H locs → lvx ls nL lv → H[q9]? = some ce → ce.vm = .none → s.vm.findClass E = some ce.cls → vx_W p l e R s m args below meth c H locs (cells + mc) (slots + ms) Q (F0 m pc ls st) q9)
    (kk : ∀ (u : σ), post u → xA p l e R s m args below meth c D A nL (cells + mc) (slots + ms) Q (pc + 3) lv st (Wf u)) : xA p l e R s m args below meth c D A nL cells slots Q pc lv st0 ws := by
  subst hst
  intro H locs ls hP hD hS hl
  exact vx_callv (vx_runS (As := As) (rest := st) ⟨C.1, C.2.1, C.2.2.1, C.2.2.2.1, C.2.2.2.2.1⟩ hM cw ⟨xPre.blind, fun U hU hW => ⟨rfl, xPre.at C hE hP hD hS U hU hW⟩⟩ rfl hn hl.1 rfl (lv_room hW) hd hf) hS (fun q _ h => h) (fun q h => h) (fun q _ h => h)
    (fun E ce q9 _ t H1 locs1 ht hvm _ hB hz hk hS1 hce hcv hcl9 => kx E hB.1 H1 locs1 ls q9 ce (ht ▸ hB.2.1) hB.2.2.2 hS1 hl hce hcv hcl9) (fun u t H1 locs1 ht hvm hp hB hz hk hS1 => kk u hp H1 locs1 ls (ht ▸ hB.1) hB.2.2 hS1 hl)
theorem x_callSvX {σ : Type} {Wf : σ → va_W} {post : σ → Prop}   {As : List Value}  {index n maxL' mc ms : Nat} {y : MethodName} {bytes : ByteArray} {ret' : Option FieldType} {ws' : List Cond} {rm : Room} {st0 : List Value} {ex ex' : Option String} {Qc : Array Value → State → Outcome → State → Prop} {mc' ms' : Nat} (hout : ∀ x ∈ c.exceptionTable.toList, False) (C : xC p s m args meth c cc nL own Ts D tys A ret) (hE : xE A s) (hM : vx_Met l y ws' rm (va_Pc (As) (xPre D tys A ws)) (va_Qv post (fun u t => xPost D tys A (Wf u) t) A) (xX D tys A ws ex) mc ms A) (cw : CallB R s args own index y bytes maxL' ret' ws' rm mc ms n ∧ (Cond.static y).before args s = true)  (hn : As.length = n) (hst : st0 = As.reverse ++ st) (hW : (st.map fun v => v.category).sum ≤ 8) (hd : decode cc pc = .ok (.invokestatic index, 3)) (hf : cells + mc ≤ R.cells ∧ slots + ms ≤ R.slots) (hm : cells + mc ≤ mc' ∧ slots + ms ≤ ms')
    (hx : ∀ E, ex = some E → ex' = some E)
    (kk : ∀ (u : σ), post u → xA p l e R s m args below meth c D A nL (cells + mc) (slots + ms) (vx_MQ below Qc (xX D tys A ws ex') args s mc' ms' A) (pc + 3) lv st (Wf u)) : xA p l e R s m args below meth c D A nL cells slots (vx_MQ below Qc (xX D tys A ws ex') args s mc' ms' A) pc lv st0 ws :=
  x_callSvK C hE hM cw  hn hst hW hd hf (fun E hex H locs ls q9 ce hP hD hS hl hce hcv hcl9 =>
    vx_out (fun x hx9 => (hout x hx9).elim) C.2.2.2.2.2.2.2.1 hce hcv hcl9 (fun t ht hvm => ⟨(), trivial, ⟨hx E hex, xPost.at C hP hD ht hvm⟩, hS.F ht⟩) hS.2.2 hm.1 hm.2) kk
theorem x_callSrK {σ : Type} {Wf : σ → va_W} {post : σ → Prop} {B : σ → Nat → Prop}  {As : List Value}  {index n maxL' mc ms : Nat} {y : MethodName} {bytes : ByteArray} {ret' : Option FieldType} {ws' : List Cond} {rm : Room} {st0 : List Value} {ex : Option String} (C : xC p s m args meth c cc nL own Ts D tys A ret) (hE : xE A s) (hM : vx_Met l y ws' rm (va_Pc (As) (xPre D tys A ws)) (va_Qr post (fun u v t => B u v ∧ xPost D tys A (Wf u) t) A) (xX D tys A ws ex) mc ms A) (cw : CallB R s args own index y bytes maxL' ret' ws' rm mc ms n ∧ (Cond.static y).before args s = true)  (hn : As.length = n) (hst : st0 = As.reverse ++ st) (hW : (st.map fun v => v.category).sum ≤ 8) (hd : decode cc pc = .ok (.invokestatic index, 3)) (hf : cells + mc ≤ R.cells ∧ slots + ms ≤ R.slots)
    (kx : ∀ E, ex = some E → ∀ (H : Heap) (locs : List Loc) (ls : Array Slot) (q9 : Nat) (ce : Cell), va_P D vwCl ws H → va_D A ws → va_S A s.heap H locs → lvx ls nL lv → H[q9]? = some ce → ce.vm = .none → s.vm.findClass E = some ce.cls → vx_W p l e R s m args below meth c H locs (cells + mc) (slots + ms) Q (F0 m pc ls st) q9)
    (kk : ∀ (u : σ) (v : Nat), post u → B u v → xA p l e R s m args below meth c D A nL (cells + mc) (slots + ms) Q (pc + 3) lv (.ref v :: st) (Wf u)) : xA p l e R s m args below meth c D A nL cells slots Q pc lv st0 ws := by
  subst hst
  intro H locs ls hP hD hS hl
  exact vx_callr (vx_runS (As := As) (rest := st) ⟨C.1, C.2.1, C.2.2.1, C.2.2.2.1, C.2.2.2.2.1⟩ hM cw ⟨xPre.blind, fun U hU hW => ⟨rfl, xPre.at C hE hP hD hS U hU hW⟩⟩ rfl hn hl.1 rfl (lv_room hW) hd hf) hS (fun q _ h => h) (fun q h => h) (fun q _ h => h)
    (fun E ce q9 _ t H1 locs1 ht hvm _ hB hz hk hS1 hce hcv hcl9 => kx E hB.1 H1 locs1 ls q9 ce (ht ▸ hB.2.1) hB.2.2.2 hS1 hl hce hcv hcl9) (fun u v t H1 locs1 ht hvm hp hB hz hk hS1 => kk u v hp hB.1 H1 locs1 ls (ht ▸ hB.2.1) hB.2.2.2 hS1 hl)
theorem x_callSrX {σ : Type} {Wf : σ → va_W} {post : σ → Prop} {B : σ → Nat → Prop}  {As : List Value}  {index n maxL' mc ms : Nat} {y : MethodName} {bytes : ByteArray} {ret' : Option FieldType} {ws' : List Cond} {rm : Room} {st0 : List Value} {ex ex' : Option String} {Qc : Array Value → State → Outcome → State → Prop} {mc' ms' : Nat} (hout : ∀ x ∈ c.exceptionTable.toList, False) (C : xC p s m args meth c cc nL own Ts D tys A ret) (hE : xE A s) (hM : vx_Met l y ws' rm (va_Pc (As) (xPre D tys A ws)) (va_Qr post (fun u v t => B u v ∧ xPost D tys A (Wf u) t) A) (xX D tys A ws ex) mc ms A) (cw : CallB R s args own index y bytes maxL' ret' ws' rm mc ms n ∧ (Cond.static y).before args s = true)  (hn : As.length = n) (hst : st0 = As.reverse ++ st) (hW : (st.map fun v => v.category).sum ≤ 8) (hd : decode cc pc = .ok (.invokestatic index, 3)) (hf : cells + mc ≤ R.cells ∧ slots + ms ≤ R.slots) (hm : cells + mc ≤ mc' ∧ slots + ms ≤ ms')
    (hx : ∀ E, ex = some E → ex' = some E)
    (kk : ∀ (u : σ) (v : Nat), post u → B u v → xA p l e R s m args below meth c D A nL (cells + mc) (slots + ms) (vx_MQ below Qc (xX D tys A ws ex') args s mc' ms' A) (pc + 3) lv (.ref v :: st) (Wf u)) : xA p l e R s m args below meth c D A nL cells slots (vx_MQ below Qc (xX D tys A ws ex') args s mc' ms' A) pc lv st0 ws :=
  x_callSrK C hE hM cw  hn hst hW hd hf (fun E hex H locs ls q9 ce hP hD hS hl hce hcv hcl9 =>
    vx_out (fun x hx9 => (hout x hx9).elim) C.2.2.2.2.2.2.2.1 hce hcv hcl9 (fun t ht hvm => ⟨(), trivial, ⟨hx E hex, xPost.at C hP hD ht hvm⟩, hS.F ht⟩) hS.2.2 hm.1 hm.2) kk
theorem x_throw {Qc : Array Value → State → Outcome → State → Prop} {mc ms ik is ic : Nat} {cls text : String} {ex : Option String} (hout : ∀ x ∈ c.exceptionTable.toList, False) (hl : l.stackTraces = false) (C : xC p s m args meth c cc nL RX3 Ts D tys A ret) (hE : xE A s) (hcls : Bundle.fit cls = true)
    (hk : Cond.classLink RX3 ik cls ∈ Ts) (hini : Cond.initialized cls ∈ Ts) (hstr : (is, text) ∈ xEs) (hat : ∀ w ∈ (vx_atS RX3 ic cls ["java/lang/RuntimeException", "java/lang/Exception"]).filter goodWord, w ∈ Ts) (hbad : ∀ w ∈ (vx_atS RX3 ic cls ["java/lang/RuntimeException", "java/lang/Exception"]).filter (fun w => !goodWord w), w ∈ xEw)
    (hgood : ∀ w ∈ Cond.classLink RX3 ik cls :: Cond.initialized cls :: vx_atS RX3 ic cls ["java/lang/RuntimeException", "java/lang/Exception"], vx_ot w = true)
    (d0 : decode cc pc = .ok (.new ik, 3)) (d3 : decode cc (pc + 3) = .ok (.dup, 1)) (d4 : decode cc (pc + 4) = .ok (.ldc is, 2)) (d6 : decode cc (pc + 6) = .ok (.invokespecial ic, 3)) (d9 : decode cc (pc + 9) = .ok (.athrow, 1))
    (hR : 5 < R.frames ∧ (st.map fun v => v.category).sum + 82 ≤ R.locals ∧ cells + 1 ≤ R.cells ∧ slots + 6 ≤ R.slots) (hc : cells + 1 ≤ mc ∧ slots + 6 ≤ ms) (hx : ex = some cls) :
    xA p l e R s m args below meth c D A nL cells slots (vx_MQ below Qc (xX D tys A ws ex) args s mc ms A) pc lv st ws := by
  intro H locs ls hP hD hS hl9
  obtain ⟨sa, hsa⟩ := hE.2.2.1 _ hstr
  have hat9 : ∀ w ∈ vx_atS RX3 ic cls ["java/lang/RuntimeException", "java/lang/Exception"], w.before args s = true := vx_hat (B := xEw) (fun w hw => C.2.2.2.2.1 w (hat w hw)) hbad (fun w hw => va_Nw.use (by
    simp only [xEw, List.mem_cons, List.not_mem_nil, or_false] at hw
    rcases hw with rfl | rfl | rfl | rfl | rfl <;> rfl) (hE.1 w hw))
  exact vx_throwS C.1 C.2.1 hl C.2.2.2.1 hcls (by decide +kernel) (C.2.2.2.2.1 _ hk) (C.2.2.2.2.1 _ hini) hsa hat9 hgood hE.2.2.2.1 hE.2.2.2.2 hS (hl9.1.trans C.2.2.1.symm) d0 d3 d4 d6 d9 (fun x hx9 => (hout x hx9).elim) hR.1 hR.2.1 hR.2.2.1 hR.2.2.2 C.2.2.2.2.2.2.2.1
    (fun t hvm hz hk9 => ⟨(), trivial, ⟨hx, ⟨hP.kept (fun k q hq => hk9 q.1 ((hP k q hq).lt)), va_K.moved hvm C.2.2.2.2.2.1, hD⟩⟩, ⟨Nat.le_trans hS.1 hz, fun q h1 h2 => (hk9 q (Nat.lt_of_lt_of_le h1 hS.1)).trans (hS.2.1 q h1 h2)⟩⟩) hS.2.2 hc.1 hc.2
end XCALL
/-! ===== END calls ===== -/
end
