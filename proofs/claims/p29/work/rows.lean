section
-- ===== PART A: goes FIRST, ahead of the names: the tables' words, and 'selects' of the private methods out of them =====
/-- a private method of a class that the tables say can be made, by its rows of tables_1 -/
def lw_okq (q : MethodName × Nat) : Prop := (q.1.cls ≠ "java/lang/invoke/MethodHandle" ∧ q.1.cls ≠ "java/lang/invoke/VarHandle") ∧ Cond.instantiable q.1.cls q.2 ∈ tables_1 ∧ Cond.privateMethod q.1 ∈ tables_1 ∧ Cond.instanceMethod q.1 ∈ tables_1
theorem lw_p0 : lw_okq (⟨"java/lang/Throwable", "fillInStackTrace", "(I)Ljava/lang/Throwable;"⟩, 6) := ⟨⟨by decide +kernel, by decide +kernel⟩, List.mem_of_getElem? (i := 218) (by decide +kernel), List.mem_of_getElem? (i := 216) (by decide +kernel), List.mem_of_getElem? (i := 217) (by decide +kernel)⟩
theorem lw_p1 : lw_okq (⟨"CellPlanner", "dropFavourite", "(I)V"⟩, 13) := ⟨⟨by decide +kernel, by decide +kernel⟩, List.mem_of_getElem? (i := 13) (by decide +kernel), List.mem_of_getElem? (i := 280) (by decide +kernel), List.mem_of_getElem? (i := 281) (by decide +kernel)⟩
theorem lw_p2 : lw_okq (⟨"CellPlanner", "requireCell", "(I)V"⟩, 13) := ⟨⟨by decide +kernel, by decide +kernel⟩, List.mem_of_getElem? (i := 13) (by decide +kernel), List.mem_of_getElem? (i := 292) (by decide +kernel), List.mem_of_getElem? (i := 293) (by decide +kernel)⟩
theorem lw_p3 : lw_okq (⟨"CellPlanner", "releaseWalkers", "(I)V"⟩, 13) := ⟨⟨by decide +kernel, by decide +kernel⟩, List.mem_of_getElem? (i := 13) (by decide +kernel), List.mem_of_getElem? (i := 312) (by decide +kernel), List.mem_of_getElem? (i := 313) (by decide +kernel)⟩
theorem lw_p4 : lw_okq (⟨"CellPlanner", "passTick", "()V"⟩, 13) := ⟨⟨by decide +kernel, by decide +kernel⟩, List.mem_of_getElem? (i := 13) (by decide +kernel), List.mem_of_getElem? (i := 342) (by decide +kernel), List.mem_of_getElem? (i := 343) (by decide +kernel)⟩
theorem lw_p5 : lw_okq (⟨"CellPlanner$Land", "disturbances", "(II)I"⟩, 13) := ⟨⟨by decide +kernel, by decide +kernel⟩, List.mem_of_getElem? (i := 21) (by decide +kernel), List.mem_of_getElem? (i := 365) (by decide +kernel), List.mem_of_getElem? (i := 366) (by decide +kernel)⟩
theorem lw_p6 : lw_okq (⟨"CellPlanner", "seekCell", "(I)V"⟩, 13) := ⟨⟨by decide +kernel, by decide +kernel⟩, List.mem_of_getElem? (i := 13) (by decide +kernel), List.mem_of_getElem? (i := 369) (by decide +kernel), List.mem_of_getElem? (i := 370) (by decide +kernel)⟩
theorem lw_p7 : lw_okq (⟨"CellPlanner$Land", "couldTake", "(II)Z"⟩, 13) := ⟨⟨by decide +kernel, by decide +kernel⟩, List.mem_of_getElem? (i := 21) (by decide +kernel), List.mem_of_getElem? (i := 377) (by decide +kernel), List.mem_of_getElem? (i := 378) (by decide +kernel)⟩
theorem lw_p8 : lw_okq (⟨"CellPlanner", "loseCell", "(I)V"⟩, 13) := ⟨⟨by decide +kernel, by decide +kernel⟩, List.mem_of_getElem? (i := 13) (by decide +kernel), List.mem_of_getElem? (i := 381) (by decide +kernel), List.mem_of_getElem? (i := 382) (by decide +kernel)⟩
theorem lw_p9 : lw_okq (⟨"CellPlanner", "weighFavourite", "(II)V"⟩, 13) := ⟨⟨by decide +kernel, by decide +kernel⟩, List.mem_of_getElem? (i := 13) (by decide +kernel), List.mem_of_getElem? (i := 385) (by decide +kernel), List.mem_of_getElem? (i := 386) (by decide +kernel)⟩
theorem lw_p10 : lw_okq (⟨"CellPlanner", "handOver", "(III)V"⟩, 13) := ⟨⟨by decide +kernel, by decide +kernel⟩, List.mem_of_getElem? (i := 13) (by decide +kernel), List.mem_of_getElem? (i := 389) (by decide +kernel), List.mem_of_getElem? (i := 390) (by decide +kernel)⟩
theorem lw_p11 : lw_okq (⟨"CellPlanner", "requireWalker", "(I)V"⟩, 13) := ⟨⟨by decide +kernel, by decide +kernel⟩, List.mem_of_getElem? (i := 13) (by decide +kernel), List.mem_of_getElem? (i := 402) (by decide +kernel), List.mem_of_getElem? (i := 403) (by decide +kernel)⟩
theorem lw_p12 : lw_okq (⟨"CellPlanner$Search", "fillWorth", "(IIII)I"⟩, 7) := ⟨⟨by decide +kernel, by decide +kernel⟩, List.mem_of_getElem? (i := 85) (by decide +kernel), List.mem_of_getElem? (i := 466) (by decide +kernel), List.mem_of_getElem? (i := 467) (by decide +kernel)⟩
theorem lw_p13 : lw_okq (⟨"CellPlanner$Search", "keep", "(I)V"⟩, 7) := ⟨⟨by decide +kernel, by decide +kernel⟩, List.mem_of_getElem? (i := 85) (by decide +kernel), List.mem_of_getElem? (i := 479) (by decide +kernel), List.mem_of_getElem? (i := 480) (by decide +kernel)⟩
def lw_privs_1 : List (MethodName × Nat) := [(⟨"java/lang/Throwable", "fillInStackTrace", "(I)Ljava/lang/Throwable;"⟩, 6), (⟨"CellPlanner", "dropFavourite", "(I)V"⟩, 13), (⟨"CellPlanner", "requireCell", "(I)V"⟩, 13), (⟨"CellPlanner", "releaseWalkers", "(I)V"⟩, 13), (⟨"CellPlanner", "passTick", "()V"⟩, 13), (⟨"CellPlanner$Land", "disturbances", "(II)I"⟩, 13), (⟨"CellPlanner", "seekCell", "(I)V"⟩, 13), (⟨"CellPlanner$Land", "couldTake", "(II)Z"⟩, 13), (⟨"CellPlanner", "loseCell", "(I)V"⟩, 13), (⟨"CellPlanner", "weighFavourite", "(II)V"⟩, 13), (⟨"CellPlanner", "handOver", "(III)V"⟩, 13), (⟨"CellPlanner", "requireWalker", "(I)V"⟩, 13), (⟨"CellPlanner$Search", "fillWorth", "(IIII)I"⟩, 7), (⟨"CellPlanner$Search", "keep", "(I)V"⟩, 7)]
theorem lw_r1 : ∀ q ∈ lw_privs_1, lw_okq q := List.forall_mem_cons.mpr ⟨lw_p0, List.forall_mem_cons.mpr ⟨lw_p1, List.forall_mem_cons.mpr ⟨lw_p2, List.forall_mem_cons.mpr ⟨lw_p3, List.forall_mem_cons.mpr ⟨lw_p4, List.forall_mem_cons.mpr ⟨lw_p5, List.forall_mem_cons.mpr ⟨lw_p6, List.forall_mem_cons.mpr ⟨lw_p7, List.forall_mem_cons.mpr ⟨lw_p8, List.forall_mem_cons.mpr ⟨lw_p9, List.forall_mem_cons.mpr ⟨lw_p10, List.forall_mem_cons.mpr ⟨lw_p11, List.forall_mem_cons.mpr ⟨lw_p12, List.forall_mem_cons.mpr ⟨lw_p13, fun _ h => absurd h List.not_mem_nil⟩⟩⟩⟩⟩⟩⟩⟩⟩⟩⟩⟩⟩⟩
def lw_privs : List (MethodName × Nat) := lw_privs_1
def lw_tbl : List Cond := k2_sels lw_privs ++ tables_1
theorem lw_privs_ok : ∀ q ∈ lw_privs, lw_okq q := lw_r1

/-- (own row: the printed text names it and does not say it) what the tables say of the arrays of arrays of t -/
def va_AOA (t : FieldType) (U : State) : Prop := (Cond.arrayOver (.array t)).before #[] U = true
theorem va_AOA.use {t : FieldType} {A : Array Value} {U : State} (h : va_AOA t U) : (Cond.arrayOver (.array t)).before A U = true := h
theorem va_AOA.moved {t : FieldType} {u U : State} (hvm : u.vm.Alike U.vm) (h : va_AOA t u) : va_AOA t U := over_moved (a := #[]) (a' := #[]) hvm h
/-! ===== BEGIN words of one list among another's, by their places ===== -/
theorem goodIn_r {big : List Cond} (ws : List Cond) (ps : List Nat) (hp : ws = ps.filterMap (fun i => big[i]?)) (h : ws.all goodWord = true) : GoodIn big ws := by
  intro w hw
  have h1 := List.all_eq_true.mp h w hw
  rw [hp] at hw
  obtain ⟨i, -, hi⟩ := List.mem_filterMap.mp hw
  have hm : w ∈ big := by first | exact List.mem_of_getElem? hi | exact List.getElem?_mem hi
  exact ⟨hm, good_of_word h1⟩
theorem goodIn_app {big a b : List Cond} (ha : GoodIn big a) (hb : GoodIn big b) : GoodIn big (a ++ b) := fun w h => (List.mem_append.mp h).elim (ha w) (hb w)
theorem goodIn_ca {big a b : List Cond} {c : Cond} (ha : GoodIn big (c :: a)) (hb : GoodIn big b) : GoodIn big (c :: (a ++ b)) := fun w h => (List.mem_cons.mp h).elim (fun e => ha w (List.mem_cons.mpr (Or.inl e))) (fun h => (List.mem_append.mp h).elim (fun h => ha w (List.mem_cons.mpr (Or.inr h))) (hb w))
theorem goodIn_sub {big ws : List Cond} (hm : ∀ w ∈ ws, w ∈ big) (h : ws.all goodWord = true) : GoodIn big ws := fun w hw => ⟨hm w hw, good_of_word (List.all_eq_true.mp h w hw)⟩
/-! ===== END ===== -/

/-! ===== BEGIN new T[n][m]: the outer array a place, the inner ones among the pooled ===== -/
/-- f, but v at every address of l -/
def vr_up {α : Type} (f : Nat → α) (l : List Nat) (v : α) : Nat → α := fun a => if a ∈ l then v else f a
theorem vr_up_in {α : Type} {f : Nat → α} {l : List Nat} {v : α} {a : Nat} (h : a ∈ l) : vr_up f l v a = v := if_pos h
theorem vr_up_ne {α : Type} {f : Nat → α} {l : List Nat} {v : α} {a : Nat} (h : a ∉ l) : vr_up f l v a = f a := if_neg h
theorem vr_rows {L l : List Nat} {f : Nat → va_E} {e : va_E} (h : ∀ a, a ∈ l → a ∉ L) : va_pl L f ++ l.map (fun a => (a, e)) = va_pl (L ++ l) (vr_up f l e) := by
  unfold va_pl
  rw [List.map_append]
  congr 1
  · apply List.map_congr_left
    intro a ha
    rw [vr_up_ne (fun q => h a q ha)]
  · apply List.map_congr_left
    intro a ha
    rw [vr_up_in ha]
theorem vr_lay {X rows : va_W} {x : Nat × va_E} {pl : va_W} {D : va_G} {cl : List vw_C} {H : Heap} (hP : va_P D cl (((X ++ pl) ++ [x]) ++ rows) H) : va_P D cl ((X ++ [x]) ++ (pl ++ rows)) H := by
  rw [List.append_assoc (X ++ pl)] at hP
  have h := va_P.swap hP
  rw [← List.append_assoc X] at h
  have h2 := va_P.swap h
  rw [List.append_assoc (X ++ [x])] at h2
  exact h2
theorem vr_layD {X rows : va_W} {x : Nat × va_E} {pl : va_W} {A : Nat → Prop} (hD : va_D A (((X ++ pl) ++ [x]) ++ rows)) : va_D A ((X ++ [x]) ++ (pl ++ rows)) := by
  rw [List.append_assoc (X ++ pl)] at hD
  have h := va_D.swap hD
  rw [← List.append_assoc X] at h
  have h2 := va_D.swap h
  rw [List.append_assoc (X ++ [x])] at h2
  exact h2
theorem vr_outer (c : ClassId) (N h0 : Nat) : ∀ i : Nat, Jvm.Free.Multi.outerC c N h0 i = arrV c N (fun j => va_rf (if j < i then some (h0 + 1 + j) else none))
  | 0 => by
    show ({ cls := c, slots := Array.replicate N .null, vm := .none } : Cell) = _
    rw [arrV_new]
    refine congrArg (arrV c N) (funext fun j => ?_)
    simp [va_rf]
  | i + 1 => by
    show (Jvm.Free.Multi.outerC c N h0 i).setSlot i (.ref (h0 + 1 + i)) = _
    rw [vr_outer c N h0 i, arrV_store]
    refine congrArg (arrV c N) (funext fun j => ?_)
    by_cases e : j = i
    · subst e
      simp [updV, va_rf]
    · by_cases h : j < i
      · simp [updV, e, h, Nat.lt_succ_of_lt h]
      · simp [updV, e, h, show ¬ j < i + 1 by omega]
section VGM
variable {p : Program} {l : Launch} {e : Env} {R : Room} {s : State} {m : MethodId} {args : Array Value} {below : List Frame} {meth : Method} {c : Code} {H : Heap} {locs : List Loc} {cells slots : Nat} {Q : State → Prop}
variable {cc : ByteArray} {pc : Nat} {ls : Array Slot} {rest : List Value} {D : va_G} {cl : List vw_C} {A : Nat → Prop} {a : Nat} {tys : List (ClassId × FieldType)} {ws : va_W} {H0 : Heap}
theorem va_mna {X : va_W} {L : List Nat} {f : Nat → va_E} {cc : ByteArray} (hexec : p.tables.exec = Jvm.exec) (hb : c.code = cc) {own : String} {index : Nat} {ty : FieldType} {cy : ClassId} (hown : s.vm.findClass own = some m.cls) (hclink : (Cond.classLink own index ("[" ++ (FieldType.array ty).toString)).before args s = true) (hover : va_AOA ty s) (harr : (Cond.arrayClass ty).before args s = true) (hcy : s.vm.findClass (FieldType.array ty).toString = some cy)
    (hK : va_K D cl tys s) (hP : va_P D cl (X ++ va_pl L f) H) (hD : va_D A (X ++ va_pl L f)) (hS : va_S A H0 H locs) (hA : ∀ q, H0.size ≤ q → A q) {n k : Int32} {N' K' : Nat} {z : vp_A} (hn : ¬ n < 0) (hk : ¬ k < 0) (hN : n.toNatClampNeg = N') (hM : k.toNatClampNeg = K')
    (hb1 : N' * 4 ≤ 536870912) (hb2 : K' * componentBytes ty ≤ 536870912) (hb3 : K' ≤ 536870912) (hdf : fits ty (defaultValue ty) = true) (hdd : (defaultValue ty).isDefault = true) (hcells : cells + (1 + N') ≤ R.cells) (hslots : slots + (N' + N' * K') ≤ R.slots) (hz : ∀ c : ClassId, Jvm.Free.Multi.innerC c K' (defaultValue ty) = vp_cell c z) (hdg : decode cc pc = .ok (.multianewarray index 2, 4))
    (kk : ∀ (q : Nat) (r : Nat → Nat) (cA : ClassId) (H1 : Heap), (∀ i j : Nat, i < N' → j < N' → r i = r j → i = j) → (∀ i : Nat, i < N' → r i ∉ L) → va_K D cl (tys ++ [(cA, .array ty)]) s →
      va_P D cl ((X ++ [(q, .inl (cA, N', .inr (.inr (.inr (.inr (fun i => if i < N' then some (r i) else none))))))]) ++ va_pl (L ++ (List.range N').map r) (vr_up f ((List.range N').map r) (.inl (cy, z)))) H1 → va_D A ((X ++ [(q, .inl (cA, N', .inr (.inr (.inr (.inr (fun i => if i < N' then some (r i) else none))))))]) ++ va_pl (L ++ (List.range N').map r) (vr_up f ((List.range N').map r) (.inl (cy, z)))) → va_S A H0 H1 locs →
      W p l e R s m args below meth c H1 locs (cells + 1 + N') (slots + N' + N' * K') Q (F0 m (pc + 4) ls (.ref q :: rest))) : W p l e R s m args below meth c H locs cells slots Q (F0 m pc ls (.int k :: .int n :: rest)) := by
  subst hN
  subst hM
  intro T hT Xs
  obtain ⟨vm₁, cA, comp, -, fA, fC, hO, -, X', step⟩ := Xs.multianewarray2F hexec hown hclink (va_AOA.use hover) harr (g := F0 m pc ls (.int k :: .int n :: rest)) rfl (by rw [hb]; exact hdg) rfl hn hk hb1 hb2 hb3 hdf hdd hcells hslots
  have ec : some cy = some comp := hcy.symm.trans fC
  cases ec
  generalize hF : Jvm.Free.Multi.fill (T.setVm vm₁) cA cy n.toNatClampNeg k.toNatClampNeg (defaultValue ty) n.toNatClampNeg = F at X' step
  have hTh : (T.setVm vm₁).heap = H := hT
  obtain ⟨f1, f2, -, -⟩ := Jvm.Free.Multi.fill_facts (T.setVm vm₁) cA cy n.toNatClampNeg k.toNatClampNeg (defaultValue ty) n.toNatClampNeg
  rw [hF, hTh] at f1 f2
  have hold : ∀ x : Nat, x < H.size → F.heap[x]? = H[x]? := fun x hx => by
    have := Jvm.Free.Multi.fill_old (T.setVm vm₁) cA cy n.toNatClampNeg k.toNatClampNeg (defaultValue ty) (a := x) (by rw [hTh]; exact hx) n.toNatClampNeg
    rw [hF, hTh] at this
    exact this
  have hrow : ∀ j : Nat, j < n.toNatClampNeg → F.heap[H.size + 1 + j]? = some (vp_cell cy z) := fun j hj => by
    have := Jvm.Free.Multi.fill_inner (T.setVm vm₁) cA cy n.toNatClampNeg k.toNatClampNeg (defaultValue ty) n.toNatClampNeg j hj
    rw [hF, hTh, hz] at this
    exact this
  have hout : Jvm.Free.Multi.outerC cA n.toNatClampNeg H.size n.toNatClampNeg = vp_cell cA (n.toNatClampNeg, .inr (.inr (.inr (.inr (fun i => if i < n.toNatClampNeg then some (H.size + 1 + i) else none))))) := by
    rw [vp_cell_q]
    exact vr_outer cA n.toNatClampNeg H.size n.toNatClampNeg
  rw [hout] at f2
  have hlt : ∀ a, a ∈ L → a < H.size := fun a ha => by
    obtain ⟨k9, hk9⟩ := va_pl_get (X := X) (f := f) ha
    exact (hP k9 _ hk9).lt
  have hnl : ∀ i : Nat, i < n.toNatClampNeg → H.size + 1 + i ∉ L := fun i _ h => by
    have := hlt _ h
    omega
  have hnm : ∀ a, a ∈ (List.range n.toNatClampNeg).map (fun i => H.size + 1 + i) → a ∉ L := fun a ha h => by
    obtain ⟨i, -, rfl⟩ := List.mem_map.mp ha
    have := hlt _ h
    omega
  have hP0 : va_P D cl (X ++ va_pl L f) F.heap := hP.kept (fun k9 x hx => hold x.1 ((hP k9 x hx).lt))
  have hP1 : va_P D cl ((X ++ va_pl L f) ++ [(H.size, .inl (cA, n.toNatClampNeg, .inr (.inr (.inr (.inr (fun i => if i < n.toNatClampNeg then some (H.size + 1 + i) else none))))))]) F.heap := hP0.app (fun k9 x hx => by
    have h0 : k9 < 1 := (List.getElem?_eq_some_iff.mp hx).1
    rw [show k9 = 0 by omega] at hx
    cases hx
    exact f2)
  have hP2 : va_P D cl (((X ++ va_pl L f) ++ [(H.size, .inl (cA, n.toNatClampNeg, .inr (.inr (.inr (.inr (fun i => if i < n.toNatClampNeg then some (H.size + 1 + i) else none))))))]) ++ ((List.range n.toNatClampNeg).map (fun i => H.size + 1 + i)).map (fun a => (a, .inl (cy, z)))) F.heap := hP1.app (fun k9 x hx => by
    obtain ⟨a, ha, rfl⟩ := List.mem_map.mp (List.mem_of_getElem? hx)
    obtain ⟨i, hi, rfl⟩ := List.mem_map.mp ha
    exact hrow i (List.mem_range.mp hi))
  have hD2 : va_D A (((X ++ va_pl L f) ++ [(H.size, .inl (cA, n.toNatClampNeg, .inr (.inr (.inr (.inr (fun i => if i < n.toNatClampNeg then some (H.size + 1 + i) else none))))))]) ++ ((List.range n.toNatClampNeg).map (fun i => H.size + 1 + i)).map (fun a => (a, .inl (cy, z)))) := by
    have hD1 := hD.push (e := .inl (cA, n.toNatClampNeg, .inr (.inr (.inr (.inr (fun i => if i < n.toNatClampNeg then some (H.size + 1 + i) else none)))))) hP rfl (hA _ hS.1)
    generalize hW1 : (X ++ va_pl L f) ++ [(H.size, .inl (cA, n.toNatClampNeg, .inr (.inr (.inr (.inr (fun i => if i < n.toNatClampNeg then some (H.size + 1 + i) else none))))))] = W1 at hD1 hP1 ⊢
    have hle : ∀ (k9 : Nat) (x : Nat × va_E), W1[k9]? = some x → x.1 ≤ H.size := fun k9 x hx => by
      rw [← hW1] at hx
      by_cases hl : k9 < (X ++ va_pl L f).length
      · rw [List.getElem?_append_left hl] at hx
        exact Nat.le_of_lt ((hP k9 x hx).lt)
      · rw [List.getElem?_append_right (by omega)] at hx
        have h0 : k9 - (X ++ va_pl L f).length < 1 := (List.getElem?_eq_some_iff.mp hx).1
        rw [show k9 - (X ++ va_pl L f).length = 0 by omega] at hx
        cases hx
        exact Nat.le_refl _
    have hr : ∀ (k9 : Nat) (x : Nat × va_E), (((List.range n.toNatClampNeg).map (fun i => H.size + 1 + i)).map (fun a => ((a, .inl (cy, z)) : Nat × va_E)))[k9]? = some x → x.1 = H.size + 1 + k9 := fun k9 x hx => by
      rw [List.getElem?_map, List.getElem?_map] at hx
      by_cases h9 : k9 < n.toNatClampNeg
      · rw [List.getElem?_range h9] at hx
        cases hx
        rfl
      · have hn0 : (List.range n.toNatClampNeg)[k9]? = none := List.getElem?_eq_none (by rw [List.length_range]; omega)
        rw [hn0] at hx
        cases hx
    refine ⟨fun i j x y hi hj hxy => ?_, fun k9 x hx => ?_⟩
    · by_cases h1 : i < W1.length <;> by_cases h2 : j < W1.length
      · rw [List.getElem?_append_left h1] at hi
        rw [List.getElem?_append_left h2] at hj
        exact hD1.1 i j x y hi hj hxy
      · rw [List.getElem?_append_left h1] at hi
        rw [List.getElem?_append_right (by omega)] at hj
        have := hle _ _ hi
        have := hr _ _ hj
        omega
      · rw [List.getElem?_append_right (by omega)] at hi
        rw [List.getElem?_append_left h2] at hj
        have := hle _ _ hj
        have := hr _ _ hi
        omega
      · rw [List.getElem?_append_right (by omega)] at hi hj
        have := hr _ _ hi
        have := hr _ _ hj
        omega
    · by_cases h1 : k9 < W1.length
      · rw [List.getElem?_append_left h1] at hx
        exact hD1.2 k9 x hx
      · rw [List.getElem?_append_right (by omega)] at hx
        have := hr _ _ hx
        exact hA _ (by have := hS.1; omega)
  have hAr : ArrOfT s cA (.array ty) := fun N9 z9 => by
    obtain ⟨-, k9, hk9, cm9, hkk9⟩ := (hO 0 0 0).1
    exact ⟨(fun q hq => by cases hq), k9, hk9, cm9, hkk9⟩
  have hK2 : va_K D cl (tys ++ [(cA, .array ty)]) s := ⟨hK.1, fun k9 x hx => by
    by_cases hl : k9 < tys.length
    · rw [List.getElem?_append_left hl] at hx
      exact hK.2 k9 x hx
    · rw [List.getElem?_append_right (by omega)] at hx
      have h0 : k9 - tys.length < 1 := (List.getElem?_eq_some_iff.mp hx).1
      rw [show k9 - tys.length = 0 by omega] at hx
      cases hx
      exact ⟨hAr, fA⟩⟩
  obtain ⟨t, a1, b1⟩ := kk H.size (fun i => H.size + 1 + i) cA F.heap (fun i j _ _ h => by have h9 : H.size + 1 + i = H.size + 1 + j := h; omega) hnl hK2 (by rw [← vr_rows hnm]; exact vr_lay hP2) (by rw [← vr_rows hnm]; exact vr_layD hD2) ⟨by rw [f1]; have := hS.1; omega, fun x h1 h2 => (hold x (Nat.lt_of_lt_of_le h1 hS.1)).trans (hS.2.1 x h1 h2), hS.2.2⟩ F rfl X'
  refine ⟨t, step t ?_, b1⟩
  have e : T.heap.size = H.size := by rw [hT]
  rw [e]
  exact a1
end VGM
/-! ===== END ===== -/
end
section
/-! ===== BEGIN exceptions that leave a method, and their catching by the caller (launches without stack traces) ===== -/
section VXA
/-! The laws vx_back, vx_callV, vx_callS, vx_callSW, vx_throw0, vx_throwS follow proofs of the library, with one case more: JvmDerived/Free/Laws.lean (Back.of_free), Shelf42/LK1.lean (callV, callS), Shelf/KitTraced.lean (throwNew0V, throwNewS). -/
/-- where a method has thrown q: the class by its name, the cell, what was written, the world -/
def vx_T (XC : String → State → State → Prop) (st : State) (q : Addr) (t : State) (mc ms : Nat) (free : Addr → Prop) : Prop :=
  ∃ (E : String) (ce : Cell) (L : List Loc), XC E st t ∧ t.heap[q]? = some ce ∧ ce.vm = .none ∧ st.vm.findClass E = some ce.cls ∧ st.WarmedH t.vm ∧ st.sameButNew ({ t with vm := st.vm } : State) L mc ms ∧ ∀ z ∈ L, free z.base
def vx_Q (Qc : Array Value → State → Outcome → State → Prop) (XC : String → State → State → Prop) (mc ms : Nat) (free : Addr → Prop) : Array Value → State → Outcome → State → Prop := fun a st o t =>
  (Qc a st o t ∧ ∃ L, FrameEnd st o t L mc ms ∧ ∀ q ∈ L, free q.base) ∨ ∃ q, o = .threw q ∧ vx_T XC st q t mc ms free
/-- a callee that returns or throws -/
def vx_Met (l : Launch) (y : MethodName) (ws : List Cond) (rm : Room) (Pc : Array Value → State → Prop) (Qc : Array Value → State → Outcome → State → Prop) (XC : String → State → State → Prop) (mc ms : Nat) (free : Addr → Prop) : Prop :=
  MetFree l y (headSpec ws rm) Pc (fun _ _ _ _ _ => True) (vx_Q Qc XC mc ms free)
def vx_Post (XC : String → State → State → Prop) (mc ms : Nat) (free : Addr → Prop) : Pt → Array Value → Addr → Pt → Prop := fun A a q B =>
  ∃ (g : JFrame) (mk : MethodId) (t : State) (L : List Loc) (E : String) (ce : Cell), B.U.heap = t.heap ∧ B.U.vm = t.vm ∧ XC E (A.U.calling g mk a) t ∧ t.heap[q]? = some ce ∧ ce.vm = .none ∧ A.U.vm.findClass E = some ce.cls ∧ B.locs = A.locs ++ L ∧ (∀ z ∈ L, free z.base) ∧ B.cells = A.cells + mc ∧ B.slots = A.slots + ms
def vx_Back (l : Launch) (R : Room) (p : Program) (e : Env) (below : List Frame) (s : State) (sargs : Array Value) (y : MethodName) (len W9 : Nat)
    (Pre : Pt → Array Value → Prop) (Post : Pt → Array Value → Option Value → Pt → Prop) (PostX : Pt → Array Value → Addr → Pt → Prop) : Prop :=
  ∀ (m : MethodId) (meth : Method) (c : Code) (A : Pt) (g : JFrame) (ig : Instr) (mk : MethodId) (a : Array Value),
    Stand p l e R s m sargs below meth c A.U A.locs A.cells A.slots → g.method = m → g.locals.size = c.maxLocals → decode c.code g.pc = .ok (ig, len) →
    2 * g.monitorRoom + (g.stack.map fun v => v.category).sum ≤ W9 → A.U.methodNamed? y = some mk → Pre A a →
    (∃ (v : Option Value) (B : Pt), Stand p l e R s m sargs below meth c B.U B.locs B.cells B.slots ∧ Post A a v B ∧
      Steps p.tables e below (doInvoke e (A.U.setTop g) [] mk a).1 (B.U.setTop { g with pc := g.pc + len, stack := v.toList ++ g.stack })) ∨
    (∃ (q : Addr) (B : Pt), Stand p l e R s m sargs below meth c B.U B.locs B.cells B.slots ∧ PostX A a q B ∧
      Steps p.tables e below (doInvoke e (A.U.setTop g) [] mk a).1 ((B.U.setTop g).pushFrame (.throwing q)))
section Payer
variable {l : Launch} {R : Room} {p : Program} {e : Env} {below : List Frame} {s : State} {sargs : Array Value} {y : MethodName} {len W9 : Nat}
theorem vx_back {ws : List Cond} {rm : Room} {Pc : Array Value → State → Prop} {Qc : Array Value → State → Outcome → State → Prop} {XC : String → State → State → Prop} {mc ms : Nat} {free : Addr → Prop} {bytes : ByteArray} {maxL : Nat} {ret : Option FieldType}
    (hM : vx_Met l y ws rm Pc Qc XC mc ms free) (hblind : FrameBlind Pc) (hrc : rm.cells = mc) (hrs : rm.slots = ms)
    (hframes : rm.frames + 1 ≤ R.frames) (hlocals : W9 + (maxL + 11) + rm.locals ≤ R.locals)
    (hws : ∀ w ∈ ws, ∀ a' U, s.WarmedH U.vm → w.before a' U = true) (hcode : Cond.code y bytes maxL ret ∈ ws) (hinit : ∀ a' U, s.WarmedH U.vm → (Cond.initialized y.cls).before a' U = true) :
    vx_Back l R p e below s sargs y len W9 (PreOf R mc ms Pc) (PostOf Qc mc ms free) (vx_Post XC mc ms free) := by
  intro m meth c A g ig mk a X hg hsize hdg hW hn hp
  have h1 : (headSpec ws rm).pre.before a A.U = true := atoms_intro fun w hw => hws w hw _ _ X.warmed
  have h2 : (Cond.code y bytes maxL ret).before a A.U = true := hws _ hcode _ _ X.warmed
  have h3 : (Cond.initialized y.cls).before a A.U = true := hinit _ _ X.warmed
  have h4 : A.cells + (headSpec ws rm).room.cells ≤ R.cells := by rw [show (headSpec ws rm).room.cells = mc from hrc]; exact hp.1
  have h5 : A.slots + (headSpec ws rm).room.slots ≤ R.slots := by rw [show (headSpec ws rm).room.slots = ms from hrs]; exact hp.2.1
  have hPc : Pc a (A.U.calling g mk a) := hblind _ _ _ _ hp.2.2
  obtain ⟨U, Ls, c0, s0⟩ := A
  dsimp only [Pt.U, Pt.locs, Pt.cells, Pt.slots] at h1 h2 h3 h4 h5 X hn hPc ⊢
  obtain ⟨methY, cY, hmY, hcY, -, hlY, -, -, -, -⟩ := Cond.code_spec hn h2
  obtain ⟨kY, hkY, -⟩ := className_of_methodNamed hn
  have hinitY : kY.init = .initialized := Cond.initialized_spec (findClass_of_methodNamed hn) hkY h3
  have h : At U g.method c below := by rw [hg]; exact X.here
  have hlocals9 : W9 + (maxL + 11) + (headSpec ws rm).room.locals ≤ R.locals := hlocals
  have happ : (headSpec ws rm).appliesLoose y e.platform (U.calling g mk a) = true :=
    Spec.appliesLoose_calling (g := g) h hdg hn hkY hinitY
      (X.room_calling (g := g) (R' := (headSpec ws rm).room) hsize hmY hcY hframes (by rw [hlY]; omega) h4 h5) h1
  obtain ⟨mid, hmid⟩ := h.above
  have hfr : (U.setTop g).frames = (.java g :: mid) ++ below := by rw [State.frames_setTop' g h.top, hmid]; rfl
  obtain ⟨o, s₂, hsteps, -, hend, hq⟩ := Steps.callFree hM p X.admits X.cas X.clock (acts := []) hfr happ hPc trivial
  have hq' : vx_Q Qc XC mc ms free a (U.calling g mk a) o s₂ := hq
  rw [State.frames_setTop' g h.top] at hend
  obtain ⟨g₀, hg0⟩ := Option.isSome_iff_exists.mp h.top
  obtain ⟨r, hr⟩ := State.topJava?_eq_some.mp hg0
  have hr' : (({ U with heap := s₂.heap, slotsUsed := s₂.slotsUsed } : State).setVm s₂.vm).frames = .java g₀ :: r := hr
  rcases hq' with ⟨hqc, L, hfe, hL⟩ | ⟨q, rfl, E, ce, L, hx, hce, hcv, hcl, hW₂, hsm, hL⟩
  · obtain ⟨⟨v, rfl⟩, hW₂, e2, q2, q3, q4, q5, q6⟩ := id hfe
    have e3 : s₂ = ({ (U.calling g mk a).setFrames s₂.frames with heap := s₂.heap, slotsUsed := s₂.slotsUsed } : State).setVm s₂.vm := by
      have : s₂ = ({ s₂ with vm := (U.calling g mk a).vm } : State).setVm s₂.vm := rfl
      rw [e2] at this
      exact this
    obtain ⟨c₂, i₂, len₂, hc₂, hd₂, hf₂⟩ := hend
    have hW' : U.WarmedH s₂.vm := hW₂
    have hcc : c₂ = c := by
      have h1 : s₂.code? g.method = U.code? g.method := by
        rw [State.code?_eq, State.code?_eq, hW'.alike.method?]
      exact Option.some.inj (hc₂.symm.trans (h1.trans h.code))
    subst hcc
    have hlen : len₂ = len := by rw [hdg] at hd₂; cases hd₂; rfl
    subst hlen
    have hs₂ : s₂ = (({ U with heap := s₂.heap, slotsUsed := s₂.slotsUsed } : State).setVm s₂.vm).setTop { g with pc := g.pc + len₂, stack := v.toList ++ g.stack } := by
      refine e3.trans ?_
      rw [hf₂, State.calling_eq h.top, State.setFrames_setFrames, State.setTop_of_frames _ hr', hr]
      rfl
    have hsame : U.sameButNew ({ U with heap := s₂.heap, slotsUsed := s₂.slotsUsed } : State) L mc ms := by
      refine ⟨?_, q2, q3, q4, q5, q6⟩
      obtain ⟨t, ht, -⟩ := State.frames_cons hr
      show ({ U with heap := s₂.heap, slotsUsed := s₂.slotsUsed } : State) = { U.setFrames U.frames with heap := s₂.heap, slotsUsed := s₂.slotsUsed }
      rw [State.setFrames_self ht]
    subst hg
    refine Or.inl ⟨v, ⟨(({ U with heap := s₂.heap, slotsUsed := s₂.slotsUsed } : State).setVm s₂.vm), Ls ++ L, c0 + mc, s0 + ms⟩,
      ⟨X.admits, X.cas, X.clock, X.frames, X.room, X.hears, X.method, X.code, (X.here.setHeapUsed s₂.heap s₂.slotsUsed).setVm hW'.alike, X.tail, State.WarmedH.trans X.warmed hW', X.limits, X.bytes, X.same.trans (hsame.setVm s.vm)⟩,
      ⟨g, mk, s₂, L, rfl, rfl, hqc, rfl, hL, rfl, rfl⟩, ?_⟩
    show Steps p.tables e below _ ((({ U with heap := s₂.heap, slotsUsed := s₂.slotsUsed } : State).setVm s₂.vm).setTop { g with pc := g.pc + len₂, stack := v.toList ++ g.stack })
    rw [← hs₂]
    exact hsteps
  · obtain ⟨e2, q2, q3, q4, q5, q6⟩ := id hsm
    have e3 : s₂ = ({ (U.calling g mk a).setFrames s₂.frames with heap := s₂.heap, slotsUsed := s₂.slotsUsed } : State).setVm s₂.vm := by
      have : s₂ = ({ s₂ with vm := (U.calling g mk a).vm } : State).setVm s₂.vm := rfl
      rw [e2] at this
      exact this
    have hf₂ : s₂.frames = .throwing q :: .java g :: U.frames.tail := hend
    have hW' : U.WarmedH s₂.vm := hW₂
    have hs₂ : s₂ = ((({ U with heap := s₂.heap, slotsUsed := s₂.slotsUsed } : State).setVm s₂.vm).setTop g).pushFrame (.throwing q) := by
      refine e3.trans ?_
      rw [hf₂, State.calling_eq h.top, State.setFrames_setFrames, State.pushFrame, State.frames_setTop _ hr', State.setTop_of_frames _ hr', State.setFrames_setFrames, hr]
      rfl
    have hsame : U.sameButNew ({ U with heap := s₂.heap, slotsUsed := s₂.slotsUsed } : State) L mc ms := by
      refine ⟨?_, q2, q3, q4, q5, q6⟩
      obtain ⟨t, ht, -⟩ := State.frames_cons hr
      show ({ U with heap := s₂.heap, slotsUsed := s₂.slotsUsed } : State) = { U.setFrames U.frames with heap := s₂.heap, slotsUsed := s₂.slotsUsed }
      rw [State.setFrames_self ht]
    subst hg
    refine Or.inr ⟨q, ⟨(({ U with heap := s₂.heap, slotsUsed := s₂.slotsUsed } : State).setVm s₂.vm), Ls ++ L, c0 + mc, s0 + ms⟩,
      ⟨X.admits, X.cas, X.clock, X.frames, X.room, X.hears, X.method, X.code, (X.here.setHeapUsed s₂.heap s₂.slotsUsed).setVm hW'.alike, X.tail, State.WarmedH.trans X.warmed hW', X.limits, X.bytes, X.same.trans (hsame.setVm s.vm)⟩,
      ⟨g, mk, s₂, L, E, ce, rfl, rfl, hx, hce, hcv, hcl, rfl, hL, rfl, rfl⟩, ?_⟩
    show Steps p.tables e below _ (((({ U with heap := s₂.heap, slotsUsed := s₂.slotsUsed } : State).setVm s₂.vm).setTop g).pushFrame (.throwing q))
    rw [← hs₂]
    exact hsteps
end Payer
section Calls
variable {p : Program} {l : Launch} {e : Env} {R : Room} {s : State} {m : MethodId} {args : Array Value} {below : List Frame} {meth : Method} {c : Code} {T : State} {locs : List Loc} {cells slots : Nat}
theorem vx_callV (X : Stand p l e R s m args below meth c T locs cells slots) (hexec : p.tables.exec = Jvm.exec) {own C : String} {index : Nat} {y : MethodName} {bytes : ByteArray} {maxL : Nat} {ret : Option FieldType}
    (hown : s.vm.findClass own = some m.cls) (hlink : (Cond.methodLink own index y).before args s = true) (hinst : (Cond.instanceMethod y).before args s = true) (hsel : (Cond.selects C y y).before args s = true)
    (hcode : (Cond.code y bytes maxL ret).before args s = true) (hy : y.cls ≠ "java/lang/invoke/MethodHandle" ∧ y.cls ≠ "java/lang/invoke/VarHandle")
    {W9 : Nat} {Pre : Pt → Array Value → Prop} {Post : Pt → Array Value → Option Value → Pt → Prop} {PostX : Pt → Array Value → Addr → Pt → Prop} (hK : vx_Back l R p e below s args y 3 W9 Pre Post PostX)
    {b : Addr} {cellB : Cell} (hcell : T.heap[b]? = some cellB) (hobj : cellB.vm.isStatics = false) (hcls : s.vm.findClass C = some cellB.cls)
    {g : JFrame} (hg : g.method = m) (hsize : g.locals.size = c.maxLocals) {argsL rest : List Value} (hlen : ∀ sig, parseMethodDescriptor y.desc = some sig → argsL.length = sig.parameters.length)
    (hstack : g.stack = argsL.reverse ++ .ref b :: rest) (hW : 2 * g.monitorRoom + (rest.map fun v => v.category).sum ≤ W9) (hdg : decode c.code g.pc = .ok (.invokevirtual index, 3))
    (hpre : ∀ vm₁, s.WarmedH vm₁ → Pre ⟨T.setVm vm₁, locs, cells, slots⟩ (Value.ref b :: argsL).toArray) :
    (∃ (v : Option Value) (vm₁ : Vm) (B : Pt), s.WarmedH vm₁ ∧ Stand p l e R s m args below meth c B.U B.locs B.cells B.slots ∧ Post ⟨T.setVm vm₁, locs, cells, slots⟩ (Value.ref b :: argsL).toArray v B ∧
      ∀ target, Steps p.tables e below (B.U.setTop { g with pc := g.pc + 3, stack := v.toList ++ rest }) target → Steps p.tables e below (T.setTop g) target) ∨
    (∃ (q : Addr) (vm₁ : Vm) (B : Pt), s.WarmedH vm₁ ∧ Stand p l e R s m args below meth c B.U B.locs B.cells B.slots ∧ PostX ⟨T.setVm vm₁, locs, cells, slots⟩ (Value.ref b :: argsL).toArray q B ∧
      Steps p.tables e below (T.setTop g) ((B.U.setTop { g with stack := rest }).pushFrame (.throwing q))) := by
  obtain ⟨mk, methM, hnamed, hmethM, hstM, habM⟩ := Cond.instanceMethod_spec hinst
  obtain ⟨methM', cM, hmethM', -, -, -, -, -, -, hsigM⟩ := Cond.code_spec hnamed hcode
  cases hmethM.symm.trans hmethM'
  obtain ⟨c2, r2, m2, q1, q2, q3, q4, kP, hkP, hkPi⟩ := Cond.selects_spec hsel
  cases hcls.symm.trans q1
  cases (State.methodFound?_of_named hnamed hy).symm.trans q2
  cases hnamed.symm.trans q3
  have hselP : selectMethod e.platform s.vm cellB.cls mk = .method mk := by rw [Launch.admits_selectMethod X.admits]; exact q4
  obtain ⟨vm₁, X₁, hstep₁⟩ := X.invokevirtual hexec hown hlink hnamed hmethM hstM hkP hkPi hy (a := b) (cell := cellB) hcell
    (fun z h => by rw [h] at hobj; cases hobj) hselP hmethM habM hkP hkPi (g := g) hg (argsL := argsL) (rest := rest) (hlen _ hsigM) hstack hdg
  rcases hK m meth c ⟨T.setVm vm₁, locs, cells, slots⟩ { g with stack := rest } (.invokevirtual index) mk (Value.ref b :: argsL).toArray X₁ hg hsize hdg hW (X₁.named hnamed) (hpre vm₁ X₁.warmed) with ⟨v, B, X', hpost, hsteps⟩ | ⟨q, B, X', hpost, hsteps⟩
  · exact Or.inl ⟨v, vm₁, B, X₁.warmed, X', hpost, fun target h => hstep₁ _ fun acts => by rw [doInvoke_state]; exact hsteps.trans h⟩
  · exact Or.inr ⟨q, vm₁, B, X₁.warmed, X', hpost, hstep₁ _ fun acts => by rw [doInvoke_state]; exact hsteps⟩
theorem vx_callS (X : Stand p l e R s m args below meth c T locs cells slots) (hexec : p.tables.exec = Jvm.exec) {own : String} {index : Nat} {y : MethodName} {bytes : ByteArray} {maxL : Nat} {ret : Option FieldType}
    (hown : s.vm.findClass own = some m.cls) (hlink : (Cond.methodLink own index y).before args s = true) (hstat : (Cond.static y).before args s = true) (hinit : (Cond.initialized y.cls).before args s = true)
    (hcode : (Cond.code y bytes maxL ret).before args s = true) (hy : y.cls ≠ "java/lang/invoke/MethodHandle" ∧ y.cls ≠ "java/lang/invoke/VarHandle")
    {W9 : Nat} {Pre : Pt → Array Value → Prop} {Post : Pt → Array Value → Option Value → Pt → Prop} {PostX : Pt → Array Value → Addr → Pt → Prop} (hK : vx_Back l R p e below s args y 3 W9 Pre Post PostX)
    {g : JFrame} (hg : g.method = m) (hsize : g.locals.size = c.maxLocals) {argsL rest : List Value} (hlen : ∀ sig, parseMethodDescriptor y.desc = some sig → argsL.length = sig.parameters.length)
    (hstack : g.stack = argsL.reverse ++ rest) (hW : 2 * g.monitorRoom + (rest.map fun v => v.category).sum ≤ W9) (hdg : decode c.code g.pc = .ok (.invokestatic index, 3))
    (hpre : ∀ vm₁, s.WarmedH vm₁ → Pre ⟨T.setVm vm₁, locs, cells, slots⟩ argsL.toArray) :
    (∃ (v : Option Value) (vm₁ : Vm) (B : Pt), s.WarmedH vm₁ ∧ Stand p l e R s m args below meth c B.U B.locs B.cells B.slots ∧ Post ⟨T.setVm vm₁, locs, cells, slots⟩ argsL.toArray v B ∧
      ∀ target, Steps p.tables e below (B.U.setTop { g with pc := g.pc + 3, stack := v.toList ++ rest }) target → Steps p.tables e below (T.setTop g) target) ∨
    (∃ (q : Addr) (vm₁ : Vm) (B : Pt), s.WarmedH vm₁ ∧ Stand p l e R s m args below meth c B.U B.locs B.cells B.slots ∧ PostX ⟨T.setVm vm₁, locs, cells, slots⟩ argsL.toArray q B ∧
      Steps p.tables e below (T.setTop g) ((B.U.setTop { g with stack := rest }).pushFrame (.throwing q))) := by
  obtain ⟨mk, hnamed⟩ := Cond.code_named hcode
  obtain ⟨methM, cM, hmethM, -, -, -, -, -, -, hsigM⟩ := Cond.code_spec hnamed hcode
  have hstatic : methM.isStatic = true := Cond.static_spec hnamed hmethM hstat
  obtain ⟨kP, hkP, -⟩ := className_of_methodNamed hnamed
  have hinitP : kP.init = .initialized := Cond.initialized_spec (findClass_of_methodNamed hnamed) hkP hinit
  obtain ⟨vm₁, X₁, hstep₁⟩ := X.invokestatic hexec hown hlink hnamed hmethM hstatic hkP hinitP hy (g := g) hg (argsL := argsL) (rest := rest) (hlen _ hsigM) hstack hdg
  rcases hK m meth c ⟨T.setVm vm₁, locs, cells, slots⟩ { g with stack := rest } (.invokestatic index) mk argsL.toArray X₁ hg hsize hdg hW (X₁.named hnamed) (hpre vm₁ X₁.warmed) with ⟨v, B, X', hpost, hsteps⟩ | ⟨q, B, X', hpost, hsteps⟩
  · exact Or.inl ⟨v, vm₁, B, X₁.warmed, X', hpost, fun target h => hstep₁ _ fun acts => by rw [doInvoke_state]; exact hsteps.trans h⟩
  · exact Or.inr ⟨q, vm₁, B, X₁.warmed, X', hpost, hstep₁ _ fun acts => by rw [doInvoke_state]; exact hsteps⟩
end Calls
theorem vx_cls {s : State} {T : State} {vm₁ : Vm} {E : String} {k : ClassId} (hW : s.WarmedH vm₁) (h : (T.setVm vm₁).vm.findClass E = some k) : s.vm.findClass E = some k := by
  have h1 : vm₁.findClass E = some k := h
  rw [hW.alike.findClass] at h1
  exact h1
/-- the method's frame g, with q thrown over it -/
def vx_W (p : Program) (l : Launch) (e : Env) (R : Room) (s : State) (m : MethodId) (args : Array Value) (below : List Frame) (meth : Method) (c : Code) (H : Heap) (locs : List Loc) (cells slots : Nat) (Q : State → Prop) (g : JFrame) (q : Addr) : Prop :=
  ∀ T : State, T.heap = H → Stand p l e R s m args below meth c T locs cells slots → ∃ t, Steps p.tables e below ((T.setTop g).pushFrame (.throwing q)) t ∧ Q t
def vx_Run (p : Program) (l : Launch) (e : Env) (R : Room) (s : State) (m : MethodId) (args : Array Value) (below : List Frame) (meth : Method) (c : Code) (H : Heap) (locs : List Loc) (cells slots mc ms : Nat) (g : JFrame) (rest : List Value) (Qa : State → Outcome → State → Prop) (XC : String → State → State → Prop) (free : Addr → Prop) : Prop :=
  ∀ T : State, T.heap = H → Stand p l e R s m args below meth c T locs cells slots →
    (∃ (v : Option Value) (st₀ t T' : State) (L : List Loc), st₀.heap = H ∧ Stand p l e R s m args below meth c T' (locs ++ L) (cells + mc) (slots + ms) ∧ (∀ q ∈ L, free q.base) ∧ T'.heap = t.heap ∧ T'.vm = t.vm ∧ Qa st₀ (.returned v) t ∧
      Goes p e below T g T' { g with pc := g.pc + 3, stack := v.toList ++ rest }) ∨
    (∃ (q : Addr) (st₀ t T' : State) (L : List Loc) (E : String) (ce : Cell), st₀.heap = H ∧ Stand p l e R s m args below meth c T' (locs ++ L) (cells + mc) (slots + ms) ∧ (∀ z ∈ L, free z.base) ∧ T'.heap = t.heap ∧ T'.vm = t.vm ∧ XC E st₀ t ∧ t.heap[q]? = some ce ∧ ce.vm = .none ∧ s.vm.findClass E = some ce.cls ∧
      Steps p.tables e below (T.setTop g) ((T'.setTop { g with stack := rest }).pushFrame (.throwing q)))
def vx_X {S : Type} (px : S → Prop) (B : String → S → State → Prop) (A : Nat → Prop) : String → State → State → Prop := fun E st t => ∃ u : S, px u ∧ B E u t ∧ va_F A st t
section Runs
variable {p : Program} {l : Launch} {e : Env} {R : Room} {s : State} {m : MethodId} {args : Array Value} {below : List Frame} {meth : Method} {c : Code} {H : Heap} {locs : List Loc} {cells slots : Nat}
variable {y : MethodName} {bytes cc : ByteArray} {maxL nL mc ms n index : Nat} {ret : Option FieldType} {ws : List Cond} {rm : Room} {Pc : Array Value → State → Prop} {Qc : Array Value → State → Outcome → State → Prop} {XC : String → State → State → Prop} {free : Addr → Prop} {Ts : List Cond} {own C : String} {b : Addr} {As rest : List Value} {g : JFrame}
theorem vx_callBack (cb : CallB R s args own index y bytes maxL ret ws rm mc ms n) (hM : vx_Met l y ws rm Pc Qc XC mc ms free) (hbl : FrameBlind Pc) : vx_Back l R p e below s args y 3 8 (PreOf R mc ms Pc) (PostOf Qc mc ms free) (vx_Post XC mc ms free) := by
  obtain ⟨hrc, hrs, hfr, hlo, hws, hcw, -, hini, -⟩ := cb
  exact vx_back (bytes := bytes) (maxL := maxL) (ret := ret) hM hbl hrc hrs hfr hlo hws hcw (fun a' U hW => word_at hW (Or.inl (by first | rfl | simp [Cond.onTables, Cond.keeps, Cond.steady])) hini)
theorem vx_runV (S : CallFix p m c cc nL s args Ts own) (hM : vx_Met l y ws rm Pc Qc XC mc ms free) (cw : CallW R s args own C index y bytes maxL ret ws rm mc ms n) (hp : PreV s H C b Pc As)
    (hg : g.method = m) (hn : As.length = n) (hsize : g.locals.size = nL) (hstack : g.stack = As.reverse ++ .ref b :: rest) (hW : 2 * g.monitorRoom + (rest.map fun v => v.category).sum ≤ 8) (hdg : decode cc g.pc = .ok (.invokevirtual index, 3)) (hf : cells + mc ≤ R.cells ∧ slots + ms ≤ R.slots) :
    vx_Run p l e R s m args below meth c H locs cells slots mc ms g rest (Qc (Value.ref b :: As).toArray) XC free := by
  have hK : vx_Back l R p e below s args y 3 8 (PreOf R mc ms Pc) (PostOf Qc mc ms free) (vx_Post XC mc ms free) := vx_callBack cw.1 hM hp.1
  obtain ⟨⟨-, -, -, -, -, -, hcode, -, hy, hlen, hl⟩, hin, hse⟩ := cw
  obtain ⟨hx, hb, hml, ho, -⟩ := S
  obtain ⟨-, ⟨cellB, hcB, hoB, hclB⟩, hPc⟩ := hp
  intro T hT X
  rcases vx_callV X hx (C := C) (bytes := bytes) (maxL := maxL) (ret := ret) ho hl hin hse hcode hy hK (by rw [hT]; exact hcB) hoB hclB hg (hsize.trans hml.symm) (argsL := As) (rest := rest) (fun sig h => hn.trans (hlen sig h)) hstack hW (by rw [hb]; exact hdg)
    (fun vm₁ hW₁ => ⟨hf.1, hf.2, hPc (T.setVm vm₁) hT hW₁⟩) with ⟨v, vm₁, ⟨U', l2, c2, s2⟩, hW₁, X', ⟨g', mk, t, L, e1, e2, hq, h1, hL, h2, h3⟩, st⟩ | ⟨q, vm₁, ⟨U', l2, c2, s2⟩, hW₁, X', ⟨g', mk, t, L, E, ce, e1, e2, hq, hce, hcv, hcl, h1, hL, h2, h3⟩, st⟩
  · dsimp only [Pt.U, Pt.locs, Pt.cells, Pt.slots] at X' e1 e2 h1 h2 h3 st
    subst h1; subst h2; subst h3
    exact Or.inl ⟨v, (T.setVm vm₁).calling g' mk (Value.ref b :: As).toArray, t, U', L, hT, X', hL, e1, e2, hq, st⟩
  · dsimp only [Pt.U, Pt.locs, Pt.cells, Pt.slots] at X' e1 e2 h1 h2 h3 st hcl
    subst h1; subst h2; subst h3
    exact Or.inr ⟨q, (T.setVm vm₁).calling g' mk (Value.ref b :: As).toArray, t, U', L, E, ce, hT, X', hL, e1, e2, hq, hce, hcv, vx_cls hW₁ hcl, st⟩
theorem vx_runS (S : CallFix p m c cc nL s args Ts own) (hM : vx_Met l y ws rm Pc Qc XC mc ms free) (cw : CallB R s args own index y bytes maxL ret ws rm mc ms n ∧ (Cond.static y).before args s = true) (hp : PreS s H Pc As)
    (hg : g.method = m) (hn : As.length = n) (hsize : g.locals.size = nL) (hstack : g.stack = As.reverse ++ rest) (hW : 2 * g.monitorRoom + (rest.map fun v => v.category).sum ≤ 8) (hdg : decode cc g.pc = .ok (.invokestatic index, 3)) (hf : cells + mc ≤ R.cells ∧ slots + ms ≤ R.slots) :
    vx_Run p l e R s m args below meth c H locs cells slots mc ms g rest (Qc As.toArray) XC free := by
  have hK : vx_Back l R p e below s args y 3 8 (PreOf R mc ms Pc) (PostOf Qc mc ms free) (vx_Post XC mc ms free) := vx_callBack cw.1 hM hp.1
  obtain ⟨⟨-, -, -, -, -, -, hcode, hini, hy, hlen, hl⟩, hstt⟩ := cw
  obtain ⟨hx, hb, hml, ho, -⟩ := S
  intro T hT X
  rcases vx_callS X hx (bytes := bytes) (maxL := maxL) (ret := ret) ho hl hstt hini hcode hy hK hg (hsize.trans hml.symm) (argsL := As) (rest := rest) (fun sig h => hn.trans (hlen sig h)) hstack hW (by rw [hb]; exact hdg)
    (fun vm₁ hW₁ => ⟨hf.1, hf.2, hp.2 (T.setVm vm₁) hT hW₁⟩) with ⟨v, vm₁, ⟨U', l2, c2, s2⟩, hW₁, X', ⟨g', mk, t, L, e1, e2, hq, h1, hL, h2, h3⟩, st⟩ | ⟨q, vm₁, ⟨U', l2, c2, s2⟩, hW₁, X', ⟨g', mk, t, L, E, ce, e1, e2, hq, hce, hcv, hcl, h1, hL, h2, h3⟩, st⟩
  · dsimp only [Pt.U, Pt.locs, Pt.cells, Pt.slots] at X' e1 e2 h1 h2 h3 st
    subst h1; subst h2; subst h3
    exact Or.inl ⟨v, (T.setVm vm₁).calling g' mk As.toArray, t, U', L, hT, X', hL, e1, e2, hq, st⟩
  · dsimp only [Pt.U, Pt.locs, Pt.cells, Pt.slots] at X' e1 e2 h1 h2 h3 st hcl
    subst h1; subst h2; subst h3
    exact Or.inr ⟨q, (T.setVm vm₁).calling g' mk As.toArray, t, U', L, E, ce, hT, X', hL, e1, e2, hq, hce, hcv, vx_cls hW₁ hcl, st⟩
end Runs
section Rows
variable {p : Program} {l : Launch} {e : Env} {R : Room} {s : State} {m : MethodId} {args : Array Value} {below : List Frame} {meth : Method} {c : Code} {H : Heap} {locs : List Loc} {cells slots : Nat} {Q : State → Prop}
variable {mc ms : Nat} {free : Addr → Prop} {A0 A1 : Nat → Prop} {H0 : Heap} {a : Array Value} {pc : Nat} {ls : Array Slot} {st0 rest : List Value}
theorem vx_keep {st₀ t T' : State} {L : List Loc} (h0 : st₀.heap = H) (e1 : T'.heap = t.heap) (hS : va_S A0 H0 H locs) (hA : ∀ q, q < H.size → A1 q → A0 q) (hf : ∀ q, free q → A0 q) (hL : ∀ q ∈ L, free q.base) (hF : va_F A1 st₀ t) :
    H.size ≤ T'.heap.size ∧ (∀ q : Nat, q < H.size → ¬ A1 q → T'.heap[q]? = H[q]?) ∧ va_S A0 H0 T'.heap (locs ++ L) := by
  obtain ⟨hz, hk⟩ := hF
  rw [h0] at hz hk
  exact ⟨by rw [e1]; exact hz, fun q h1 h2 => by rw [e1]; exact hk q h1 h2,
    ⟨Nat.le_trans hS.1 (by rw [e1]; exact hz), fun q h1 h2 => by rw [e1, hk q (Nat.lt_of_lt_of_le h1 hS.1) (fun z => h2 (hA q (Nat.lt_of_lt_of_le h1 hS.1) z))]; exact hS.2.1 q h1 h2, fun q hq => by
      rcases List.mem_append.mp hq with h | h
      · exact hS.2.2 q h
      · exact hf _ (hL q h)⟩⟩
theorem vx_calli {S SX : Type} {post : Int32 → S → Prop} {px : SX → Prop} {B : S → State → Prop} {BX : String → SX → State → Prop} {AX : Nat → Prop} (hr : vx_Run p l e R s m args below meth c H locs cells slots mc ms (F0 m pc ls st0) rest (va_Qi post B A1 a) (vx_X px BX AX) free) (hS : va_S A0 H0 H locs) (hA : ∀ q, q < H.size → A1 q → A0 q) (hf : ∀ q, free q → A0 q) (hAX : ∀ q, q < H.size → AX q → A0 q)
    (kx : ∀ (E : String) (ce : Cell) (q9 : Addr) (u : SX) (t : State) (H1 : Heap) (locs1 : List Loc), t.heap = H1 → s.vm.Alike t.vm → px u → BX E u t → H.size ≤ H1.size → (∀ q : Nat, q < H.size → ¬ AX q → H1[q]? = H[q]?) → va_S A0 H0 H1 locs1 → H1[q9]? = some ce → ce.vm = .none → s.vm.findClass E = some ce.cls → vx_W p l e R s m args below meth c H1 locs1 (cells + mc) (slots + ms) Q (F0 m pc ls rest) q9)
    (kk : ∀ (r : Int32) (u : S) (t : State) (H1 : Heap) (locs1 : List Loc), t.heap = H1 → s.vm.Alike t.vm → post r u → B u t → H.size ≤ H1.size → (∀ q : Nat, q < H.size → ¬ A1 q → H1[q]? = H[q]?) → va_S A0 H0 H1 locs1 → W p l e R s m args below meth c H1 locs1 (cells + mc) (slots + ms) Q (F0 m (pc + 3) ls (.int r :: rest))) : W p l e R s m args below meth c H locs cells slots Q (F0 m pc ls st0) := by
  intro T hT X
  rcases hr T hT X with ⟨v, st₀, t, T', L, h0, X', hL, e1, e2, ⟨⟨r, u, hv, hp, hb⟩, hF⟩, st⟩ | ⟨q, st₀, t, T', L, E, ce, h0, X', hL, e1, e2, ⟨u, hp, hb, hF⟩, hce, hcv, hcl, st⟩
  · cases hv
    obtain ⟨k1, k2, k3⟩ := vx_keep h0 e1 hS hA hf hL hF
    obtain ⟨t2, a1, b1⟩ := kk r u t T'.heap (locs ++ L) e1.symm (by rw [← e2]; exact X'.warmed.alike) hp hb k1 k2 k3 T' rfl X'
    exact ⟨t2, st t2 a1, b1⟩
  · obtain ⟨k1, k2, k3⟩ := vx_keep h0 e1 hS hAX hf hL hF
    obtain ⟨t2, a1, b1⟩ := kx E ce q u t T'.heap (locs ++ L) e1.symm (by rw [← e2]; exact X'.warmed.alike) hp hb k1 k2 k3 (by rw [e1]; exact hce) hcv hcl T' rfl X'
    exact ⟨t2, st.trans a1, b1⟩
theorem vx_calll {S SX : Type} {post : Int64 → S → Prop} {px : SX → Prop} {B : S → State → Prop} {BX : String → SX → State → Prop} {AX : Nat → Prop} (hr : vx_Run p l e R s m args below meth c H locs cells slots mc ms (F0 m pc ls st0) rest (va_Ql post B A1 a) (vx_X px BX AX) free) (hS : va_S A0 H0 H locs) (hA : ∀ q, q < H.size → A1 q → A0 q) (hf : ∀ q, free q → A0 q) (hAX : ∀ q, q < H.size → AX q → A0 q)
    (kx : ∀ (E : String) (ce : Cell) (q9 : Addr) (u : SX) (t : State) (H1 : Heap) (locs1 : List Loc), t.heap = H1 → s.vm.Alike t.vm → px u → BX E u t → H.size ≤ H1.size → (∀ q : Nat, q < H.size → ¬ AX q → H1[q]? = H[q]?) → va_S A0 H0 H1 locs1 → H1[q9]? = some ce → ce.vm = .none → s.vm.findClass E = some ce.cls → vx_W p l e R s m args below meth c H1 locs1 (cells + mc) (slots + ms) Q (F0 m pc ls rest) q9)
    (kk : ∀ (r : Int64) (u : S) (t : State) (H1 : Heap) (locs1 : List Loc), t.heap = H1 → s.vm.Alike t.vm → post r u → B u t → H.size ≤ H1.size → (∀ q : Nat, q < H.size → ¬ A1 q → H1[q]? = H[q]?) → va_S A0 H0 H1 locs1 → W p l e R s m args below meth c H1 locs1 (cells + mc) (slots + ms) Q (F0 m (pc + 3) ls (.long r :: rest))) : W p l e R s m args below meth c H locs cells slots Q (F0 m pc ls st0) := by
  intro T hT X
  rcases hr T hT X with ⟨v, st₀, t, T', L, h0, X', hL, e1, e2, ⟨⟨r, u, hv, hp, hb⟩, hF⟩, st⟩ | ⟨q, st₀, t, T', L, E, ce, h0, X', hL, e1, e2, ⟨u, hp, hb, hF⟩, hce, hcv, hcl, st⟩
  · cases hv
    obtain ⟨k1, k2, k3⟩ := vx_keep h0 e1 hS hA hf hL hF
    obtain ⟨t2, a1, b1⟩ := kk r u t T'.heap (locs ++ L) e1.symm (by rw [← e2]; exact X'.warmed.alike) hp hb k1 k2 k3 T' rfl X'
    exact ⟨t2, st t2 a1, b1⟩
  · obtain ⟨k1, k2, k3⟩ := vx_keep h0 e1 hS hAX hf hL hF
    obtain ⟨t2, a1, b1⟩ := kx E ce q u t T'.heap (locs ++ L) e1.symm (by rw [← e2]; exact X'.warmed.alike) hp hb k1 k2 k3 (by rw [e1]; exact hce) hcv hcl T' rfl X'
    exact ⟨t2, st.trans a1, b1⟩
theorem vx_callf {S SX : Type} {post : UInt32 → S → Prop} {px : SX → Prop} {B : S → State → Prop} {BX : String → SX → State → Prop} {AX : Nat → Prop} (hr : vx_Run p l e R s m args below meth c H locs cells slots mc ms (F0 m pc ls st0) rest (va_Qf post B A1 a) (vx_X px BX AX) free) (hS : va_S A0 H0 H locs) (hA : ∀ q, q < H.size → A1 q → A0 q) (hf : ∀ q, free q → A0 q) (hAX : ∀ q, q < H.size → AX q → A0 q)
    (kx : ∀ (E : String) (ce : Cell) (q9 : Addr) (u : SX) (t : State) (H1 : Heap) (locs1 : List Loc), t.heap = H1 → s.vm.Alike t.vm → px u → BX E u t → H.size ≤ H1.size → (∀ q : Nat, q < H.size → ¬ AX q → H1[q]? = H[q]?) → va_S A0 H0 H1 locs1 → H1[q9]? = some ce → ce.vm = .none → s.vm.findClass E = some ce.cls → vx_W p l e R s m args below meth c H1 locs1 (cells + mc) (slots + ms) Q (F0 m pc ls rest) q9)
    (kk : ∀ (r : UInt32) (u : S) (t : State) (H1 : Heap) (locs1 : List Loc), t.heap = H1 → s.vm.Alike t.vm → post r u → B u t → H.size ≤ H1.size → (∀ q : Nat, q < H.size → ¬ A1 q → H1[q]? = H[q]?) → va_S A0 H0 H1 locs1 → W p l e R s m args below meth c H1 locs1 (cells + mc) (slots + ms) Q (F0 m (pc + 3) ls (.float r :: rest))) : W p l e R s m args below meth c H locs cells slots Q (F0 m pc ls st0) := by
  intro T hT X
  rcases hr T hT X with ⟨v, st₀, t, T', L, h0, X', hL, e1, e2, ⟨⟨r, u, hv, hp, hb⟩, hF⟩, st⟩ | ⟨q, st₀, t, T', L, E, ce, h0, X', hL, e1, e2, ⟨u, hp, hb, hF⟩, hce, hcv, hcl, st⟩
  · cases hv
    obtain ⟨k1, k2, k3⟩ := vx_keep h0 e1 hS hA hf hL hF
    obtain ⟨t2, a1, b1⟩ := kk r u t T'.heap (locs ++ L) e1.symm (by rw [← e2]; exact X'.warmed.alike) hp hb k1 k2 k3 T' rfl X'
    exact ⟨t2, st t2 a1, b1⟩
  · obtain ⟨k1, k2, k3⟩ := vx_keep h0 e1 hS hAX hf hL hF
    obtain ⟨t2, a1, b1⟩ := kx E ce q u t T'.heap (locs ++ L) e1.symm (by rw [← e2]; exact X'.warmed.alike) hp hb k1 k2 k3 (by rw [e1]; exact hce) hcv hcl T' rfl X'
    exact ⟨t2, st.trans a1, b1⟩
theorem vx_calld {S SX : Type} {post : UInt64 → S → Prop} {px : SX → Prop} {B : S → State → Prop} {BX : String → SX → State → Prop} {AX : Nat → Prop} (hr : vx_Run p l e R s m args below meth c H locs cells slots mc ms (F0 m pc ls st0) rest (va_Qd post B A1 a) (vx_X px BX AX) free) (hS : va_S A0 H0 H locs) (hA : ∀ q, q < H.size → A1 q → A0 q) (hf : ∀ q, free q → A0 q) (hAX : ∀ q, q < H.size → AX q → A0 q)
    (kx : ∀ (E : String) (ce : Cell) (q9 : Addr) (u : SX) (t : State) (H1 : Heap) (locs1 : List Loc), t.heap = H1 → s.vm.Alike t.vm → px u → BX E u t → H.size ≤ H1.size → (∀ q : Nat, q < H.size → ¬ AX q → H1[q]? = H[q]?) → va_S A0 H0 H1 locs1 → H1[q9]? = some ce → ce.vm = .none → s.vm.findClass E = some ce.cls → vx_W p l e R s m args below meth c H1 locs1 (cells + mc) (slots + ms) Q (F0 m pc ls rest) q9)
    (kk : ∀ (r : UInt64) (u : S) (t : State) (H1 : Heap) (locs1 : List Loc), t.heap = H1 → s.vm.Alike t.vm → post r u → B u t → H.size ≤ H1.size → (∀ q : Nat, q < H.size → ¬ A1 q → H1[q]? = H[q]?) → va_S A0 H0 H1 locs1 → W p l e R s m args below meth c H1 locs1 (cells + mc) (slots + ms) Q (F0 m (pc + 3) ls (.double r :: rest))) : W p l e R s m args below meth c H locs cells slots Q (F0 m pc ls st0) := by
  intro T hT X
  rcases hr T hT X with ⟨v, st₀, t, T', L, h0, X', hL, e1, e2, ⟨⟨r, u, hv, hp, hb⟩, hF⟩, st⟩ | ⟨q, st₀, t, T', L, E, ce, h0, X', hL, e1, e2, ⟨u, hp, hb, hF⟩, hce, hcv, hcl, st⟩
  · cases hv
    obtain ⟨k1, k2, k3⟩ := vx_keep h0 e1 hS hA hf hL hF
    obtain ⟨t2, a1, b1⟩ := kk r u t T'.heap (locs ++ L) e1.symm (by rw [← e2]; exact X'.warmed.alike) hp hb k1 k2 k3 T' rfl X'
    exact ⟨t2, st t2 a1, b1⟩
  · obtain ⟨k1, k2, k3⟩ := vx_keep h0 e1 hS hAX hf hL hF
    obtain ⟨t2, a1, b1⟩ := kx E ce q u t T'.heap (locs ++ L) e1.symm (by rw [← e2]; exact X'.warmed.alike) hp hb k1 k2 k3 (by rw [e1]; exact hce) hcv hcl T' rfl X'
    exact ⟨t2, st.trans a1, b1⟩
theorem vx_callv {S SX : Type} {post : S → Prop} {px : SX → Prop} {B : S → State → Prop} {BX : String → SX → State → Prop} {AX : Nat → Prop} (hr : vx_Run p l e R s m args below meth c H locs cells slots mc ms (F0 m pc ls st0) rest (va_Qv post B A1 a) (vx_X px BX AX) free) (hS : va_S A0 H0 H locs) (hA : ∀ q, q < H.size → A1 q → A0 q) (hf : ∀ q, free q → A0 q) (hAX : ∀ q, q < H.size → AX q → A0 q)
    (kx : ∀ (E : String) (ce : Cell) (q9 : Addr) (u : SX) (t : State) (H1 : Heap) (locs1 : List Loc), t.heap = H1 → s.vm.Alike t.vm → px u → BX E u t → H.size ≤ H1.size → (∀ q : Nat, q < H.size → ¬ AX q → H1[q]? = H[q]?) → va_S A0 H0 H1 locs1 → H1[q9]? = some ce → ce.vm = .none → s.vm.findClass E = some ce.cls → vx_W p l e R s m args below meth c H1 locs1 (cells + mc) (slots + ms) Q (F0 m pc ls rest) q9)
    (kk : ∀ (u : S) (t : State) (H1 : Heap) (locs1 : List Loc), t.heap = H1 → s.vm.Alike t.vm → post u → B u t → H.size ≤ H1.size → (∀ q : Nat, q < H.size → ¬ A1 q → H1[q]? = H[q]?) → va_S A0 H0 H1 locs1 → W p l e R s m args below meth c H1 locs1 (cells + mc) (slots + ms) Q (F0 m (pc + 3) ls (rest))) : W p l e R s m args below meth c H locs cells slots Q (F0 m pc ls st0) := by
  intro T hT X
  rcases hr T hT X with ⟨v, st₀, t, T', L, h0, X', hL, e1, e2, ⟨⟨u, hv, hp, hb⟩, hF⟩, st⟩ | ⟨q, st₀, t, T', L, E, ce, h0, X', hL, e1, e2, ⟨u, hp, hb, hF⟩, hce, hcv, hcl, st⟩
  · cases hv
    obtain ⟨k1, k2, k3⟩ := vx_keep h0 e1 hS hA hf hL hF
    obtain ⟨t2, a1, b1⟩ := kk u t T'.heap (locs ++ L) e1.symm (by rw [← e2]; exact X'.warmed.alike) hp hb k1 k2 k3 T' rfl X'
    exact ⟨t2, st t2 a1, b1⟩
  · obtain ⟨k1, k2, k3⟩ := vx_keep h0 e1 hS hAX hf hL hF
    obtain ⟨t2, a1, b1⟩ := kx E ce q u t T'.heap (locs ++ L) e1.symm (by rw [← e2]; exact X'.warmed.alike) hp hb k1 k2 k3 (by rw [e1]; exact hce) hcv hcl T' rfl X'
    exact ⟨t2, st.trans a1, b1⟩
/-- caught by the row x of this method's table; the rows ahead don't take it -/
theorem vx_catch {own name : String} {E : String} {ce : Cell} {q : Addr} (hown : s.vm.findClass own = some m.cls) (pre : List ExceptionTableEntry) (x : ExceptionTableEntry) (suf : List ExceptionTableEntry) (hsplit : c.exceptionTable.toList = pre ++ x :: suf)
    (hpass : ∀ z ∈ pre, covers z pc = false ∨ (z.catchType ≠ 0 ∧ ∃ nm : String, (Cond.classLink own z.catchType nm).before args s = true ∧ va_Nc E nm s)) (hx : covers x pc = true) (h0 : x.catchType ≠ 0)
    (hlink : (Cond.classLink own x.catchType name).before args s = true) (hcast : (Cond.castable E name).before args s = true) (hcell : H[q]? = some ce) (hv : ce.vm = .none) (hcl : s.vm.findClass E = some ce.cls)
    (kk : W p l e R s m args below meth c H locs cells slots Q (F0 m x.handlerPc ls [.ref q])) : vx_W p l e R s m args below meth c H locs cells slots Q (F0 m pc ls rest) q := by
  intro T hT X
  have hpl : e.platform.magicAccessors = ({} : Platform).magicAccessors := by rw [X.admits.platform]
  obtain ⟨c3, c4, hc3, hc4, hasg⟩ := Cond.castable_spec hcast
  cases Option.some.inj (hc3.symm.trans hcl)
  obtain ⟨c5, hc5, hcl5⟩ := Cond.classLink_spec hown hlink e.platform hpl
  cases Option.some.inj (hc4.symm.trans hc5)
  obtain ⟨vm', X', st⟩ := X.thenCaughtThrough q (g := F0 m pc ls rest) rfl (Steps.refl _) (by rw [hT]; exact hcell) (by rw [hv]; rfl) (by obtain ⟨k9, h9, -⟩ := Vm.findClass_spec hcl; exact ⟨k9, h9⟩) pre x suf hsplit
    (fun z hz => by
      rcases hpass z hz with h | ⟨hz0, nm, hl1, hn1⟩
      · exact Or.inl h
      · obtain ⟨c6, hc6, hcl6⟩ := Cond.classLink_spec hown hl1 e.platform hpl
        obtain ⟨a8, b8, h1, h2, h3⟩ := hn1
        cases Option.some.inj (h1.symm.trans hcl)
        cases Option.some.inj (h2.symm.trans hc6)
        exact Or.inr ⟨hz0, _, hcl6, h3⟩) hx (Or.inr ⟨h0, c4, hcl5, hasg⟩)
  obtain ⟨t, a1, b1⟩ := kk (T.setVm vm') hT X'
  exact ⟨t, st.trans a1, b1⟩
end Rows
section Ends
variable {p : Program} {l : Launch} {e : Env} {R : Room} {s : State} {m : MethodId} {args : Array Value} {below : List Frame} {meth : Method} {c : Code} {H : Heap} {locs : List Loc} {cells slots : Nat} {Q : State → Prop}
variable {mc ms : Nat} {free : Addr → Prop} {A0 A1 : Nat → Prop} {H0 : Heap} {a : Array Value} {ls : Array Slot} {st0 rest : List Value}
variable {Qc : Array Value → State → Outcome → State → Prop} {XC : String → State → State → Prop}
/-- what a body that may throw owes at its end -/
def vx_MQ (below : List Frame) (Qc : Array Value → State → Outcome → State → Prop) (XC : String → State → State → Prop) (a : Array Value) (s : State) (mc ms : Nat) (free : Addr → Prop) : State → Prop := fun t =>
  ∃ o, t.status = .running ∧ Ended t below o ∧ vx_Q Qc XC mc ms free a s o t
theorem vx_ret {g : JFrame} {mc ms : Nat} (k : W p l e R s m args below meth c H locs cells slots (MQ below Qc args s mc ms free) g) : W p l e R s m args below meth c H locs cells slots (vx_MQ below Qc XC args s mc ms free) g := by
  intro T hT X
  obtain ⟨t, a1, o, b1, b2, b3, b4⟩ := k T hT X
  exact ⟨t, a1, o, b1, b2, Or.inl ⟨b3, b4⟩⟩
/-- not caught here: it goes on to the caller -/
theorem vx_widen {g : JFrame} {q : Addr} {k n : Nat} (h1 : cells ≤ k) (h2 : slots ≤ n) (kk : vx_W p l e R s m args below meth c H locs k n Q g q) : vx_W p l e R s m args below meth c H locs cells slots Q g q := fun T hT X => kk T hT (stand_widen X h1 h2)
theorem vx_out {pc : Nat} {E : String} {ce : Cell} {q : Addr} {mc ms : Nat} (hout : ∀ x ∈ c.exceptionTable.toList, covers x pc = false) (hlocks : meth.locks = false) (hcell : H[q]? = some ce) (hv : ce.vm = .none) (hcl : s.vm.findClass E = some ce.cls)
    (hx : ∀ t : State, t.heap = H → s.vm.Alike t.vm → XC E s t) (hf : ∀ z ∈ locs, free z.base) (hc : cells ≤ mc) (hs : slots ≤ ms) :
    vx_W p l e R s m args below meth c H locs cells slots (vx_MQ below Qc XC args s mc ms free) (F0 m pc ls rest) q := by
  intro T hT X
  obtain ⟨st1, hrun, hend, hW, hsm⟩ := X.leaveThrown q (g := F0 m pc ls rest) rfl rfl rfl hout hlocks
  have hcell9 : (T.setFrames (.throwing q :: below)).heap[q]? = some ce := by
    show T.heap[q]? = some ce
    rw [hT]; exact hcell
  exact ⟨_, st1, .threw q, hrun, hend, Or.inr ⟨q, rfl, E, ce, locs, hx _ hT hW.alike, hcell9, hv, hcl, hW, hsm.mono hc hs, hf⟩⟩
theorem vx_frame {U : State} {k n : Nat} (h : s.sameButNew ({ U with vm := s.vm } : State) locs k n) : s.heap.size ≤ U.heap.size ∧ ∀ q : Nat, q < s.heap.size → (∀ z ∈ locs, z.base ≠ q) → U.heap[q]? = s.heap[q]? := by
  obtain ⟨-, h2, -, -, -, h6⟩ := h
  refine ⟨h2, fun q hq hz => ?_⟩
  obtain ⟨c9, e1, e2, e3, e4⟩ := h6 q _ (Array.getElem?_eq_getElem hq)
  have hs : c9.slots = (s.heap[q]).slots := Array.ext_getElem? fun i => e4 i fun hm => hz _ hm rfl
  have h9 : c9 = s.heap[q] := by
    rw [hs] at e2
    exact e2
  have e5 : U.heap[q]? = some c9 := e1
  rw [e5, h9, Array.getElem?_eq_getElem hq]
/-- the words of a throw but the four that speak of the heap -/
def vx_no (w : Cond) : Bool := decide (w ≠ .isRef (.static Bundle.tN "UNASSIGNED_STACK" Bundle.steD)) && decide (w ≠ .isRef (.static Bundle.tN "SUPPRESSED_SENTINEL" Bundle.listD)) && decide (w ≠ .laysStatic Bundle.tN "UNASSIGNED_STACK" Bundle.steD) && decide (w ≠ .laysStatic Bundle.tN "SUPPRESSED_SENTINEL" Bundle.listD)
def vx_at0 (own : String) (ic : Nat) (X : String) (names : List String) : List Cond := (Bundle.ownAtoms0 own ic X names).filter vx_no
def vx_atS (own : String) (ic : Nat) (X : String) (names : List String) : List Cond := (Bundle.ownAtoms own ic X names).filter vx_no
/-- a word that the tables alone decide, or a good one -/
def vx_ot (w : Cond) : Bool := w.onTables || goodWord w
theorem vx_ot_at {args a' : Array Value} {s U : State} {w : Cond} (hW : s.WarmedH U.vm) (hvm : s.vm = U.vm) (hg : vx_ot w = true) (h : w.before args s = true) : w.before a' U = true := by
  simp only [vx_ot, Bool.or_eq_true] at hg
  rcases hg with hg | hg
  · exact va_tabs hg hvm h
  · exact word_at hW (good_of_word hg) h
/-- a list's words: the good ones out of the method's own list, the others by premises of their own -/
theorem vx_hat {args : Array Value} {s : State} {L B : List Cond} (h1 : ∀ w ∈ L.filter goodWord, w.before args s = true) (h2 : ∀ w ∈ L.filter (fun w => !goodWord w), w ∈ B) (h3 : ∀ w ∈ B, w.before args s = true) : ∀ w ∈ L, w.before args s = true := by
  intro w hw
  by_cases g : goodWord w = true
  · exact h1 w (List.mem_filter.mpr ⟨hw, g⟩)
  · refine h3 w (h2 w (List.mem_filter.mpr ⟨hw, ?_⟩))
    show (!goodWord w) = true
    cases hgw : goodWord w
    · rfl
    · exact absurd hgw g
theorem vx_c {args : Array Value} {s : State} {w : Cond} {B : List Cond} (h : w.before args s = true) (t : ∀ w ∈ B, w.before args s = true) : ∀ w' ∈ w :: B, w'.before args s = true := fun w' h' => (List.mem_cons.mp h').elim (fun e => by rw [e]; exact h) (t w')
theorem vx_n {args : Array Value} {s : State} : ∀ w ∈ ([] : List Cond), w.before args s = true := fun _ h => nomatch h
theorem vx_own {args : Array Value} {s : State} {L : List Cond} (h1 : ∀ w ∈ L.filter vx_no, w.before args s = true)
    (hU : (Cond.isRef (.static Bundle.tN "UNASSIGNED_STACK" Bundle.steD)).before args s = true) (hN : (Cond.isRef (.static Bundle.tN "SUPPRESSED_SENTINEL" Bundle.listD)).before args s = true)
    (lU : (Cond.laysStatic Bundle.tN "UNASSIGNED_STACK" Bundle.steD).before args s = true) (lN : (Cond.laysStatic Bundle.tN "SUPPRESSED_SENTINEL" Bundle.listD).before args s = true) : ∀ w ∈ L, w.before args s = true := by
  intro w hw
  by_cases e1 : w = .isRef (.static Bundle.tN "UNASSIGNED_STACK" Bundle.steD)
  · rw [e1]; exact hU
  · by_cases e2 : w = .isRef (.static Bundle.tN "SUPPRESSED_SENTINEL" Bundle.listD)
    · rw [e2]; exact hN
    · by_cases e3 : w = .laysStatic Bundle.tN "UNASSIGNED_STACK" Bundle.steD
      · rw [e3]; exact lU
      · by_cases e4 : w = .laysStatic Bundle.tN "SUPPRESSED_SENTINEL" Bundle.listD
        · rw [e4]; exact lN
        · exact h1 w (List.mem_filter.mpr ⟨hw, by unfold vx_no; rw [decide_eq_true e1, decide_eq_true e2, decide_eq_true e3, decide_eq_true e4]; rfl⟩)
/-- where a static field lies, its class's statics cell in H -/
def vx_L (C n d : String) (A : Nat → Prop) (U : State) (H : Heap) : Prop := ∃ (c : ClassId) (k : Class) (i : Nat) (f : Field) (a : Nat) (cell : Cell), U.vm.findClass C = some c ∧ U.fieldFound? C n d = some (c, k, i, f) ∧ f.isStatic = true ∧ k.statics = some a ∧ H[a]? = some cell ∧ cell.vm.isStatics = true ∧ cell.cls = c ∧ f.slot < cell.slots.size ∧ k.staticTypes[f.slot]? = some f.type ∧ ¬ A a
theorem vx_L.moved {C n d : String} {A : Nat → Prop} {u U : State} {H : Heap} (hvm : u.vm.Alike U.vm) (h : vx_L C n d A u H) : vx_L C n d A U H := by
  obtain ⟨c, k, i, f, a, cell, h1, h2, h3, h4, h5, h6, h7, h8, h9, h10⟩ := h
  obtain ⟨k', hi', he⟩ := State.fieldFound?_setVm hvm h2
  exact ⟨c, k', i, f, a, cell, by rw [hvm.findClass]; exact h1, hi', h3, by rw [he]; exact h4, h5, h6, h7, h8, by rw [he]; exact h9, h10⟩
theorem vx_L.kept {C n d : String} {A : Nat → Prop} {U : State} {H H1 : Heap} (h : vx_L C n d A U H) (hq : ∀ a : Nat, a < H.size → ¬ A a → H1[a]? = H[a]?) : vx_L C n d A U H1 := by
  obtain ⟨c, k, i, f, a, cell, h1, h2, h3, h4, h5, h6, h7, h8, h9, h10⟩ := h
  exact ⟨c, k, i, f, a, cell, h1, h2, h3, h4, by rw [hq a (Array.getElem?_eq_some_iff.mp h5).1 h10]; exact h5, h6, h7, h8, h9, h10⟩
theorem vx_L.narrow {C n d : String} {A B : Nat → Prop} {U : State} {H : Heap} (h : vx_L C n d A U H) (hAB : ∀ q, B q → A q) : vx_L C n d B U H := by
  obtain ⟨c, k, i, f, a, cell, h1, h2, h3, h4, h5, h6, h7, h8, h9, h10⟩ := h
  exact ⟨c, k, i, f, a, cell, h1, h2, h3, h4, h5, h6, h7, h8, h9, fun z => h10 (hAB _ z)⟩
theorem vx_L.word {C n d : String} {A : Nat → Prop} {s : State} {args : Array Value} (h : vx_L C n d A s s.heap) : (Cond.laysStatic C n d).before args s = true := by
  obtain ⟨c, k, i, f, a, cell, h1, h2, h3, h4, h5, h6, h7, h8, h9, -⟩ := h
  show (Cond.laysStatic C n d).holds args s none s [] = true
  exact Cond.laysStatic_of h1 h2 h3 h4 h5 h6 h7 h8 h9
/-- .. and what it holds: null or some reference -/
def vx_Zq (C n d : String) (A : Nat → Prop) (U : State) (H : Heap) : Prop := va_Zq C n d A U H ∧ vx_L C n d A U H
theorem vx_Zq.moved {C n d : String} {A : Nat → Prop} {u U : State} {H : Heap} (hvm : u.vm.Alike U.vm) (h : vx_Zq C n d A u H) : vx_Zq C n d A U H := ⟨va_Zq.moved hvm h.1, vx_L.moved hvm h.2⟩
theorem vx_Zq.kept {C n d : String} {A : Nat → Prop} {U : State} {H H1 : Heap} (h : vx_Zq C n d A U H) (hq : ∀ a : Nat, a < H.size → ¬ A a → H1[a]? = H[a]?) : vx_Zq C n d A U H1 := ⟨va_Zq.kept h.1 hq, vx_L.kept h.2 hq⟩
theorem vx_Zq.narrow {C n d : String} {A B : Nat → Prop} {U : State} {H : Heap} (h : vx_Zq C n d A U H) (hAB : ∀ q, B q → A q) : vx_Zq C n d B U H := ⟨va_Zq.narrow h.1 hAB, vx_L.narrow h.2 hAB⟩
theorem vx_Zqof {args : Array Value} {s : State} {C n d : String} {A : Nat → Prop} (hl : (Cond.laysStatic C n d).before args s = true) (hini : (Cond.initialized C).before args s = true) (h : (Cond.isRef (.static C n d)).before args s = true) (hA : ∀ a : Nat, a < s.heap.size → ¬ A a) : vx_Zq C n d A s s.heap := by
  refine ⟨va_Zqof hl hini h hA, ?_⟩
  obtain ⟨c, k, i, f, a, cell, h1, h2, h3, h4, h5, h6, h7, h8, h9⟩ := Cond.laysStatic_spec hl
  exact ⟨c, k, i, f, a, cell, h1, h2, h3, h4, h5, h6, h7, h8, h9, hA a (Array.getElem?_eq_some_iff.mp h5).1⟩
theorem vx_isRef {C n d : String} {v : Value} {A : Nat → Prop} {s : State} {args : Array Value} (h : va_Z C n d v A s s.heap) (hv : v.isRef = true) : (Cond.isRef (.static C n d)).before args s = true := by
  obtain ⟨cf, kf, fi, f, a, cell, h1, h2, h3, h4, h5, h6, h7, -⟩ := h
  have he : (Term.static C n d).eval args s none [] s = some v := by
    simp [Term.eval, State.fieldNamed?, h1, h2, h4, h5, h6, h7]
  simp only [Cond.before, Cond.holds, Cond.value, he]
  cases v <;> simp_all [Value.isRef]
theorem vx_isRefq {C n d : String} {A : Nat → Prop} {s : State} {args : Array Value} (h : va_Zq C n d A s s.heap) : (Cond.isRef (.static C n d)).before args s = true := by
  rcases h with h | ⟨t, h⟩
  · exact vx_isRef h rfl
  · exact vx_isRef h rfl
/-- the same frame, seen from here: as if the method were called anew in this heap -/
theorem vx_rebase {T : State} (X : Stand p l e R s m args below meth c T locs cells slots) {R' : Room} (hf : R'.frames ≤ R.frames) (hl : R'.locals ≤ R.locals) (hc : cells + R'.cells ≤ R.cells) (hs : slots + R'.slots ≤ R.slots) :
    Stand p l e R' ((T.setVm s.vm).setFrames (.invoking m args :: below)) m args below meth c T [] 0 0 := by
  have htop : (T.setVm s.vm).topJava?.isSome := X.here.top
  have hF : ((T.setVm s.vm).setFrames (.invoking m args :: below)).frames = .invoking m args :: below := State.frames_setFrames _ (State.cur_lt_of_top htop)
  obtain ⟨g₀, hg0⟩ := Option.isSome_iff_exists.mp htop
  obtain ⟨r, hr⟩ := State.topJava?_eq_some.mp hg0
  have hl9 : e.platform.stackLimits (T.setVm s.vm).me = e.platform.stackLimits s.me := X.limits
  have hb9 : (T.setVm s.vm).me.stackBytes = s.me.stackBytes := X.bytes
  refine ⟨X.admits, X.cas, X.clock, hF, ?_, X.hears, X.method, X.code, X.here, X.tail, X.warmed, ?_, ?_, ?_⟩
  · have h := X.room
    have hU : ((T.setVm s.vm).setFrames (.invoking m args :: below)).localsInUse = s.localsInUse := by
      rw [State.localsInUse_invoking hF (meth := meth) (c := c) X.method X.code, State.localsInUse_invoking X.frames X.method X.code]
    simp only [State.hasRoom, Bool.and_eq_true, decide_eq_true_eq] at h ⊢
    obtain ⟨⟨⟨⟨h1, h2, h3, h4, h5, h6⟩, h7⟩, h8⟩, h9⟩ := h
    rw [X.frames, List.length_cons] at h2 h3
    have q1 := X.heapSize
    have q2 := X.used
    simp only [hF, hU, List.length_cons, State.stackLimits_setFrames, State.stackBytes_setFrames, hl9, hb9]
    refine ⟨⟨⟨⟨by omega, by omega, by omega, by omega, by omega, h6⟩, ?_⟩, ?_⟩, X.book⟩
    · show T.heap.size + R'.cells ≤ e.platform.maxCells
      omega
    · show T.slotsUsed + R'.slots ≤ e.platform.maxSlots
      omega
  · rw [State.stackLimits_setFrames]; rfl
  · rw [State.stackBytes_setFrames]; rfl
  · refine ⟨?_, Nat.le_refl _, Nat.le_refl _, ?_, ?_, fun a c9 h9 => ⟨c9, h9, rfl, rfl, fun _ _ => rfl⟩⟩
    · obtain ⟨t, ht, -⟩ := State.frames_cons hr
      show T.setVm s.vm = { ((T.setVm s.vm).setFrames (.invoking m args :: below)).setFrames (T.setVm s.vm).frames with heap := T.heap, slotsUsed := T.slotsUsed }
      rw [State.setFrames_setFrames, State.setFrames_self ht]
      rfl
    · show T.slotsUsed = T.slotsUsed + ((T.heap.toList.drop T.heap.size).map (·.slots.size)).sum
      rw [List.drop_eq_nil_of_le (Nat.le_of_eq Array.length_toList)]
      rfl
    · show ((T.heap.toList.drop T.heap.size).map (·.slots.size)).sum ≤ 0
      rw [List.drop_eq_nil_of_le (Nat.le_of_eq Array.length_toList)]
      exact Nat.le_refl _
/-- 'throw new E()': new; dup; invokespecial; athrow -/
theorem vx_throw0 {cc : ByteArray} {pc : Nat} (hexec : p.tables.exec = Jvm.exec) (hb : c.code = cc) (hl : l.stackTraces = false) {own cls : String} {names : List String} {ik ic mc ms : Nat} {A : Nat → Prop}
    (hown : s.vm.findClass own = some m.cls) (hcls : Bundle.fit cls = true) (hnames : ∀ n ∈ names, Bundle.fit n = true)
    (hk : (Cond.classLink own ik cls).before args s = true) (hini : (Cond.initialized cls).before args s = true) (hat : ∀ w ∈ vx_at0 own ic cls names, w.before args s = true)
    (hgood : ∀ w ∈ Cond.classLink own ik cls :: Cond.initialized cls :: vx_at0 own ic cls names, vx_ot w = true)
    (hU : vx_Zq Bundle.tN "UNASSIGNED_STACK" Bundle.steD A s s.heap) (hN : vx_Zq Bundle.tN "SUPPRESSED_SENTINEL" Bundle.listD A s s.heap) (hS : va_S A s.heap H locs) (hsize : ls.size = c.maxLocals)
    (d0 : decode cc pc = .ok (.new ik, 3)) (d3 : decode cc (pc + 3) = .ok (.dup, 1)) (d4 : decode cc (pc + 4) = .ok (.invokespecial ic, 3)) (d7 : decode cc (pc + 7) = .ok (.athrow, 1))
    (hout : ∀ x ∈ c.exceptionTable.toList, covers x (pc + 7) = false)
    (hRframes : names.length + 3 < R.frames) (hRlocals : (rest.map fun v => v.category).sum + (13 * (names.length + 1) + 42) ≤ R.locals) (hRcells : cells + 1 ≤ R.cells) (hRslots : slots + 6 ≤ R.slots) (hlocks : meth.locks = false)
    (hx : ∀ t : State, s.vm.Alike t.vm → H.size ≤ t.heap.size → (∀ q : Nat, q < H.size → t.heap[q]? = H[q]?) → XC cls s t)
    (hf : ∀ z ∈ locs, free z.base) (hc : cells + 1 ≤ mc) (hs : slots + 6 ≤ ms) :
    W p l e R s m args below meth c H locs cells slots (vx_MQ below Qc XC args s mc ms free) (F0 m pc ls rest) := by
  intro T hT X
  have htr : e.platform.stackTraces = false := (show e.platform.stackTraces = l.stackTraces by rw [X.admits.platform]).trans hl
  have Y := vx_rebase X (R' := { frames := R.frames, locals := R.locals, cells := 1, slots := 6 }) (Nat.le_refl _) (Nat.le_refl _) hRcells hRslots
  obtain ⟨s', hA⟩ : ∃ z, z = (T.setVm s.vm).setFrames (.invoking m args :: below) := ⟨_, rfl⟩
  rw [← hA] at Y
  have hvm : s'.vm = s.vm := by rw [hA]; rfl
  have hhp : s'.heap = H := by rw [hA]; exact hT
  have hW0 : s.WarmedH s'.vm := by rw [hvm]; exact State.WarmedH.refl s
  have hat' : ∀ w ∈ vx_at0 own ic cls names, w.before args s' = true := fun w hw => vx_ot_at hW0 hvm.symm (hgood w (List.mem_cons_of_mem _ (List.mem_cons_of_mem _ hw))) (hat w hw)
  have hk' : (Cond.classLink own ik cls).before args s' = true := vx_ot_at hW0 hvm.symm (hgood _ List.mem_cons_self) hk
  have hini' : (Cond.initialized cls).before args s' = true := vx_ot_at hW0 hvm.symm (hgood _ (List.mem_cons_of_mem _ List.mem_cons_self)) hini
  have hU' : vx_Zq Bundle.tN "UNASSIGNED_STACK" Bundle.steD A s' s'.heap := by rw [hhp]; exact vx_Zq.moved hW0.alike (hU.kept hS.2.1)
  have hN' : vx_Zq Bundle.tN "SUPPRESSED_SENTINEL" Bundle.listD A s' s'.heap := by rw [hhp]; exact vx_Zq.moved hW0.alike (hN.kept hS.2.1)
  have h : ∀ w ∈ Bundle.ownAtoms0 own ic cls names, w.before args s' = true := vx_own hat' (vx_isRefq hU'.1) (vx_isRefq hN'.1) hU'.2.word hN'.2.word
  have hown' : s'.vm.findClass own = some m.cls := by rw [hvm]; exact hown
  have hins : (Cond.instantiable cls 6).before args s' = true := h _ (by simp [Bundle.ownAtoms0])
  obtain ⟨vm₁, cX, kX, hfX, hkX, -, -, X₁, st1⟩ := Y.newCold hexec (own := own) (C := cls) (index := ik) (n := 6) hown' hk' hins hini'
    (g := F0 m pc ls rest) rfl (by rw [hb]; exact d0) (Nat.le_refl _) (Nat.le_refl _)
  generalize hT1 : (T.setVm vm₁).pushCell { cls := cX, slots := kX.instanceTypes.map defaultValue, vm := .none } = T1 at X₁ st1
  have hcat : (Value.ref T.heap.size).category = 1 := rfl
  have hcellA : T1.heap[T.heap.size]? = some (freshCell cX kX) := by rw [← hT1]; exact State.heap_pushCell_size _ _
  have d3' : decode c.code (pc + 3) = .ok (.dup, 1) := by rw [hb]; exact d3
  obtain ⟨U, hsteps, hrun, hend, hW, hsame, ce, hce, hO⟩ := X₁.ctorThrow0 hexec htr (own := own) (cls := cls) (names := names) (ic := ic) hown' hcls hnames h (fun x hx => nomatch hx) hfX hkX hcellA (by rw [hhp, hT]; exact Nat.le_refl _)
    (g := { method := m, pc := pc + 4, locals := ls, stack := .ref T.heap.size :: .ref T.heap.size :: rest, locked := none }) rfl hsize rfl rfl (rest := rest) rfl
    (by rw [hb]; exact d4) (by rw [hb]; exact d7) hout hRframes (by simp only [List.map_cons, List.sum_cons, hcat]; omega) hlocks
  obtain ⟨f1, f2⟩ := vx_frame hsame
  rw [hhp] at f1 f2
  have hWs : s.WarmedH U.vm := State.WarmedH.trans hW0 hW
  have hcl : s.vm.findClass cls = some ce.cls := by
    have h9 := hO.cls
    rw [hvm] at h9
    exact h9
  have hall : s.sameButNew ({ U with vm := s.vm } : State) locs mc ms := by
    subst hA
    obtain ⟨e1, e2⟩ := hsame
    rw [State.setFrames_setFrames] at e1
    have h2 : (T.setVm s.vm).sameButNew ({ U with vm := s.vm } : State) [] (0 + 1) (0 + 6) := ⟨e1, e2⟩
    have h3 := X.same.trans h2
    rw [List.append_nil] at h3
    exact h3.mono hc hs
  refine ⟨U, ?_, .threw T.heap.size, hrun, hend, Or.inr ⟨T.heap.size, rfl, cls, ce, locs, hx U hWs.alike f1 (fun q hq => f2 q hq (fun z hz => nomatch hz)), hce, hO.vm, hcl, hWs, hall, hf⟩⟩
  refine st1 _ ?_
  show Steps p.tables e below (T1.setTop { method := m, pc := pc + 3, locals := ls, stack := .ref T.heap.size :: rest, locked := none }) _
  jvm_step X₁.here [X₁.here.top, hexec, d3', Value.category]
  exact hsteps
/-- 'throw new E("text")': new; dup; ldc; invokespecial; athrow -/
theorem vx_throwS {cc : ByteArray} {pc : Nat} (hexec : p.tables.exec = Jvm.exec) (hb : c.code = cc) (hl : l.stackTraces = false) {own cls text : String} {names : List String} {ik is ic mc ms sa : Nat} {A : Nat → Prop}
    (hown : s.vm.findClass own = some m.cls) (hcls : Bundle.fit cls = true) (hnames : ∀ n ∈ names, Bundle.fit n = true)
    (hk : (Cond.classLink own ik cls).before args s = true) (hini : (Cond.initialized cls).before args s = true) (hstr : vk_R own is text sa s) (hat : ∀ w ∈ vx_atS own ic cls names, w.before args s = true)
    (hgood : ∀ w ∈ Cond.classLink own ik cls :: Cond.initialized cls :: vx_atS own ic cls names, vx_ot w = true)
    (hU : vx_Zq Bundle.tN "UNASSIGNED_STACK" Bundle.steD A s s.heap) (hN : vx_Zq Bundle.tN "SUPPRESSED_SENTINEL" Bundle.listD A s s.heap) (hS : va_S A s.heap H locs) (hsize : ls.size = c.maxLocals)
    (d0 : decode cc pc = .ok (.new ik, 3)) (d3 : decode cc (pc + 3) = .ok (.dup, 1)) (d4 : decode cc (pc + 4) = .ok (.ldc is, 2)) (d6 : decode cc (pc + 6) = .ok (.invokespecial ic, 3)) (d9 : decode cc (pc + 9) = .ok (.athrow, 1))
    (hout : ∀ x ∈ c.exceptionTable.toList, covers x (pc + 9) = false)
    (hRframes : names.length + 3 < R.frames) (hRlocals : (rest.map fun v => v.category).sum + (13 * (names.length + 1) + 43) ≤ R.locals) (hRcells : cells + 1 ≤ R.cells) (hRslots : slots + 6 ≤ R.slots) (hlocks : meth.locks = false)
    (hx : ∀ t : State, s.vm.Alike t.vm → H.size ≤ t.heap.size → (∀ q : Nat, q < H.size → t.heap[q]? = H[q]?) → XC cls s t)
    (hf : ∀ z ∈ locs, free z.base) (hc : cells + 1 ≤ mc) (hs : slots + 6 ≤ ms) :
    W p l e R s m args below meth c H locs cells slots (vx_MQ below Qc XC args s mc ms free) (F0 m pc ls rest) := by
  intro T hT X
  have htr : e.platform.stackTraces = false := (show e.platform.stackTraces = l.stackTraces by rw [X.admits.platform]).trans hl
  have Y := vx_rebase X (R' := { frames := R.frames, locals := R.locals, cells := 1, slots := 6 }) (Nat.le_refl _) (Nat.le_refl _) hRcells hRslots
  obtain ⟨s', hA⟩ : ∃ z, z = (T.setVm s.vm).setFrames (.invoking m args :: below) := ⟨_, rfl⟩
  rw [← hA] at Y
  have hvm : s'.vm = s.vm := by rw [hA]; rfl
  have hhp : s'.heap = H := by rw [hA]; exact hT
  have hW0 : s.WarmedH s'.vm := by rw [hvm]; exact State.WarmedH.refl s
  have hat' : ∀ w ∈ vx_atS own ic cls names, w.before args s' = true := fun w hw => vx_ot_at hW0 hvm.symm (hgood w (List.mem_cons_of_mem _ (List.mem_cons_of_mem _ hw))) (hat w hw)
  have hk' : (Cond.classLink own ik cls).before args s' = true := vx_ot_at hW0 hvm.symm (hgood _ List.mem_cons_self) hk
  have hini' : (Cond.initialized cls).before args s' = true := vx_ot_at hW0 hvm.symm (hgood _ (List.mem_cons_of_mem _ List.mem_cons_self)) hini
  have hU' : vx_Zq Bundle.tN "UNASSIGNED_STACK" Bundle.steD A s' s'.heap := by rw [hhp]; exact vx_Zq.moved hW0.alike (hU.kept hS.2.1)
  have hN' : vx_Zq Bundle.tN "SUPPRESSED_SENTINEL" Bundle.listD A s' s'.heap := by rw [hhp]; exact vx_Zq.moved hW0.alike (hN.kept hS.2.1)
  have h : ∀ w ∈ Bundle.ownAtoms own ic cls names, w.before args s' = true := vx_own hat' (vx_isRefq hU'.1) (vx_isRefq hN'.1) hU'.2.word hN'.2.word
  have hown' : s'.vm.findClass own = some m.cls := by rw [hvm]; exact hown
  have hins : (Cond.instantiable cls 6).before args s' = true := h _ (by simp [Bundle.ownAtoms])
  obtain ⟨vm₁, cX, kX, hfX, hkX, -, -, X₁, st1⟩ := Y.newCold hexec (own := own) (C := cls) (index := ik) (n := 6) hown' hk' hins hini'
    (g := F0 m pc ls rest) rfl (by rw [hb]; exact d0) (Nat.le_refl _) (Nat.le_refl _)
  generalize hT1 : (T.setVm vm₁).pushCell { cls := cX, slots := kX.instanceTypes.map defaultValue, vm := .none } = T1 at X₁ st1
  have hcat : (Value.ref T.heap.size).category = 1 := rfl
  have hcellA : T1.heap[T.heap.size]? = some (freshCell cX kX) := by rw [← hT1]; exact State.heap_pushCell_size _ _
  have d3' : decode c.code (pc + 3) = .ok (.dup, 1) := by rw [hb]; exact d3
  have d4' : decode c.code (pc + 4) = .ok (.ldc is, 2) := by rw [hb]; exact d4
  have hstr' : vk_R own is text sa s' := vk_R.warm hW0 hstr
  obtain ⟨U, hsteps, hrun, hend, hW, hsame, ce, hce, hO⟩ := X₁.ctorThrowS hexec htr (own := own) (cls := cls) (names := names) (ic := ic) hown' hcls hnames h (fun x hx => nomatch hx) hfX hkX hcellA (by rw [hhp, hT]; exact Nat.le_refl _) (msg := .ref sa) rfl
    (g := { method := m, pc := pc + 6, locals := ls, stack := .ref sa :: .ref T.heap.size :: .ref T.heap.size :: rest, locked := none }) rfl hsize rfl rfl (rest := rest) rfl
    (by rw [hb]; exact d6) (by rw [hb]; exact d9) hout hRframes (by simp only [List.map_cons, List.sum_cons, hcat]; omega) hlocks
  obtain ⟨f1, f2⟩ := vx_frame hsame
  rw [hhp] at f1 f2
  have hWs : s.WarmedH U.vm := State.WarmedH.trans hW0 hW
  have hcl : s.vm.findClass cls = some ce.cls := by
    have h9 := hO.cls
    rw [hvm] at h9
    exact h9
  have hall : s.sameButNew ({ U with vm := s.vm } : State) locs mc ms := by
    subst hA
    obtain ⟨e1, e2⟩ := hsame
    rw [State.setFrames_setFrames] at e1
    have h2 : (T.setVm s.vm).sameButNew ({ U with vm := s.vm } : State) [] (0 + 1) (0 + 6) := ⟨e1, e2⟩
    have h3 := X.same.trans h2
    rw [List.append_nil] at h3
    exact h3.mono hc hs
  refine ⟨U, ?_, .threw T.heap.size, hrun, hend, Or.inr ⟨T.heap.size, rfl, cls, ce, locs, hx U hWs.alike f1 (fun q hq => f2 q hq (fun z hz => nomatch hz)), hce, hO.vm, hcl, hWs, hall, hf⟩⟩
  refine st1 _ ?_
  show Steps p.tables e below (T1.setTop { method := m, pc := pc + 3, locals := ls, stack := .ref T.heap.size :: rest, locked := none }) _
  jvm_step X₁.here [X₁.here.top, hexec, d3', Value.category]
  exact X₁.ldcString hexec (own := own) (text := text) (index := is) (a := sa) hown' hstr'.1 hstr'.2
    (g := { method := m, pc := pc + 4, locals := ls, stack := .ref T.heap.size :: .ref T.heap.size :: rest, locked := none }) rfl d4' _ hsteps
/-- 'throw new E("text")', the text by a wide index -/
theorem vx_throwSW {cc : ByteArray} {pc : Nat} (hexec : p.tables.exec = Jvm.exec) (hb : c.code = cc) (hl : l.stackTraces = false) {own cls text : String} {names : List String} {ik is ic mc ms sa : Nat} {A : Nat → Prop}
    (hown : s.vm.findClass own = some m.cls) (hcls : Bundle.fit cls = true) (hnames : ∀ n ∈ names, Bundle.fit n = true)
    (hk : (Cond.classLink own ik cls).before args s = true) (hini : (Cond.initialized cls).before args s = true) (hstr : vk_R own is text sa s) (hat : ∀ w ∈ vx_atS own ic cls names, w.before args s = true)
    (hgood : ∀ w ∈ Cond.classLink own ik cls :: Cond.initialized cls :: vx_atS own ic cls names, vx_ot w = true)
    (hU : vx_Zq Bundle.tN "UNASSIGNED_STACK" Bundle.steD A s s.heap) (hN : vx_Zq Bundle.tN "SUPPRESSED_SENTINEL" Bundle.listD A s s.heap) (hS : va_S A s.heap H locs) (hsize : ls.size = c.maxLocals)
    (d0 : decode cc pc = .ok (.new ik, 3)) (d3 : decode cc (pc + 3) = .ok (.dup, 1)) (d4 : decode cc (pc + 4) = .ok (.ldc_w is, 3)) (d7 : decode cc (pc + 7) = .ok (.invokespecial ic, 3)) (d10 : decode cc (pc + 10) = .ok (.athrow, 1))
    (hout : ∀ x ∈ c.exceptionTable.toList, covers x (pc + 10) = false)
    (hRframes : names.length + 3 < R.frames) (hRlocals : (rest.map fun v => v.category).sum + (13 * (names.length + 1) + 43) ≤ R.locals) (hRcells : cells + 1 ≤ R.cells) (hRslots : slots + 6 ≤ R.slots) (hlocks : meth.locks = false)
    (hx : ∀ t : State, s.vm.Alike t.vm → H.size ≤ t.heap.size → (∀ q : Nat, q < H.size → t.heap[q]? = H[q]?) → XC cls s t)
    (hf : ∀ z ∈ locs, free z.base) (hc : cells + 1 ≤ mc) (hs : slots + 6 ≤ ms) :
    W p l e R s m args below meth c H locs cells slots (vx_MQ below Qc XC args s mc ms free) (F0 m pc ls rest) := by
  intro T hT X
  have htr : e.platform.stackTraces = false := (show e.platform.stackTraces = l.stackTraces by rw [X.admits.platform]).trans hl
  have Y := vx_rebase X (R' := { frames := R.frames, locals := R.locals, cells := 1, slots := 6 }) (Nat.le_refl _) (Nat.le_refl _) hRcells hRslots
  obtain ⟨s', hA⟩ : ∃ z, z = (T.setVm s.vm).setFrames (.invoking m args :: below) := ⟨_, rfl⟩
  rw [← hA] at Y
  have hvm : s'.vm = s.vm := by rw [hA]; rfl
  have hhp : s'.heap = H := by rw [hA]; exact hT
  have hW0 : s.WarmedH s'.vm := by rw [hvm]; exact State.WarmedH.refl s
  have hat' : ∀ w ∈ vx_atS own ic cls names, w.before args s' = true := fun w hw => vx_ot_at hW0 hvm.symm (hgood w (List.mem_cons_of_mem _ (List.mem_cons_of_mem _ hw))) (hat w hw)
  have hk' : (Cond.classLink own ik cls).before args s' = true := vx_ot_at hW0 hvm.symm (hgood _ List.mem_cons_self) hk
  have hini' : (Cond.initialized cls).before args s' = true := vx_ot_at hW0 hvm.symm (hgood _ (List.mem_cons_of_mem _ List.mem_cons_self)) hini
  have hU' : vx_Zq Bundle.tN "UNASSIGNED_STACK" Bundle.steD A s' s'.heap := by rw [hhp]; exact vx_Zq.moved hW0.alike (hU.kept hS.2.1)
  have hN' : vx_Zq Bundle.tN "SUPPRESSED_SENTINEL" Bundle.listD A s' s'.heap := by rw [hhp]; exact vx_Zq.moved hW0.alike (hN.kept hS.2.1)
  have h : ∀ w ∈ Bundle.ownAtoms own ic cls names, w.before args s' = true := vx_own hat' (vx_isRefq hU'.1) (vx_isRefq hN'.1) hU'.2.word hN'.2.word
  have hown' : s'.vm.findClass own = some m.cls := by rw [hvm]; exact hown
  have hins : (Cond.instantiable cls 6).before args s' = true := h _ (by simp [Bundle.ownAtoms])
  obtain ⟨vm₁, cX, kX, hfX, hkX, -, -, X₁, st1⟩ := Y.newCold hexec (own := own) (C := cls) (index := ik) (n := 6) hown' hk' hins hini'
    (g := F0 m pc ls rest) rfl (by rw [hb]; exact d0) (Nat.le_refl _) (Nat.le_refl _)
  generalize hT1 : (T.setVm vm₁).pushCell { cls := cX, slots := kX.instanceTypes.map defaultValue, vm := .none } = T1 at X₁ st1
  have hcat : (Value.ref T.heap.size).category = 1 := rfl
  have hcellA : T1.heap[T.heap.size]? = some (freshCell cX kX) := by rw [← hT1]; exact State.heap_pushCell_size _ _
  have d3' : decode c.code (pc + 3) = .ok (.dup, 1) := by rw [hb]; exact d3
  have d4' : decode c.code (pc + 4) = .ok (.ldc_w is, 3) := by rw [hb]; exact d4
  have hstr' : vk_R own is text sa s' := vk_R.warm hW0 hstr
  obtain ⟨U, hsteps, hrun, hend, hW, hsame, ce, hce, hO⟩ := X₁.ctorThrowS hexec htr (own := own) (cls := cls) (names := names) (ic := ic) hown' hcls hnames h (fun x hx => nomatch hx) hfX hkX hcellA (by rw [hhp, hT]; exact Nat.le_refl _) (msg := .ref sa) rfl
    (g := { method := m, pc := pc + 7, locals := ls, stack := .ref sa :: .ref T.heap.size :: .ref T.heap.size :: rest, locked := none }) rfl hsize rfl rfl (rest := rest) rfl
    (by rw [hb]; exact d7) (by rw [hb]; exact d10) hout hRframes (by simp only [List.map_cons, List.sum_cons, hcat]; omega) hlocks
  obtain ⟨f1, f2⟩ := vx_frame hsame
  rw [hhp] at f1 f2
  have hWs : s.WarmedH U.vm := State.WarmedH.trans hW0 hW
  have hcl : s.vm.findClass cls = some ce.cls := by
    have h9 := hO.cls
    rw [hvm] at h9
    exact h9
  have hall : s.sameButNew ({ U with vm := s.vm } : State) locs mc ms := by
    subst hA
    obtain ⟨e1, e2⟩ := hsame
    rw [State.setFrames_setFrames] at e1
    have h2 : (T.setVm s.vm).sameButNew ({ U with vm := s.vm } : State) [] (0 + 1) (0 + 6) := ⟨e1, e2⟩
    have h3 := X.same.trans h2
    rw [List.append_nil] at h3
    exact h3.mono hc hs
  refine ⟨U, ?_, .threw T.heap.size, hrun, hend, Or.inr ⟨T.heap.size, rfl, cls, ce, locs, hx U hWs.alike f1 (fun q hq => f2 q hq (fun z hz => nomatch hz)), hce, hO.vm, hcl, hWs, hall, hf⟩⟩
  refine st1 _ ?_
  show Steps p.tables e below (T1.setTop { method := m, pc := pc + 3, locals := ls, stack := .ref T.heap.size :: rest, locked := none }) _
  jvm_step X₁.here [X₁.here.top, hexec, d3', Value.category]
  exact X₁.ldcStringW hexec (own := own) (text := text) (index := is) (a := sa) hown' hstr'.1 hstr'.2
    (g := { method := m, pc := pc + 4, locals := ls, stack := .ref T.heap.size :: .ref T.heap.size :: rest, locked := none }) rfl d4' _ hsteps
end Ends
section Bodies
variable {l : Launch}
theorem vx_ofW {y : MethodName} {ws ws' : List Cond} {rm : Room} {Pc : Array Value → State → Prop} {Qc : Array Value → State → Outcome → State → Prop} {XC : String → State → State → Prop} {mc ms : Nat} {free : Addr → Prop} {cc : ByteArray} {maxL : Nat} {ret : Option FieldType}
    (hy : plainName y.cls = true) (hw : ws = Cond.code y cc maxL ret :: ws')
    (body : ∀ p e s m args below meth c s₁, BodyLoose p l y (headSpec ws rm) cc maxL ret e s m args below meth c s₁ → c.maxLocals = maxL → (∀ x ∈ c.exceptionTable.toList, False) → Pc args s →
      W p l e (headSpec ws rm).room s m args below meth c s.heap [] 0 0 (vx_MQ below Qc XC args s mc ms free) (entryFrame m args maxL)) : vx_Met l y ws rm Pc Qc XC mc ms free := by
  refine MetFree.of_bodyS (code := cc) (maxLocals := maxL) (ret := ret) hy ?_ ?_
  · intro args s m h hn
    obtain ⟨meth, c, h1, h2, h3, h4, h5, h6, -, -⟩ := Cond.code_spec hn (atoms_spec (ws := ws) h _ (by rw [hw]; exact List.mem_cons_self))
    exact ⟨meth, c, h1, h2, h3, h4, h5, h6⟩
  · intro p e s m args below meth c s₁ B hml hP _
    have hh0 : s₁.heap = s.heap := by rw [B.state]; rfl
    have ht : ∀ x ∈ c.exceptionTable.toList, False := by
      obtain ⟨meth9, c9, h1, h2, -, -, -, -, h7, -⟩ := Cond.code_spec B.named (atoms_spec (ws := ws) B.pre _ (by rw [hw]; exact List.mem_cons_self))
      cases Option.some.inj (h1.symm.trans B.method)
      cases Option.some.inj (h2.symm.trans (Stand.of_body B).code)
      intro x hx
      rw [Array.isEmpty_iff.mp h7] at hx
      cases hx
    obtain ⟨t, a1, o, b1, b2, b3⟩ := body p e s m args below meth c s₁ B hml ht hP s₁ hh0 (Stand.of_body B)
    exact ⟨t, o, a1, b1, b2, b3⟩
/-- the table of a body with handlers -/
theorem vx_table {p : Program} {x y : MethodName} {S : Spec} {cc bytes : ByteArray} {maxL maxL' : Nat} {ret ret' : Option FieldType} {e : Env} {s s₁ : State} {m : MethodId} {args : Array Value} {below : List Frame} {meth : Method} {c : Code} {hh : List (Nat × Nat × Nat × Nat)}
    (B : BodyLoose p l y S cc maxL ret e s m args below meth c s₁) (h : (Cond.codeWith y bytes maxL' ret' hh).before args s = true) : c.exceptionTable.toList = tableOf hh := by
  obtain ⟨m9, meth9, c9, hn9, h1, h2, -, -, h6, -⟩ := Cond.codeWith_spec h
  cases Option.some.inj (hn9.symm.trans B.named)
  cases Option.some.inj (h1.symm.trans B.method)
  cases Option.some.inj (h2.symm.trans (Stand.of_body B).code)
  rw [← h6, table_eq]
end Bodies
end VXA
/-! ===== END ===== -/
/-! ===== BEGIN a static call of a method with an exception table ===== -/
section VXS
variable {p : Program} {l : Launch} {e : Env} {R : Room} {s : State} {m : MethodId} {args : Array Value} {below : List Frame} {meth : Method} {c : Code} {T : State} {H : Heap} {locs : List Loc} {cells slots : Nat}
abbrev vx_CSW (R : Room) (s : State) (args : Array Value) (own : String) (index : Nat) (y : MethodName) (bytes : ByteArray) (maxL : Nat) (ret : Option FieldType) (hh : List (Nat × Nat × Nat × Nat)) (ws : List Cond) (rm : Room) (mc ms n : Nat) : Prop :=
  (rm.cells = mc ∧ rm.slots = ms ∧ rm.frames + 1 ≤ R.frames ∧ 8 + (maxL + 11) + rm.locals ≤ R.locals ∧ (∀ w ∈ ws, ∀ (a' : Array Value) (U : State), s.WarmedH U.vm → w.before a' U = true) ∧ Cond.codeWith y bytes maxL ret hh ∈ ws) ∧
  (Cond.codeWith y bytes maxL ret hh).before args s = true ∧ (Cond.initialized y.cls).before args s = true ∧ (y.cls ≠ "java/lang/invoke/MethodHandle" ∧ y.cls ≠ "java/lang/invoke/VarHandle") ∧
  (∀ sig, parseMethodDescriptor y.desc = some sig → n = sig.parameters.length) ∧ (Cond.methodLink own index y).before args s = true ∧ (Cond.static y).before args s = true
theorem vx_cwSW {own : String} {index maxL mc ms : Nat} {y : MethodName} {bytes : ByteArray} {ret : Option FieldType} {hh : List (Nat × Nat × Nat × Nat)} {Ts ws ws' : List Cond} {rm : Room} (n : Nat) (ht : ∀ w ∈ Ts, w.before args s = true) (hT : GoodIn Ts (va_wsS own index y ws)) (hw : ws = Cond.codeWith y bytes maxL ret hh :: ws') (hrc : rm.cells = mc) (hrs : rm.slots = ms)
    (hd : y.cls ≠ "java/lang/invoke/MethodHandle" ∧ y.cls ≠ "java/lang/invoke/VarHandle" ∧ (parseMethodDescriptor y.desc).map (fun d => d.parameters.length) = some n) (hR : rm.frames + 1 ≤ R.frames ∧ 8 + (maxL + 11) + rm.locals ≤ R.locals) :
    vx_CSW R s args own index y bytes maxL ret hh ws rm mc ms n := by
  have ok : ∀ w ∈ va_wsS own index y ws, w.before args s = true := fun w h => ht w (hT w h).1
  have hG : GoodIn Ts ws := fun w h => hT w (by unfold va_wsS; exact List.mem_append_right _ h)
  have hc : Cond.codeWith y bytes maxL ret hh ∈ ws := by rw [hw]; exact List.mem_cons_self
  refine ⟨⟨hrc, hrs, hR.1, hR.2, pay_in ht hG, hc⟩, ht _ (hG _ hc).1, ok _ (by simp [va_wsS]), ⟨hd.1, hd.2.1⟩, fun sig h => ?_, ok _ (by simp [va_wsS]), ok _ (by simp [va_wsS])⟩
  have h2 := hd.2.2
  rw [h] at h2
  exact (Option.some.inj h2).symm
theorem vx_callSW (X : Stand p l e R s m args below meth c T locs cells slots) (hexec : p.tables.exec = Jvm.exec) {own : String} {index : Nat} {y : MethodName} {bytes : ByteArray} {maxL : Nat} {ret : Option FieldType} {hh : List (Nat × Nat × Nat × Nat)}
    (hown : s.vm.findClass own = some m.cls) (hlink : (Cond.methodLink own index y).before args s = true) (hstat : (Cond.static y).before args s = true) (hinit : (Cond.initialized y.cls).before args s = true)
    (hcode : (Cond.codeWith y bytes maxL ret hh).before args s = true) (hy : y.cls ≠ "java/lang/invoke/MethodHandle" ∧ y.cls ≠ "java/lang/invoke/VarHandle")
    {W9 : Nat} {Pre : Pt → Array Value → Prop} {Post : Pt → Array Value → Option Value → Pt → Prop} (hK : Back l R p e below s args y 3 W9 Pre Post)
    {g : JFrame} (hg : g.method = m) (hsize : g.locals.size = c.maxLocals) {argsL rest : List Value} (hlen : ∀ sig, parseMethodDescriptor y.desc = some sig → argsL.length = sig.parameters.length)
    (hstack : g.stack = argsL.reverse ++ rest) (hW : 2 * g.monitorRoom + (rest.map fun v => v.category).sum ≤ W9) (hdg : decode c.code g.pc = .ok (.invokestatic index, 3))
    (hpre : ∀ vm₁, s.WarmedH vm₁ → Pre ⟨T.setVm vm₁, locs, cells, slots⟩ argsL.toArray) :
    ∃ (v : Option Value) (vm₁ : Vm) (B : Pt), s.WarmedH vm₁ ∧ Stand p l e R s m args below meth c B.U B.locs B.cells B.slots ∧ Post ⟨T.setVm vm₁, locs, cells, slots⟩ argsL.toArray v B ∧
      ∀ target, Steps p.tables e below (B.U.setTop { g with pc := g.pc + 3, stack := v.toList ++ rest }) target → Steps p.tables e below (T.setTop g) target := by
  obtain ⟨mk, methM, cM, hnamed, hmethM, -, -, -, -, -, -, hsigM⟩ := Cond.codeWith_spec hcode
  have hstatic : methM.isStatic = true := Cond.static_spec hnamed hmethM hstat
  obtain ⟨kP, hkP, -⟩ := className_of_methodNamed hnamed
  have hinitP : kP.init = .initialized := Cond.initialized_spec (findClass_of_methodNamed hnamed) hkP hinit
  obtain ⟨vm₁, X₁, hstep₁⟩ := X.invokestatic hexec hown hlink hnamed hmethM hstatic hkP hinitP hy (g := g) hg (argsL := argsL) (rest := rest) (hlen _ hsigM) hstack hdg
  obtain ⟨v, B, X', hpost, hsteps⟩ := hK m meth c ⟨T.setVm vm₁, locs, cells, slots⟩ { g with stack := rest } (.invokestatic index) mk argsL.toArray X₁ hg hsize hdg hW (X₁.named hnamed) (hpre vm₁ X₁.warmed)
  exact ⟨v, vm₁, B, X₁.warmed, X', hpost, fun target h => hstep₁ _ fun acts => by rw [doInvoke_state]; exact hsteps.trans h⟩
theorem vx_runSW {y : MethodName} {bytes cc : ByteArray} {maxL nL mc ms n index : Nat} {ret : Option FieldType} {hh : List (Nat × Nat × Nat × Nat)} {ws : List Cond} {rm : Room} {Pc : Array Value → State → Prop} {Qc : Array Value → State → Outcome → State → Prop} {free : Addr → Prop} {Ts : List Cond} {own : String} {As rest : List Value} {g : JFrame}
    (S : CallFix p m c cc nL s args Ts own) (hM : Met l y ws rm Pc Qc mc ms free) (cw : vx_CSW R s args own index y bytes maxL ret hh ws rm mc ms n) (hp : PreS s H Pc As)
    (hg : g.method = m) (hn : As.length = n) (hsize : g.locals.size = nL) (hstack : g.stack = As.reverse ++ rest) (hW : 2 * g.monitorRoom + (rest.map fun v => v.category).sum ≤ 8) (hdg : decode cc g.pc = .ok (.invokestatic index, 3)) (hf : cells + mc ≤ R.cells ∧ slots + ms ≤ R.slots) :
    va_Run p l e R s m args below meth c H locs cells slots mc ms g rest (Qc As.toArray) (free) := by
  obtain ⟨⟨hrc, hrs, hfr, hlo, hws, hcw⟩, hcode, hini, hy, hlen, hl, hstt⟩ := cw
  have hK : Back l R p e below s args y 3 8 (PreOf R mc ms Pc) (PostOf Qc mc ms free) := va_backW (hh := hh) (bytes := bytes) (maxL := maxL) (ret := ret) hM hp.1 hrc hrs hfr hlo hws hcw (fun a' U hW => word_at hW (Or.inl (by first | rfl | simp [Cond.onTables, Cond.keeps, Cond.steady])) hini)
  obtain ⟨hx, hb, hml, ho, -⟩ := S
  intro T hT X
  obtain ⟨v, vm₁, ⟨U', l2, c2, s2⟩, hW₁, X', ⟨g', mk, t, L, e1, e2, hq, h1, hL, h2, h3⟩, st⟩ := vx_callSW X hx (hh := hh) (bytes := bytes) (maxL := maxL) (ret := ret) ho hl hstt hini hcode hy hK hg (hsize.trans hml.symm) (argsL := As) (rest := rest) (fun sig h => hn.trans (hlen sig h)) hstack hW (by rw [hb]; exact hdg)
    (fun vm₁ hW₁ => ⟨hf.1, hf.2, hp.2 (T.setVm vm₁) hT hW₁⟩)
  dsimp only [Pt.U, Pt.locs, Pt.cells, Pt.slots] at X' e1 e2 h1 h2 h3 st
  subst h1; subst h2; subst h3
  exact ⟨v, (T.setVm vm₁).calling g' mk As.toArray, t, U', L, hT, X', hL, e1, e2, hq, st⟩
/-- not caught here, past rows that name other classes: it goes on to the caller -/
theorem vx_outP {p : Program} {l : Launch} {e : Env} {R : Room} {s : State} {m : MethodId} {args : Array Value} {below : List Frame} {meth : Method} {c : Code} {H : Heap} {locs : List Loc} {cells slots : Nat} {free : Addr → Prop} {ls : Array Slot} {rest : List Value} {Qc : Array Value → State → Outcome → State → Prop} {XC : String → State → State → Prop}
    {pc : Nat} {own E : String} {ce : Cell} {q : Addr} {mc ms : Nat} (hown : s.vm.findClass own = some m.cls) (hlocks : meth.locks = false)
    (hpass : ∀ z ∈ c.exceptionTable.toList, covers z pc = false ∨ (z.catchType ≠ 0 ∧ ∃ nm : String, (Cond.classLink own z.catchType nm).before args s = true ∧ va_Nc E nm s)) (hcell : H[q]? = some ce) (hv : ce.vm = .none) (hcl : s.vm.findClass E = some ce.cls)
    (hx : ∀ t : State, t.heap = H → s.vm.Alike t.vm → XC E s t) (hf : ∀ z ∈ locs, free z.base) (hc : cells ≤ mc) (hs : slots ≤ ms) :
    vx_W p l e R s m args below meth c H locs cells slots (vx_MQ below Qc XC args s mc ms free) (F0 m pc ls rest) q := by
  intro T hT X
  have hpl : e.platform.magicAccessors = ({} : Platform).magicAccessors := by rw [X.admits.platform]
  obtain ⟨vm', hW', X', st⟩ := X.outThrough hlocks q (g := F0 m pc ls rest) rfl rfl rfl (cell := ce) (by rw [hT]; exact hcell) (by rw [hv]; rfl)
    (by obtain ⟨k9, h9, -⟩ := Vm.findClass_spec hcl; exact ⟨k9, h9⟩) (fun z hz => by
      rcases hpass z hz with h | ⟨hz0, nm, hl1, hn1⟩
      · exact Or.inl h
      · obtain ⟨c6, hc6, hcl6⟩ := Cond.classLink_spec hown hl1 e.platform hpl
        obtain ⟨a8, b8, h1, h2, h3⟩ := hn1
        cases Option.some.inj (h1.symm.trans hcl)
        cases Option.some.inj (h2.symm.trans hc6)
        exact Or.inr ⟨hz0, _, hcl6, h3⟩)
  obtain ⟨g₀, hfr⟩ := X'.frames_eq
  have hcell9 : ((T.setVm vm').setFrames (.throwing q :: below)).heap[q]? = some ce := by
    show T.heap[q]? = some ce
    rw [hT]; exact hcell
  have hend : Ended ((T.setVm vm').setFrames (.throwing q :: below)) below (.threw q) := State.frames_setFrames _ (State.cur_lt_of_frames hfr)
  refine ⟨(T.setVm vm').setFrames (.throwing q :: below), ?_, .threw q, X'.here.running, hend, Or.inr ⟨q, rfl, E, ce, locs, hx _ hT (X'.ends _).1.alike, hcell9, hv, hcl, (X'.ends _).1, (X'.ends _).2.mono hc hs, hf⟩⟩
  rw [X.pushThrowing_eq]
  exact st
/-- a thing of a world lies in the heap -/
theorem vx_lt {D : va_G} {cl : List vw_C} {ws : va_W} {H1 : Heap} (h : va_P D cl ws H1) {k : Nat} {q : Nat × va_E} (hk : ws[k]? = some q) : q.1 < H1.size := (h k q hk).lt
end VXS
/-! ===== END ===== -/
/-! ===== BEGIN methods with a table of their own: called by a name, returning or throwing ===== -/
section VXH
/-! vx_backW, vx_callVX, vx_callSX, vx_callVW, vx_runVW, vx_runVX, vx_runSX, vx_ofWH follow the same proofs as their sisters above (Free/Laws.lean, Shelf42/LK1.lean); vx_outP calls Shelf42/NT130.lean (outThrough). -/
section
variable {l : Launch} {R : Room} {p : Program} {e : Env} {below : List Frame} {s : State} {sargs : Array Value} {y : MethodName} {len W9 : Nat}
theorem vx_backW {ws : List Cond} {rm : Room} {Pc : Array Value → State → Prop} {Qc : Array Value → State → Outcome → State → Prop} {XC : String → State → State → Prop} {mc ms : Nat} {free : Addr → Prop} {bytes : ByteArray} {maxL : Nat} {ret : Option FieldType} {hh : List (Nat × Nat × Nat × Nat)}
    (hM : vx_Met l y ws rm Pc Qc XC mc ms free) (hblind : FrameBlind Pc) (hrc : rm.cells = mc) (hrs : rm.slots = ms)
    (hframes : rm.frames + 1 ≤ R.frames) (hlocals : W9 + (maxL + 11) + rm.locals ≤ R.locals)
    (hws : ∀ w ∈ ws, ∀ a' U, s.WarmedH U.vm → w.before a' U = true) (hcode : Cond.codeWith y bytes maxL ret hh ∈ ws) (hinit : ∀ a' U, s.WarmedH U.vm → (Cond.initialized y.cls).before a' U = true) :
    vx_Back l R p e below s sargs y len W9 (PreOf R mc ms Pc) (PostOf Qc mc ms free) (vx_Post XC mc ms free) := by
  intro m meth c A g ig mk a X hg hsize hdg hW hn hp
  have h1 : (headSpec ws rm).pre.before a A.U = true := atoms_intro fun w hw => hws w hw _ _ X.warmed
  have h2 : (Cond.codeWith y bytes maxL ret hh).before a A.U = true := hws _ hcode _ _ X.warmed
  have h3 : (Cond.initialized y.cls).before a A.U = true := hinit _ _ X.warmed
  have h4 : A.cells + (headSpec ws rm).room.cells ≤ R.cells := by rw [show (headSpec ws rm).room.cells = mc from hrc]; exact hp.1
  have h5 : A.slots + (headSpec ws rm).room.slots ≤ R.slots := by rw [show (headSpec ws rm).room.slots = ms from hrs]; exact hp.2.1
  have hPc : Pc a (A.U.calling g mk a) := hblind _ _ _ _ hp.2.2
  obtain ⟨U, Ls, c0, s0⟩ := A
  dsimp only [Pt.U, Pt.locs, Pt.cells, Pt.slots] at h1 h2 h3 h4 h5 X hn hPc ⊢
  obtain ⟨m9, methY, cY, hn9, hmY, hcY, -, hlY, -⟩ := Cond.codeWith_spec h2
  cases Option.some.inj (hn9.symm.trans hn)
  obtain ⟨kY, hkY, -⟩ := className_of_methodNamed hn
  have hinitY : kY.init = .initialized := Cond.initialized_spec (findClass_of_methodNamed hn) hkY h3
  have h : At U g.method c below := by rw [hg]; exact X.here
  have hlocals9 : W9 + (maxL + 11) + (headSpec ws rm).room.locals ≤ R.locals := hlocals
  have happ : (headSpec ws rm).appliesLoose y e.platform (U.calling g mk a) = true :=
    Spec.appliesLoose_calling (g := g) h hdg hn hkY hinitY
      (X.room_calling (g := g) (R' := (headSpec ws rm).room) hsize hmY hcY hframes (by rw [hlY]; omega) h4 h5) h1
  obtain ⟨mid, hmid⟩ := h.above
  have hfr : (U.setTop g).frames = (.java g :: mid) ++ below := by rw [State.frames_setTop' g h.top, hmid]; rfl
  obtain ⟨o, s₂, hsteps, -, hend, hq⟩ := Steps.callFree hM p X.admits X.cas X.clock (acts := []) hfr happ hPc trivial
  have hq' : vx_Q Qc XC mc ms free a (U.calling g mk a) o s₂ := hq
  rw [State.frames_setTop' g h.top] at hend
  obtain ⟨g₀, hg0⟩ := Option.isSome_iff_exists.mp h.top
  obtain ⟨r, hr⟩ := State.topJava?_eq_some.mp hg0
  have hr' : (({ U with heap := s₂.heap, slotsUsed := s₂.slotsUsed } : State).setVm s₂.vm).frames = .java g₀ :: r := hr
  rcases hq' with ⟨hqc, L, hfe, hL⟩ | ⟨q, rfl, E, ce, L, hx, hce, hcv, hcl, hW₂, hsm, hL⟩
  · obtain ⟨⟨v, rfl⟩, hW₂, e2, q2, q3, q4, q5, q6⟩ := id hfe
    have e3 : s₂ = ({ (U.calling g mk a).setFrames s₂.frames with heap := s₂.heap, slotsUsed := s₂.slotsUsed } : State).setVm s₂.vm := by
      have : s₂ = ({ s₂ with vm := (U.calling g mk a).vm } : State).setVm s₂.vm := rfl
      rw [e2] at this
      exact this
    obtain ⟨c₂, i₂, len₂, hc₂, hd₂, hf₂⟩ := hend
    have hW' : U.WarmedH s₂.vm := hW₂
    have hcc : c₂ = c := by
      have h1 : s₂.code? g.method = U.code? g.method := by
        rw [State.code?_eq, State.code?_eq, hW'.alike.method?]
      exact Option.some.inj (hc₂.symm.trans (h1.trans h.code))
    subst hcc
    have hlen : len₂ = len := by rw [hdg] at hd₂; cases hd₂; rfl
    subst hlen
    have hs₂ : s₂ = (({ U with heap := s₂.heap, slotsUsed := s₂.slotsUsed } : State).setVm s₂.vm).setTop { g with pc := g.pc + len₂, stack := v.toList ++ g.stack } := by
      refine e3.trans ?_
      rw [hf₂, State.calling_eq h.top, State.setFrames_setFrames, State.setTop_of_frames _ hr', hr]
      rfl
    have hsame : U.sameButNew ({ U with heap := s₂.heap, slotsUsed := s₂.slotsUsed } : State) L mc ms := by
      refine ⟨?_, q2, q3, q4, q5, q6⟩
      obtain ⟨t, ht, -⟩ := State.frames_cons hr
      show ({ U with heap := s₂.heap, slotsUsed := s₂.slotsUsed } : State) = { U.setFrames U.frames with heap := s₂.heap, slotsUsed := s₂.slotsUsed }
      rw [State.setFrames_self ht]
    subst hg
    refine Or.inl ⟨v, ⟨(({ U with heap := s₂.heap, slotsUsed := s₂.slotsUsed } : State).setVm s₂.vm), Ls ++ L, c0 + mc, s0 + ms⟩,
      ⟨X.admits, X.cas, X.clock, X.frames, X.room, X.hears, X.method, X.code, (X.here.setHeapUsed s₂.heap s₂.slotsUsed).setVm hW'.alike, X.tail, State.WarmedH.trans X.warmed hW', X.limits, X.bytes, X.same.trans (hsame.setVm s.vm)⟩,
      ⟨g, mk, s₂, L, rfl, rfl, hqc, rfl, hL, rfl, rfl⟩, ?_⟩
    show Steps p.tables e below _ ((({ U with heap := s₂.heap, slotsUsed := s₂.slotsUsed } : State).setVm s₂.vm).setTop { g with pc := g.pc + len₂, stack := v.toList ++ g.stack })
    rw [← hs₂]
    exact hsteps
  · obtain ⟨e2, q2, q3, q4, q5, q6⟩ := id hsm
    have e3 : s₂ = ({ (U.calling g mk a).setFrames s₂.frames with heap := s₂.heap, slotsUsed := s₂.slotsUsed } : State).setVm s₂.vm := by
      have : s₂ = ({ s₂ with vm := (U.calling g mk a).vm } : State).setVm s₂.vm := rfl
      rw [e2] at this
      exact this
    have hf₂ : s₂.frames = .throwing q :: .java g :: U.frames.tail := hend
    have hW' : U.WarmedH s₂.vm := hW₂
    have hs₂ : s₂ = ((({ U with heap := s₂.heap, slotsUsed := s₂.slotsUsed } : State).setVm s₂.vm).setTop g).pushFrame (.throwing q) := by
      refine e3.trans ?_
      rw [hf₂, State.calling_eq h.top, State.setFrames_setFrames, State.pushFrame, State.frames_setTop _ hr', State.setTop_of_frames _ hr', State.setFrames_setFrames, hr]
      rfl
    have hsame : U.sameButNew ({ U with heap := s₂.heap, slotsUsed := s₂.slotsUsed } : State) L mc ms := by
      refine ⟨?_, q2, q3, q4, q5, q6⟩
      obtain ⟨t, ht, -⟩ := State.frames_cons hr
      show ({ U with heap := s₂.heap, slotsUsed := s₂.slotsUsed } : State) = { U.setFrames U.frames with heap := s₂.heap, slotsUsed := s₂.slotsUsed }
      rw [State.setFrames_self ht]
    subst hg
    refine Or.inr ⟨q, ⟨(({ U with heap := s₂.heap, slotsUsed := s₂.slotsUsed } : State).setVm s₂.vm), Ls ++ L, c0 + mc, s0 + ms⟩,
      ⟨X.admits, X.cas, X.clock, X.frames, X.room, X.hears, X.method, X.code, (X.here.setHeapUsed s₂.heap s₂.slotsUsed).setVm hW'.alike, X.tail, State.WarmedH.trans X.warmed hW', X.limits, X.bytes, X.same.trans (hsame.setVm s.vm)⟩,
      ⟨g, mk, s₂, L, E, ce, rfl, rfl, hx, hce, hcv, hcl, rfl, hL, rfl, rfl⟩, ?_⟩
    show Steps p.tables e below _ (((({ U with heap := s₂.heap, slotsUsed := s₂.slotsUsed } : State).setVm s₂.vm).setTop g).pushFrame (.throwing q))
    rw [← hs₂]
    exact hsteps
end
variable {p : Program} {l : Launch} {e : Env} {R : Room} {s : State} {m : MethodId} {args : Array Value} {below : List Frame} {meth : Method} {c : Code} {T : State} {H : Heap} {locs : List Loc} {cells slots : Nat}
theorem vx_callVX (X : Stand p l e R s m args below meth c T locs cells slots) (hexec : p.tables.exec = Jvm.exec) {own C : String} {index : Nat} {y : MethodName} {bytes : ByteArray} {maxL : Nat} {ret : Option FieldType} {hh : List (Nat × Nat × Nat × Nat)}
    (hown : s.vm.findClass own = some m.cls) (hlink : (Cond.methodLink own index y).before args s = true) (hinst : (Cond.instanceMethod y).before args s = true) (hsel : (Cond.selects C y y).before args s = true)
    (hcode : (Cond.codeWith y bytes maxL ret hh).before args s = true) (hy : y.cls ≠ "java/lang/invoke/MethodHandle" ∧ y.cls ≠ "java/lang/invoke/VarHandle")
    {W9 : Nat} {Pre : Pt → Array Value → Prop} {Post : Pt → Array Value → Option Value → Pt → Prop} {PostX : Pt → Array Value → Addr → Pt → Prop} (hK : vx_Back l R p e below s args y 3 W9 Pre Post PostX)
    {b : Addr} {cellB : Cell} (hcell : T.heap[b]? = some cellB) (hobj : cellB.vm.isStatics = false) (hcls : s.vm.findClass C = some cellB.cls)
    {g : JFrame} (hg : g.method = m) (hsize : g.locals.size = c.maxLocals) {argsL rest : List Value} (hlen : ∀ sig, parseMethodDescriptor y.desc = some sig → argsL.length = sig.parameters.length)
    (hstack : g.stack = argsL.reverse ++ .ref b :: rest) (hW : 2 * g.monitorRoom + (rest.map fun v => v.category).sum ≤ W9) (hdg : decode c.code g.pc = .ok (.invokevirtual index, 3))
    (hpre : ∀ vm₁, s.WarmedH vm₁ → Pre ⟨T.setVm vm₁, locs, cells, slots⟩ (Value.ref b :: argsL).toArray) :
    (∃ (v : Option Value) (vm₁ : Vm) (B : Pt), s.WarmedH vm₁ ∧ Stand p l e R s m args below meth c B.U B.locs B.cells B.slots ∧ Post ⟨T.setVm vm₁, locs, cells, slots⟩ (Value.ref b :: argsL).toArray v B ∧
      ∀ target, Steps p.tables e below (B.U.setTop { g with pc := g.pc + 3, stack := v.toList ++ rest }) target → Steps p.tables e below (T.setTop g) target) ∨
    (∃ (q : Addr) (vm₁ : Vm) (B : Pt), s.WarmedH vm₁ ∧ Stand p l e R s m args below meth c B.U B.locs B.cells B.slots ∧ PostX ⟨T.setVm vm₁, locs, cells, slots⟩ (Value.ref b :: argsL).toArray q B ∧
      Steps p.tables e below (T.setTop g) ((B.U.setTop { g with stack := rest }).pushFrame (.throwing q))) := by
  obtain ⟨mk, methM, hnamed, hmethM, hstM, habM⟩ := Cond.instanceMethod_spec hinst
  obtain ⟨m8, methM', cM, hn8, hmethM', -, -, -, -, -, -, hsigM⟩ := Cond.codeWith_spec hcode
  cases Option.some.inj (hn8.symm.trans hnamed)
  cases hmethM.symm.trans hmethM'
  obtain ⟨c2, r2, m2, q1, q2, q3, q4, kP, hkP, hkPi⟩ := Cond.selects_spec hsel
  cases hcls.symm.trans q1
  cases (State.methodFound?_of_named hnamed hy).symm.trans q2
  cases hnamed.symm.trans q3
  have hselP : selectMethod e.platform s.vm cellB.cls mk = .method mk := by rw [Launch.admits_selectMethod X.admits]; exact q4
  obtain ⟨vm₁, X₁, hstep₁⟩ := X.invokevirtual hexec hown hlink hnamed hmethM hstM hkP hkPi hy (a := b) (cell := cellB) hcell
    (fun z h => by rw [h] at hobj; cases hobj) hselP hmethM habM hkP hkPi (g := g) hg (argsL := argsL) (rest := rest) (hlen _ hsigM) hstack hdg
  rcases hK m meth c ⟨T.setVm vm₁, locs, cells, slots⟩ { g with stack := rest } (.invokevirtual index) mk (Value.ref b :: argsL).toArray X₁ hg hsize hdg hW (X₁.named hnamed) (hpre vm₁ X₁.warmed) with ⟨v, B, X', hpost, hsteps⟩ | ⟨q, B, X', hpost, hsteps⟩
  · exact Or.inl ⟨v, vm₁, B, X₁.warmed, X', hpost, fun target h => hstep₁ _ fun acts => by rw [doInvoke_state]; exact hsteps.trans h⟩
  · exact Or.inr ⟨q, vm₁, B, X₁.warmed, X', hpost, hstep₁ _ fun acts => by rw [doInvoke_state]; exact hsteps⟩
theorem vx_callSX (X : Stand p l e R s m args below meth c T locs cells slots) (hexec : p.tables.exec = Jvm.exec) {own : String} {index : Nat} {y : MethodName} {bytes : ByteArray} {maxL : Nat} {ret : Option FieldType} {hh : List (Nat × Nat × Nat × Nat)}
    (hown : s.vm.findClass own = some m.cls) (hlink : (Cond.methodLink own index y).before args s = true) (hstat : (Cond.static y).before args s = true) (hinit : (Cond.initialized y.cls).before args s = true)
    (hcode : (Cond.codeWith y bytes maxL ret hh).before args s = true) (hy : y.cls ≠ "java/lang/invoke/MethodHandle" ∧ y.cls ≠ "java/lang/invoke/VarHandle")
    {W9 : Nat} {Pre : Pt → Array Value → Prop} {Post : Pt → Array Value → Option Value → Pt → Prop} {PostX : Pt → Array Value → Addr → Pt → Prop} (hK : vx_Back l R p e below s args y 3 W9 Pre Post PostX)
    {g : JFrame} (hg : g.method = m) (hsize : g.locals.size = c.maxLocals) {argsL rest : List Value} (hlen : ∀ sig, parseMethodDescriptor y.desc = some sig → argsL.length = sig.parameters.length)
    (hstack : g.stack = argsL.reverse ++ rest) (hW : 2 * g.monitorRoom + (rest.map fun v => v.category).sum ≤ W9) (hdg : decode c.code g.pc = .ok (.invokestatic index, 3))
    (hpre : ∀ vm₁, s.WarmedH vm₁ → Pre ⟨T.setVm vm₁, locs, cells, slots⟩ argsL.toArray) :
    (∃ (v : Option Value) (vm₁ : Vm) (B : Pt), s.WarmedH vm₁ ∧ Stand p l e R s m args below meth c B.U B.locs B.cells B.slots ∧ Post ⟨T.setVm vm₁, locs, cells, slots⟩ argsL.toArray v B ∧
      ∀ target, Steps p.tables e below (B.U.setTop { g with pc := g.pc + 3, stack := v.toList ++ rest }) target → Steps p.tables e below (T.setTop g) target) ∨
    (∃ (q : Addr) (vm₁ : Vm) (B : Pt), s.WarmedH vm₁ ∧ Stand p l e R s m args below meth c B.U B.locs B.cells B.slots ∧ PostX ⟨T.setVm vm₁, locs, cells, slots⟩ argsL.toArray q B ∧
      Steps p.tables e below (T.setTop g) ((B.U.setTop { g with stack := rest }).pushFrame (.throwing q))) := by
  obtain ⟨mk, methM, cM, hnamed, hmethM, -, -, -, -, -, -, hsigM⟩ := Cond.codeWith_spec hcode
  have hstatic : methM.isStatic = true := Cond.static_spec hnamed hmethM hstat
  obtain ⟨kP, hkP, -⟩ := className_of_methodNamed hnamed
  have hinitP : kP.init = .initialized := Cond.initialized_spec (findClass_of_methodNamed hnamed) hkP hinit
  obtain ⟨vm₁, X₁, hstep₁⟩ := X.invokestatic hexec hown hlink hnamed hmethM hstatic hkP hinitP hy (g := g) hg (argsL := argsL) (rest := rest) (hlen _ hsigM) hstack hdg
  rcases hK m meth c ⟨T.setVm vm₁, locs, cells, slots⟩ { g with stack := rest } (.invokestatic index) mk argsL.toArray X₁ hg hsize hdg hW (X₁.named hnamed) (hpre vm₁ X₁.warmed) with ⟨v, B, X', hpost, hsteps⟩ | ⟨q, B, X', hpost, hsteps⟩
  · exact Or.inl ⟨v, vm₁, B, X₁.warmed, X', hpost, fun target h => hstep₁ _ fun acts => by rw [doInvoke_state]; exact hsteps.trans h⟩
  · exact Or.inr ⟨q, vm₁, B, X₁.warmed, X', hpost, hstep₁ _ fun acts => by rw [doInvoke_state]; exact hsteps⟩
theorem vx_callVW (X : Stand p l e R s m args below meth c T locs cells slots) (hexec : p.tables.exec = Jvm.exec) {own C : String} {index : Nat} {y : MethodName} {bytes : ByteArray} {maxL : Nat} {ret : Option FieldType} {hh : List (Nat × Nat × Nat × Nat)}
    (hown : s.vm.findClass own = some m.cls) (hlink : (Cond.methodLink own index y).before args s = true) (hinst : (Cond.instanceMethod y).before args s = true) (hsel : (Cond.selects C y y).before args s = true)
    (hcode : (Cond.codeWith y bytes maxL ret hh).before args s = true) (hy : y.cls ≠ "java/lang/invoke/MethodHandle" ∧ y.cls ≠ "java/lang/invoke/VarHandle")
    {W9 : Nat} {Pre : Pt → Array Value → Prop} {Post : Pt → Array Value → Option Value → Pt → Prop} (hK : Back l R p e below s args y 3 W9 Pre Post)
    {b : Addr} {cellB : Cell} (hcell : T.heap[b]? = some cellB) (hobj : cellB.vm.isStatics = false) (hcls : s.vm.findClass C = some cellB.cls)
    {g : JFrame} (hg : g.method = m) (hsize : g.locals.size = c.maxLocals) {argsL rest : List Value} (hlen : ∀ sig, parseMethodDescriptor y.desc = some sig → argsL.length = sig.parameters.length)
    (hstack : g.stack = argsL.reverse ++ .ref b :: rest) (hW : 2 * g.monitorRoom + (rest.map fun v => v.category).sum ≤ W9) (hdg : decode c.code g.pc = .ok (.invokevirtual index, 3))
    (hpre : ∀ vm₁, s.WarmedH vm₁ → Pre ⟨T.setVm vm₁, locs, cells, slots⟩ (Value.ref b :: argsL).toArray) :
    ∃ (v : Option Value) (vm₁ : Vm) (B : Pt), s.WarmedH vm₁ ∧ Stand p l e R s m args below meth c B.U B.locs B.cells B.slots ∧ Post ⟨T.setVm vm₁, locs, cells, slots⟩ (Value.ref b :: argsL).toArray v B ∧
      ∀ target, Steps p.tables e below (B.U.setTop { g with pc := g.pc + 3, stack := v.toList ++ rest }) target → Steps p.tables e below (T.setTop g) target := by
  obtain ⟨mk, methM, hnamed, hmethM, hstM, habM⟩ := Cond.instanceMethod_spec hinst
  obtain ⟨m8, methM', cM, hn8, hmethM', -, -, -, -, -, -, hsigM⟩ := Cond.codeWith_spec hcode
  cases Option.some.inj (hn8.symm.trans hnamed)
  cases hmethM.symm.trans hmethM'
  obtain ⟨c2, r2, m2, q1, q2, q3, q4, kP, hkP, hkPi⟩ := Cond.selects_spec hsel
  cases hcls.symm.trans q1
  cases (State.methodFound?_of_named hnamed hy).symm.trans q2
  cases hnamed.symm.trans q3
  have hselP : selectMethod e.platform s.vm cellB.cls mk = .method mk := by rw [Launch.admits_selectMethod X.admits]; exact q4
  obtain ⟨vm₁, X₁, hstep₁⟩ := X.invokevirtual hexec hown hlink hnamed hmethM hstM hkP hkPi hy (a := b) (cell := cellB) hcell
    (fun z h => by rw [h] at hobj; cases hobj) hselP hmethM habM hkP hkPi (g := g) hg (argsL := argsL) (rest := rest) (hlen _ hsigM) hstack hdg
  obtain ⟨v, B, X', hpost, hsteps⟩ := hK m meth c ⟨T.setVm vm₁, locs, cells, slots⟩ { g with stack := rest } (.invokevirtual index) mk (Value.ref b :: argsL).toArray X₁ hg hsize hdg hW (X₁.named hnamed) (hpre vm₁ X₁.warmed)
  exact ⟨v, vm₁, B, X₁.warmed, X', hpost, fun target h => hstep₁ _ fun acts => by rw [doInvoke_state]; exact hsteps.trans h⟩
abbrev vx_CVW (R : Room) (s : State) (args : Array Value) (own C : String) (index : Nat) (y : MethodName) (bytes : ByteArray) (maxL : Nat) (ret : Option FieldType) (hh : List (Nat × Nat × Nat × Nat)) (ws : List Cond) (rm : Room) (mc ms n : Nat) : Prop :=
  (rm.cells = mc ∧ rm.slots = ms ∧ rm.frames + 1 ≤ R.frames ∧ 8 + (maxL + 11) + rm.locals ≤ R.locals ∧ (∀ w ∈ ws, ∀ (a' : Array Value) (U : State), s.WarmedH U.vm → w.before a' U = true) ∧ Cond.codeWith y bytes maxL ret hh ∈ ws) ∧
  (Cond.codeWith y bytes maxL ret hh).before args s = true ∧ (Cond.initialized y.cls).before args s = true ∧ (y.cls ≠ "java/lang/invoke/MethodHandle" ∧ y.cls ≠ "java/lang/invoke/VarHandle") ∧
  (∀ sig, parseMethodDescriptor y.desc = some sig → n = sig.parameters.length) ∧ (Cond.methodLink own index y).before args s = true ∧ (Cond.instanceMethod y).before args s = true ∧ (Cond.selects C y y).before args s = true
theorem vx_cwVW {own C : String} {index maxL mc ms : Nat} {y : MethodName} {bytes : ByteArray} {ret : Option FieldType} {hh : List (Nat × Nat × Nat × Nat)} {Ts ws ws' : List Cond} {rm : Room} (n : Nat) (ht : ∀ w ∈ Ts, w.before args s = true) (hT : GoodIn Ts (wsV own index C y ws)) (hw : ws = Cond.codeWith y bytes maxL ret hh :: ws') (hrc : rm.cells = mc) (hrs : rm.slots = ms)
    (hd : y.cls = C ∧ y.cls ≠ "java/lang/invoke/MethodHandle" ∧ y.cls ≠ "java/lang/invoke/VarHandle" ∧ (parseMethodDescriptor y.desc).map (fun d => d.parameters.length) = some n) (hR : rm.frames + 1 ≤ R.frames ∧ 8 + (maxL + 11) + rm.locals ≤ R.locals) :
    vx_CVW R s args own C index y bytes maxL ret hh ws rm mc ms n := by
  obtain ⟨hC, hd⟩ := hd
  subst hC
  have ok : ∀ w ∈ wsV own index y.cls y ws, w.before args s = true := fun w h => ht w (hT w h).1
  have hG : GoodIn Ts ws := fun w h => hT w (by unfold wsV; exact List.mem_append_right _ h)
  have hc : Cond.codeWith y bytes maxL ret hh ∈ ws := by rw [hw]; exact List.mem_cons_self
  refine ⟨⟨hrc, hrs, hR.1, hR.2, pay_in ht hG, hc⟩, ht _ (hG _ hc).1, ok _ (by simp [wsV]), ⟨hd.1, hd.2.1⟩, fun sig h => ?_, ok _ (by simp [wsV]), ok _ (by simp [wsV]), ok _ (by simp [wsV])⟩
  have h2 := hd.2.2
  rw [h] at h2
  exact (Option.some.inj h2).symm
theorem vx_runVW {y : MethodName} {bytes cc : ByteArray} {maxL nL mc ms n index : Nat} {ret : Option FieldType} {hh : List (Nat × Nat × Nat × Nat)} {ws : List Cond} {rm : Room} {Pc : Array Value → State → Prop} {Qc : Array Value → State → Outcome → State → Prop} {free : Addr → Prop} {Ts : List Cond} {own C : String} {b : Addr} {As rest : List Value} {g : JFrame}
    (S : CallFix p m c cc nL s args Ts own) (hM : Met l y ws rm Pc Qc mc ms free) (cw : vx_CVW R s args own C index y bytes maxL ret hh ws rm mc ms n) (hp : PreV s H C b Pc As)
    (hg : g.method = m) (hn : As.length = n) (hsize : g.locals.size = nL) (hstack : g.stack = As.reverse ++ .ref b :: rest) (hW : 2 * g.monitorRoom + (rest.map fun v => v.category).sum ≤ 8) (hdg : decode cc g.pc = .ok (.invokevirtual index, 3)) (hf : cells + mc ≤ R.cells ∧ slots + ms ≤ R.slots) :
    va_Run p l e R s m args below meth c H locs cells slots mc ms g rest (Qc (Value.ref b :: As).toArray) free := by
  obtain ⟨⟨hrc, hrs, hfr, hlo, hws, hcw⟩, hcode, hini, hy, hlen, hl, hin, hse⟩ := cw
  have hK : Back l R p e below s args y 3 8 (PreOf R mc ms Pc) (PostOf Qc mc ms free) := va_backW (hh := hh) (bytes := bytes) (maxL := maxL) (ret := ret) hM hp.1 hrc hrs hfr hlo hws hcw (fun a' U hW => word_at hW (Or.inl (by first | rfl | simp [Cond.onTables, Cond.keeps, Cond.steady])) hini)
  obtain ⟨hx, hb, hml, ho, -⟩ := S
  obtain ⟨-, ⟨cellB, hcB, hoB, hclB⟩, hPc⟩ := hp
  intro T hT X
  obtain ⟨v, vm₁, ⟨U', l2, c2, s2⟩, hW₁, X', ⟨g', mk, t, L, e1, e2, hq, h1, hL, h2, h3⟩, st⟩ := vx_callVW X hx (C := C) (hh := hh) (bytes := bytes) (maxL := maxL) (ret := ret) ho hl hin hse hcode hy hK (by rw [hT]; exact hcB) hoB hclB hg (hsize.trans hml.symm) (argsL := As) (rest := rest) (fun sig h => hn.trans (hlen sig h)) hstack hW (by rw [hb]; exact hdg)
    (fun vm₁ hW₁ => ⟨hf.1, hf.2, hPc (T.setVm vm₁) hT hW₁⟩)
  dsimp only [Pt.U, Pt.locs, Pt.cells, Pt.slots] at X' e1 e2 h1 h2 h3 st
  subst h1; subst h2; subst h3
  exact ⟨v, (T.setVm vm₁).calling g' mk (Value.ref b :: As).toArray, t, U', L, hT, X', hL, e1, e2, hq, st⟩
section
variable {y : MethodName} {bytes cc : ByteArray} {maxL nL mc ms n index : Nat} {ret : Option FieldType} {ws : List Cond} {rm : Room} {Pc : Array Value → State → Prop} {Qc : Array Value → State → Outcome → State → Prop} {XC : String → State → State → Prop} {free : Addr → Prop} {Ts : List Cond} {own C : String} {b : Addr} {As rest : List Value} {g : JFrame}
theorem vx_runVX {hh : List (Nat × Nat × Nat × Nat)} (S : CallFix p m c cc nL s args Ts own) (hM : vx_Met l y ws rm Pc Qc XC mc ms free) (cw : vx_CVW R s args own C index y bytes maxL ret hh ws rm mc ms n) (hp : PreV s H C b Pc As)
    (hg : g.method = m) (hn : As.length = n) (hsize : g.locals.size = nL) (hstack : g.stack = As.reverse ++ .ref b :: rest) (hW : 2 * g.monitorRoom + (rest.map fun v => v.category).sum ≤ 8) (hdg : decode cc g.pc = .ok (.invokevirtual index, 3)) (hf : cells + mc ≤ R.cells ∧ slots + ms ≤ R.slots) :
    vx_Run p l e R s m args below meth c H locs cells slots mc ms g rest (Qc (Value.ref b :: As).toArray) XC free := by
  obtain ⟨⟨hrc, hrs, hfr, hlo, hws, hcw⟩, hcode, hini, hy, hlen, hl, hin, hse⟩ := cw
  have hK : vx_Back l R p e below s args y 3 8 (PreOf R mc ms Pc) (PostOf Qc mc ms free) (vx_Post XC mc ms free) := vx_backW (hh := hh) (bytes := bytes) (maxL := maxL) (ret := ret) hM hp.1 hrc hrs hfr hlo hws hcw (fun a' U hW => word_at hW (Or.inl (by first | rfl | simp [Cond.onTables, Cond.keeps, Cond.steady])) hini)
  obtain ⟨hx, hb, hml, ho, -⟩ := S
  obtain ⟨-, ⟨cellB, hcB, hoB, hclB⟩, hPc⟩ := hp
  intro T hT X
  rcases vx_callVX X hx (C := C) (hh := hh) (bytes := bytes) (maxL := maxL) (ret := ret) ho hl hin hse hcode hy hK (by rw [hT]; exact hcB) hoB hclB hg (hsize.trans hml.symm) (argsL := As) (rest := rest) (fun sig h => hn.trans (hlen sig h)) hstack hW (by rw [hb]; exact hdg)
    (fun vm₁ hW₁ => ⟨hf.1, hf.2, hPc (T.setVm vm₁) hT hW₁⟩) with ⟨v, vm₁, ⟨U', l2, c2, s2⟩, hW₁, X', ⟨g', mk, t, L, e1, e2, hq, h1, hL, h2, h3⟩, st⟩ | ⟨q, vm₁, ⟨U', l2, c2, s2⟩, hW₁, X', ⟨g', mk, t, L, E, ce, e1, e2, hq, hce, hcv, hcl, h1, hL, h2, h3⟩, st⟩
  · dsimp only [Pt.U, Pt.locs, Pt.cells, Pt.slots] at X' e1 e2 h1 h2 h3 st
    subst h1; subst h2; subst h3
    exact Or.inl ⟨v, (T.setVm vm₁).calling g' mk (Value.ref b :: As).toArray, t, U', L, hT, X', hL, e1, e2, hq, st⟩
  · dsimp only [Pt.U, Pt.locs, Pt.cells, Pt.slots] at X' e1 e2 h1 h2 h3 st hcl
    subst h1; subst h2; subst h3
    exact Or.inr ⟨q, (T.setVm vm₁).calling g' mk (Value.ref b :: As).toArray, t, U', L, E, ce, hT, X', hL, e1, e2, hq, hce, hcv, vx_cls hW₁ hcl, st⟩
theorem vx_runSX {hh : List (Nat × Nat × Nat × Nat)} (S : CallFix p m c cc nL s args Ts own) (hM : vx_Met l y ws rm Pc Qc XC mc ms free) (cw : vx_CSW R s args own index y bytes maxL ret hh ws rm mc ms n) (hp : PreS s H Pc As)
    (hg : g.method = m) (hn : As.length = n) (hsize : g.locals.size = nL) (hstack : g.stack = As.reverse ++ rest) (hW : 2 * g.monitorRoom + (rest.map fun v => v.category).sum ≤ 8) (hdg : decode cc g.pc = .ok (.invokestatic index, 3)) (hf : cells + mc ≤ R.cells ∧ slots + ms ≤ R.slots) :
    vx_Run p l e R s m args below meth c H locs cells slots mc ms g rest (Qc As.toArray) XC free := by
  obtain ⟨⟨hrc, hrs, hfr, hlo, hws, hcw⟩, hcode, hini, hy, hlen, hl, hstt⟩ := cw
  have hK : vx_Back l R p e below s args y 3 8 (PreOf R mc ms Pc) (PostOf Qc mc ms free) (vx_Post XC mc ms free) := vx_backW (hh := hh) (bytes := bytes) (maxL := maxL) (ret := ret) hM hp.1 hrc hrs hfr hlo hws hcw (fun a' U hW => word_at hW (Or.inl (by first | rfl | simp [Cond.onTables, Cond.keeps, Cond.steady])) hini)
  obtain ⟨hx, hb, hml, ho, -⟩ := S
  intro T hT X
  rcases vx_callSX X hx (hh := hh) (bytes := bytes) (maxL := maxL) (ret := ret) ho hl hstt hini hcode hy hK hg (hsize.trans hml.symm) (argsL := As) (rest := rest) (fun sig h => hn.trans (hlen sig h)) hstack hW (by rw [hb]; exact hdg)
    (fun vm₁ hW₁ => ⟨hf.1, hf.2, hp.2 (T.setVm vm₁) hT hW₁⟩) with ⟨v, vm₁, ⟨U', l2, c2, s2⟩, hW₁, X', ⟨g', mk, t, L, e1, e2, hq, h1, hL, h2, h3⟩, st⟩ | ⟨q, vm₁, ⟨U', l2, c2, s2⟩, hW₁, X', ⟨g', mk, t, L, E, ce, e1, e2, hq, hce, hcv, hcl, h1, hL, h2, h3⟩, st⟩
  · dsimp only [Pt.U, Pt.locs, Pt.cells, Pt.slots] at X' e1 e2 h1 h2 h3 st
    subst h1; subst h2; subst h3
    exact Or.inl ⟨v, (T.setVm vm₁).calling g' mk As.toArray, t, U', L, hT, X', hL, e1, e2, hq, st⟩
  · dsimp only [Pt.U, Pt.locs, Pt.cells, Pt.slots] at X' e1 e2 h1 h2 h3 st hcl
    subst h1; subst h2; subst h3
    exact Or.inr ⟨q, (T.setVm vm₁).calling g' mk As.toArray, t, U', L, E, ce, hT, X', hL, e1, e2, hq, hce, hcv, vx_cls hW₁ hcl, st⟩
end
end VXH
theorem vx_ofWH {l : Launch} {y : MethodName} {ws ws' : List Cond} {rm : Room} {Pc : Array Value → State → Prop} {Qc : Array Value → State → Outcome → State → Prop} {XC : String → State → State → Prop} {mc ms : Nat} {free : Addr → Prop} {cc : ByteArray} {maxL : Nat} {ret : Option FieldType} {hh : List (Nat × Nat × Nat × Nat)}
    (hy : plainName y.cls = true) (hw : ws = Cond.codeWith y cc maxL ret hh :: ws')
    (body : ∀ p e s m args below meth c s₁, BodyLoose p l y (headSpec ws rm) cc maxL ret e s m args below meth c s₁ → c.maxLocals = maxL → Pc args s →
      W p l e (headSpec ws rm).room s m args below meth c s.heap [] 0 0 (vx_MQ below Qc XC args s mc ms free) (entryFrame m args maxL)) : vx_Met l y ws rm Pc Qc XC mc ms free := by
  refine MetFree.of_bodyS (code := cc) (maxLocals := maxL) (ret := ret) hy ?_ ?_
  · intro args s m h hn
    obtain ⟨m9, meth, c, hn9, h1, h2, h3, h4, -, h5, h6, -⟩ := Cond.codeWith_spec (atoms_spec (ws := ws) h _ (by rw [hw]; exact List.mem_cons_self))
    cases hn.symm.trans hn9
    exact ⟨meth, c, h1, h2, h3, h4, h5, h6⟩
  · intro p e s m args below meth c s₁ B hml hP _
    have hh0 : s₁.heap = s.heap := by rw [B.state]; rfl
    obtain ⟨t, a1, o, b1, b2, b3⟩ := body p e s m args below meth c s₁ B hml hP s₁ hh0 (Stand.of_body B)
    exact ⟨t, o, a1, b1, b2, b3⟩
/-! ===== END ===== -/
end
section
/-! ===== BEGIN printed: names, fields, word lists, decode rows ===== -/
def RX0 : String := "CellPlanner$Land"
def TX0 : u_T := fun k => match k with
  | 0 => ("CellPlanner$Land", "cellX", "[I", true)
  | 1 => ("CellPlanner$Land", "cellY", "[I", true)
  | 2 => ("CellPlanner$Land", "channel", "[I", true)
  | 3 => ("CellPlanner$Land", "room", "[I", true)
  | 4 => ("CellPlanner$Land", "on", "[Z", true)
  | 5 => ("CellPlanner$Land", "cells", "I", false)
  | 6 => ("CellPlanner$Land", "walkerX", "[I", true)
  | 7 => ("CellPlanner$Land", "walkerY", "[I", true)
  | 8 => ("CellPlanner$Land", "demand", "[I", true)
  | 9 => ("CellPlanner$Land", "server", "[I", true)
  | 10 => ("CellPlanner$Land", "walkers", "I", false)
  | 11 => ("CellPlanner$Land", "measuredUse", "[I", true)
  | _ => ("CellPlanner$Land", "quality", "[[I", true)
def tyX0 : Nat → FieldType := fun k => match k with
  | 0 => .array .int
  | 1 => .array .int
  | 2 => .array .int
  | 3 => .array .int
  | 4 => .array .boolean
  | 5 => .int
  | 6 => .array .int
  | 7 => .array .int
  | 8 => .array .int
  | 9 => .array .int
  | 10 => .int
  | 11 => .array .int
  | _ => .array (.array .int)
abbrev wsX00 : List Cond := u_ws RX0 TX0 13
theorem nmX0 : ∀ a, a < 13 → ∀ b, b < 13 → a ≠ b → (TX0 a).2.1 ≠ (TX0 b).2.1 := by decide +kernel
theorem tyX0_ok : ∀ k, k < 13 → parseFieldDescriptor (TX0 k).2.2.1 = some (tyX0 k) := by decide +kernel
abbrev cX0_init : ByteArray := prog_2_method_1_code
def yX0_init : MethodName := ⟨RX0, "<init>", "()V"⟩
abbrev cX0_addCell : ByteArray := prog_2_method_2_code
def yX0_addCell : MethodName := ⟨RX0, "addCell", "(IIII)I"⟩
abbrev cX0_addWalker : ByteArray := prog_2_method_3_code
def yX0_addWalker : MethodName := ⟨RX0, "addWalker", "(III)I"⟩
abbrev cX0_loadOf : ByteArray := prog_2_method_4_code
def yX0_loadOf : MethodName := ⟨RX0, "loadOf", "(I)I"⟩
abbrev cX0_useOf : ByteArray := prog_2_method_5_code
def yX0_useOf : MethodName := ⟨RX0, "useOf", "(I)I"⟩
abbrev cX0_signalOf : ByteArray := prog_2_method_6_code
def yX0_signalOf : MethodName := ⟨RX0, "signalOf", "(II)I"⟩
abbrev cX0_measure : ByteArray := prog_2_method_7_code
def yX0_measure : MethodName := ⟨RX0, "measure", "()V"⟩
abbrev cX0_disturbances : ByteArray := prog_2_method_8_code
def yX0_disturbances : MethodName := ⟨RX0, "disturbances", "(II)I"⟩
abbrev cX0_bestOther : ByteArray := prog_2_method_9_code
def yX0_bestOther : MethodName := ⟨RX0, "bestOther", "(I)I"⟩
abbrev cX0_couldTake : ByteArray := prog_2_method_10_code
def yX0_couldTake : MethodName := ⟨RX0, "couldTake", "(II)Z"⟩
def RX1 : String := "CellPlanner$Search"
def TX1 : u_T := fun k => match k with
  | 0 => ("CellPlanner$Search", "land", "LCellPlanner$Land;", true)
  | 1 => ("CellPlanner$Search", "worth", "[[I", true)
  | 2 => ("CellPlanner$Search", "hope", "[I", true)
  | 3 => ("CellPlanner$Search", "roomLeft", "[I", true)
  | 4 => ("CellPlanner$Search", "chosen", "[I", true)
  | 5 => ("CellPlanner$Search", "best", "[I", true)
  | _ => ("CellPlanner$Search", "bestWorth", "I", false)
def tyX1 : Nat → FieldType := fun k => match k with
  | 0 => .object "CellPlanner$Land"
  | 1 => .array (.array .int)
  | 2 => .array .int
  | 3 => .array .int
  | 4 => .array .int
  | 5 => .array .int
  | _ => .int
abbrev wsX10 : List Cond := u_ws RX1 TX1 7
theorem nmX1 : ∀ a, a < 7 → ∀ b, b < 7 → a ≠ b → (TX1 a).2.1 ≠ (TX1 b).2.1 := by decide +kernel
theorem tyX1_ok : ∀ k, k < 7 → parseFieldDescriptor (TX1 k).2.2.1 = some (tyX1 k) := by decide +kernel
abbrev cX1_init : ByteArray := prog_3_method_1_code
def yX1_init : MethodName := ⟨RX1, "<init>", "(LCellPlanner$Land;)V"⟩
abbrev cX1_greatestWorth : ByteArray := prog_3_method_2_code
def yX1_greatestWorth : MethodName := ⟨RX1, "greatestWorth", "(IIII)I"⟩
abbrev cX1_fillWorth : ByteArray := prog_3_method_3_code
def yX1_fillWorth : MethodName := ⟨RX1, "fillWorth", "(IIII)I"⟩
abbrev cX1_place : ByteArray := prog_3_method_4_code
def yX1_place : MethodName := ⟨RX1, "place", "(LCellPlanner$Search;II)V"⟩
abbrev cX1_keep : ByteArray := prog_3_method_5_code
def yX1_keep : MethodName := ⟨RX1, "keep", "(I)V"⟩
def RX2 : String := "CellPlanner"
def TX2 : u_T := fun k => match k with
  | 0 => ("CellPlanner", "land", "LCellPlanner$Land;", true)
  | 1 => ("CellPlanner", "search", "LCellPlanner$Search;", true)
  | 2 => ("CellPlanner", "favourite", "[I", true)
  | 3 => ("CellPlanner", "held", "[I", true)
  | 4 => ("CellPlanner", "leftCell", "[I", true)
  | 5 => ("CellPlanner", "leftAt", "[I", true)
  | 6 => ("CellPlanner", "margin", "I", false)
  | 7 => ("CellPlanner", "patience", "I", false)
  | 8 => ("CellPlanner", "bound", "I", false)
  | 9 => ("CellPlanner", "ticks", "I", false)
  | 10 => ("CellPlanner", "handovers", "I", false)
  | 11 => ("CellPlanner", "rings", "I", false)
  | _ => ("CellPlanner", "losses", "I", false)
def tyX2 : Nat → FieldType := fun k => match k with
  | 0 => .object "CellPlanner$Land"
  | 1 => .object "CellPlanner$Search"
  | 2 => .array .int
  | 3 => .array .int
  | 4 => .array .int
  | 5 => .array .int
  | 6 => .int
  | 7 => .int
  | 8 => .int
  | 9 => .int
  | 10 => .int
  | 11 => .int
  | _ => .int
abbrev wsX20 : List Cond := u_ws RX2 TX2 13
theorem nmX2 : ∀ a, a < 13 → ∀ b, b < 13 → a ≠ b → (TX2 a).2.1 ≠ (TX2 b).2.1 := by decide +kernel
theorem tyX2_ok : ∀ k, k < 13 → parseFieldDescriptor (TX2 k).2.2.1 = some (tyX2 k) := by decide +kernel
abbrev cX2_init : ByteArray := prog_1_method_1_code
def yX2_init : MethodName := ⟨RX2, "<init>", "()V"⟩
abbrev cX2_cell : ByteArray := prog_1_method_2_code
def yX2_cell : MethodName := ⟨RX2, "cell", "(IIII)I"⟩
abbrev cX2_turn : ByteArray := prog_1_method_3_code
def yX2_turn : MethodName := ⟨RX2, "turn", "(I)Z"⟩
abbrev cX2_tune : ByteArray := prog_1_method_4_code
def yX2_tune : MethodName := ⟨RX2, "tune", "(II)I"⟩
abbrev cX2_walker : ByteArray := prog_1_method_5_code
def yX2_walker : MethodName := ⟨RX2, "walker", "(III)I"⟩
abbrev cX2_move : ByteArray := prog_1_method_6_code
def yX2_move : MethodName := ⟨RX2, "move", "(III)V"⟩
abbrev cX2_margin : ByteArray := prog_1_method_7_code
def yX2_margin : MethodName := ⟨RX2, "margin", "(I)I"⟩
abbrev cX2_patience : ByteArray := prog_1_method_8_code
def yX2_patience : MethodName := ⟨RX2, "patience", "(I)I"⟩
abbrev cX2_bound : ByteArray := prog_1_method_9_code
def yX2_bound : MethodName := ⟨RX2, "bound", "(I)I"⟩
abbrev cX2_tick : ByteArray := prog_1_method_10_code
def yX2_tick : MethodName := ⟨RX2, "tick", "(I)I"⟩
abbrev cX2_ticks : ByteArray := prog_1_method_11_code
def yX2_ticks : MethodName := ⟨RX2, "ticks", "()I"⟩
abbrev cX2_cells : ByteArray := prog_1_method_12_code
def yX2_cells : MethodName := ⟨RX2, "cells", "()I"⟩
abbrev cX2_walkers : ByteArray := prog_1_method_13_code
def yX2_walkers : MethodName := ⟨RX2, "walkers", "()I"⟩
abbrev cX2_signal : ByteArray := prog_1_method_14_code
def yX2_signal : MethodName := ⟨RX2, "signal", "(II)I"⟩
abbrev cX2_quality : ByteArray := prog_1_method_15_code
def yX2_quality : MethodName := ⟨RX2, "quality", "(II)I"⟩
abbrev cX2_load : ByteArray := prog_1_method_16_code
def yX2_load : MethodName := ⟨RX2, "load", "(I)I"⟩
abbrev cX2_use : ByteArray := prog_1_method_17_code
def yX2_use : MethodName := ⟨RX2, "use", "(I)I"⟩
abbrev cX2_servedBy : ByteArray := prog_1_method_18_code
def yX2_servedBy : MethodName := ⟨RX2, "servedBy", "(I)I"⟩
abbrev cX2_favourite : ByteArray := prog_1_method_19_code
def yX2_favourite : MethodName := ⟨RX2, "favourite", "(I)I"⟩
abbrev cX2_heldFor : ByteArray := prog_1_method_20_code
def yX2_heldFor : MethodName := ⟨RX2, "heldFor", "(I)I"⟩
abbrev cX2_handovers : ByteArray := prog_1_method_21_code
def yX2_handovers : MethodName := ⟨RX2, "handovers", "()I"⟩
abbrev cX2_rings : ByteArray := prog_1_method_22_code
def yX2_rings : MethodName := ⟨RX2, "rings", "()I"⟩
abbrev cX2_losses : ByteArray := prog_1_method_23_code
def yX2_losses : MethodName := ⟨RX2, "losses", "()I"⟩
abbrev cX2_unserved : ByteArray := prog_1_method_24_code
def yX2_unserved : MethodName := ⟨RX2, "unserved", "()I"⟩
abbrev cX2_mostServed : ByteArray := prog_1_method_25_code
def yX2_mostServed : MethodName := ⟨RX2, "mostServed", "()I"⟩
abbrev cX2_mostDemand : ByteArray := prog_1_method_26_code
def yX2_mostDemand : MethodName := ⟨RX2, "mostDemand", "()I"⟩
abbrev cX2_bestCell : ByteArray := prog_1_method_27_code
def yX2_bestCell : MethodName := ⟨RX2, "bestCell", "(I)I"⟩
abbrev cX2_requireRange : ByteArray := prog_1_method_28_code
def yX2_requireRange : MethodName := ⟨RX2, "requireRange", "(JII)V"⟩
abbrev cX2_requireCell : ByteArray := prog_1_method_29_code
def yX2_requireCell : MethodName := ⟨RX2, "requireCell", "(I)V"⟩
abbrev cX2_requireWalker : ByteArray := prog_1_method_30_code
def yX2_requireWalker : MethodName := ⟨RX2, "requireWalker", "(I)V"⟩
abbrev cX2_releaseWalkers : ByteArray := prog_1_method_31_code
def yX2_releaseWalkers : MethodName := ⟨RX2, "releaseWalkers", "(I)V"⟩
abbrev cX2_dropFavourite : ByteArray := prog_1_method_32_code
def yX2_dropFavourite : MethodName := ⟨RX2, "dropFavourite", "(I)V"⟩
abbrev cX2_passTick : ByteArray := prog_1_method_33_code
def yX2_passTick : MethodName := ⟨RX2, "passTick", "()V"⟩
abbrev cX2_seekCell : ByteArray := prog_1_method_34_code
def yX2_seekCell : MethodName := ⟨RX2, "seekCell", "(I)V"⟩
abbrev cX2_loseCell : ByteArray := prog_1_method_35_code
def yX2_loseCell : MethodName := ⟨RX2, "loseCell", "(I)V"⟩
abbrev cX2_weighFavourite : ByteArray := prog_1_method_36_code
def yX2_weighFavourite : MethodName := ⟨RX2, "weighFavourite", "(II)V"⟩
abbrev cX2_handOver : ByteArray := prog_1_method_37_code
def yX2_handOver : MethodName := ⟨RX2, "handOver", "(III)V"⟩
def RX3 : String := "CellPlannerModel"
def TX3 : u_T := fun k => match k with
  | _ => ("", "", "", false)
def tyX3 : Nat → FieldType := fun k => match k with
  | _ => .int
abbrev wsX30 : List Cond := u_ws RX3 TX3 0
theorem nmX3 : ∀ a, a < 0 → ∀ b, b < 0 → a ≠ b → (TX3 a).2.1 ≠ (TX3 b).2.1 := by decide +kernel
theorem tyX3_ok : ∀ k, k < 0 → parseFieldDescriptor (TX3 k).2.2.1 = some (tyX3 k) := by decide +kernel
def RJ9 : String := "java/lang/Math"
def TJ9 : u_T := fun k => match k with
  | _ => ("", "", "", false)
def tyJ9 : Nat → FieldType := fun k => match k with
  | _ => .int
abbrev wsJ90 : List Cond := u_ws RJ9 TJ9 0
theorem nmJ9 : ∀ a, a < 0 → ∀ b, b < 0 → a ≠ b → (TJ9 a).2.1 ≠ (TJ9 b).2.1 := by decide +kernel
theorem tyJ9_ok : ∀ k, k < 0 → parseFieldDescriptor (TJ9 k).2.2.1 = some (tyJ9 k) := by decide +kernel
abbrev cJ9_abs_0f7a4 : ByteArray := prog_10_method_59_code
def yJ9_abs_0f7a4 : MethodName := ⟨RJ9, "abs", "(I)I"⟩
abbrev cJ9_max_7cf53 : ByteArray := prog_10_method_65_code
def yJ9_max_7cf53 : MethodName := ⟨RJ9, "max", "(II)I"⟩
def RJ0 : String := "java/lang/String"
def TJ0 : u_T := fun k => match k with
  | _ => ("", "", "", false)
def tyJ0 : Nat → FieldType := fun k => match k with
  | _ => .int
abbrev wsJ00 : List Cond := u_ws RJ0 TJ0 0
theorem nmJ0 : ∀ a, a < 0 → ∀ b, b < 0 → a ≠ b → (TJ0 a).2.1 ≠ (TJ0 b).2.1 := by decide +kernel
theorem tyJ0_ok : ∀ k, k < 0 → parseFieldDescriptor (TJ0 k).2.2.1 = some (tyJ0 k) := by decide +kernel
def RJ10 : String := "java/lang/System"
def TJ10 : u_T := fun k => match k with
  | _ => ("", "", "", false)
def tyJ10 : Nat → FieldType := fun k => match k with
  | _ => .int
abbrev wsJ100 : List Cond := u_ws RJ10 TJ10 0
theorem nmJ10 : ∀ a, a < 0 → ∀ b, b < 0 → a ≠ b → (TJ10 a).2.1 ≠ (TJ10 b).2.1 := by decide +kernel
theorem tyJ10_ok : ∀ k, k < 0 → parseFieldDescriptor (TJ10 k).2.2.1 = some (tyJ10 k) := by decide +kernel
def RL : String := "CellPlannerLaw"
abbrev cL_cell : ByteArray := method_2_code
def yL_cell : MethodName := ⟨RL, "cell", "([II)I"⟩
abbrev cL_some : ByteArray := method_3_code
def yL_some : MethodName := ⟨RL, "some", "(II)I"⟩
abbrev cL_signal : ByteArray := method_4_code
def yL_signal : MethodName := ⟨RL, "signal", "([I[III)I"⟩
abbrev cL_load : ByteArray := method_5_code
def yL_load : MethodName := ⟨RL, "load", "([I[II)I"⟩
abbrev cL_qualities : ByteArray := method_6_code
def yL_qualities : MethodName := ⟨RL, "qualities", "([I[I[I[I)V"⟩
abbrev cL_tick : ByteArray := method_7_code
def yL_tick : MethodName := ⟨RL, "tick", "([I[I[I)V"⟩
abbrev cL_built : ByteArray := method_8_code
def yL_built : MethodName := ⟨RL, "built", "(LCellPlanner;IIII)I"⟩
abbrev cL_came : ByteArray := method_9_code
def yL_came : MethodName := ⟨RL, "came", "(LCellPlanner;III)I"⟩
abbrev cL_turned : ByteArray := method_10_code
def yL_turned : MethodName := ⟨RL, "turned", "(LCellPlanner;I)I"⟩
abbrev cL_tuned : ByteArray := method_11_code
def yL_tuned : MethodName := ⟨RL, "tuned", "(LCellPlanner;II)I"⟩
abbrev cL_moved : ByteArray := method_12_code
def yL_moved : MethodName := ⟨RL, "moved", "(LCellPlanner;III)I"⟩
abbrev cL_set : ByteArray := method_13_code
def yL_set : MethodName := ⟨RL, "set", "(LCellPlanner;II)I"⟩
abbrev cL_of : ByteArray := method_14_code
def yL_of : MethodName := ⟨RL, "of", "(LCellPlanner;III)I"⟩
abbrev cL_place : ByteArray := method_15_code
def yL_place : MethodName := ⟨RL, "place", "(I)I"⟩
abbrev cL_acts : ByteArray := method_16_code
def yL_acts : MethodName := ⟨RL, "acts", "(LCellPlanner;II[I[I[I)Z"⟩
abbrev cL_tells : ByteArray := method_17_code
def yL_tells : MethodName := ⟨RL, "tells", "(LCellPlanner;[I[I[I)Z"⟩
abbrev cL_assigns : ByteArray := method_18_code
def yL_assigns : MethodName := ⟨RL, "assigns", "(LCellPlanner;[I[I[I)Z"⟩
abbrev cL_law : ByteArray := code
def yL_law : MethodName := ⟨RL, "law", "([I)Z"⟩
def wsX0_init : List Cond := .code yX0_init cX0_init 1 none :: ([.methodLink RX0 3 objectInit, .instanceMethod objectInit, .code objectInit ⟨#[0xb1]⟩ 1 none, .arrayClass .int, .fieldLink RX0 9 "CellPlanner$Land" "cellX" "[I", .fieldLink RX0 15 "CellPlanner$Land" "cellY" "[I", .fieldLink RX0 18 "CellPlanner$Land" "channel" "[I", .fieldLink RX0 21 "CellPlanner$Land" "room" "[I", .arrayClass .boolean, .fieldLink RX0 24 "CellPlanner$Land" "on" "[Z", .fieldLink RX0 28 "CellPlanner$Land" "walkerX" "[I", .fieldLink RX0 31 "CellPlanner$Land" "walkerY" "[I", .fieldLink RX0 34 "CellPlanner$Land" "demand" "[I", .fieldLink RX0 37 "CellPlanner$Land" "server" "[I", .fieldLink RX0 40 "CellPlanner$Land" "measuredUse" "[I", .classLink RX0 43 "[[I", .fieldLink RX0 45 "CellPlanner$Land" "quality" "[[I"] ++ wsX00)
def wsX0_addCell : List Cond := .code yX0_addCell cX0_addCell 6 (some .int) :: ([.fieldLink RX0 48 "CellPlanner$Land" "cells" "I", .fieldLink RX0 9 "CellPlanner$Land" "cellX" "[I", .fieldLink RX0 15 "CellPlanner$Land" "cellY" "[I", .fieldLink RX0 18 "CellPlanner$Land" "channel" "[I", .fieldLink RX0 21 "CellPlanner$Land" "room" "[I", .fieldLink RX0 24 "CellPlanner$Land" "on" "[Z"] ++ wsX00)
def wsX0_addWalker : List Cond := .code yX0_addWalker cX0_addWalker 5 (some .int) :: ([.fieldLink RX0 52 "CellPlanner$Land" "walkers" "I", .fieldLink RX0 28 "CellPlanner$Land" "walkerX" "[I", .fieldLink RX0 31 "CellPlanner$Land" "walkerY" "[I", .fieldLink RX0 34 "CellPlanner$Land" "demand" "[I", .fieldLink RX0 37 "CellPlanner$Land" "server" "[I"] ++ wsX00)
def wsX0_loadOf : List Cond := .code yX0_loadOf cX0_loadOf 4 (some .int) :: ([.fieldLink RX0 52 "CellPlanner$Land" "walkers" "I", .fieldLink RX0 37 "CellPlanner$Land" "server" "[I", .fieldLink RX0 34 "CellPlanner$Land" "demand" "[I"] ++ wsX00)
def wsX0_useOf : List Cond := .code yX0_useOf cX0_useOf 2 (some .int) :: ([.fieldLink RX0 21 "CellPlanner$Land" "room" "[I", .methodLink RX0 55 yX0_loadOf, .instanceMethod yX0_loadOf, .selects RX0 yX0_loadOf yX0_loadOf, .initialized RX0, .code yX0_loadOf cX0_loadOf 4 (some .int), .fieldLink RX0 52 "CellPlanner$Land" "walkers" "I", .fieldLink RX0 37 "CellPlanner$Land" "server" "[I", .fieldLink RX0 34 "CellPlanner$Land" "demand" "[I"] ++ wsX00)
def wsX0_signalOf : List Cond := .code yX0_signalOf cX0_signalOf 4 (some .int) :: ([.fieldLink RX0 9 "CellPlanner$Land" "cellX" "[I", .fieldLink RX0 28 "CellPlanner$Land" "walkerX" "[I", .methodLink RX0 59 Lib.Math.abs.name, .static Lib.Math.abs.name, .initialized "java/lang/Math", .code Lib.Math.abs.name Lib.Math.abs.code 1 (some .int), .fieldLink RX0 15 "CellPlanner$Land" "cellY" "[I", .fieldLink RX0 31 "CellPlanner$Land" "walkerY" "[I"] ++ wsX00)
def wsX0_disturbances : List Cond := .code yX0_disturbances cX0_disturbances 5 (some .int) :: ([.fieldLink RX0 48 "CellPlanner$Land" "cells" "I", .fieldLink RX0 24 "CellPlanner$Land" "on" "[Z", .fieldLink RX0 18 "CellPlanner$Land" "channel" "[I", .fieldLink RX0 40 "CellPlanner$Land" "measuredUse" "[I", .methodLink RX0 67 yX0_signalOf, .instanceMethod yX0_signalOf, .selects RX0 yX0_signalOf yX0_signalOf, .initialized RX0, .code yX0_signalOf cX0_signalOf 4 (some .int), .fieldLink RX0 9 "CellPlanner$Land" "cellX" "[I", .fieldLink RX0 28 "CellPlanner$Land" "walkerX" "[I", .methodLink RX0 59 Lib.Math.abs.name, .static Lib.Math.abs.name, .initialized "java/lang/Math", .code Lib.Math.abs.name Lib.Math.abs.code 1 (some .int), .fieldLink RX0 15 "CellPlanner$Land" "cellY" "[I", .fieldLink RX0 31 "CellPlanner$Land" "walkerY" "[I"] ++ wsX00)
def wsX0_measure_r1 : List Cond := [Cond.fieldLink RX0 48 "CellPlanner$Land" "cells" "I", Cond.fieldLink RX0 40 "CellPlanner$Land" "measuredUse" "[I", Cond.fieldLink RX0 52 "CellPlanner$Land" "walkers" "I", Cond.fieldLink RX0 45 "CellPlanner$Land" "quality" "[[I", Cond.methodLink RX0 64 yX0_useOf, Cond.instanceMethod yX0_useOf, Cond.selects RX0 yX0_useOf yX0_useOf, Cond.initialized RX0, Cond.code yX0_useOf cX0_useOf 2 (some .int), Cond.fieldLink RX0 21 "CellPlanner$Land" "room" "[I", Cond.methodLink RX0 55 yX0_loadOf, Cond.instanceMethod yX0_loadOf, Cond.selects RX0 yX0_loadOf yX0_loadOf, Cond.code yX0_loadOf cX0_loadOf 4 (some .int), Cond.fieldLink RX0 37 "CellPlanner$Land" "server" "[I", Cond.fieldLink RX0 34 "CellPlanner$Land" "demand" "[I", Cond.methodLink RX0 67 yX0_signalOf, Cond.instanceMethod yX0_signalOf, Cond.selects RX0 yX0_signalOf yX0_signalOf, Cond.code yX0_signalOf cX0_signalOf 4 (some .int), Cond.fieldLink RX0 9 "CellPlanner$Land" "cellX" "[I", Cond.fieldLink RX0 28 "CellPlanner$Land" "walkerX" "[I", Cond.methodLink RX0 59 Lib.Math.abs.name, Cond.static Lib.Math.abs.name]
def wsX0_measure_r2 : List Cond := [Cond.initialized "java/lang/Math", Cond.code Lib.Math.abs.name Lib.Math.abs.code 1 (some .int), Cond.fieldLink RX0 15 "CellPlanner$Land" "cellY" "[I", Cond.fieldLink RX0 31 "CellPlanner$Land" "walkerY" "[I", Cond.methodLink RX0 71 yX0_disturbances, Cond.instanceMethod yX0_disturbances, Cond.selects RX0 yX0_disturbances yX0_disturbances, Cond.code yX0_disturbances cX0_disturbances 5 (some .int), Cond.fieldLink RX0 24 "CellPlanner$Land" "on" "[Z", Cond.fieldLink RX0 18 "CellPlanner$Land" "channel" "[I"]
def wsX0_measure : List Cond := .code yX0_measure cX0_measure 3 none :: ((wsX0_measure_r1 ++ wsX0_measure_r2) ++ wsX00)
def wsX0_couldTake : List Cond := .code yX0_couldTake cX0_couldTake 3 (some .boolean) :: ([.fieldLink RX0 24 "CellPlanner$Land" "on" "[Z", .fieldLink RX0 37 "CellPlanner$Land" "server" "[I", .fieldLink RX0 34 "CellPlanner$Land" "demand" "[I", .fieldLink RX0 21 "CellPlanner$Land" "room" "[I", .methodLink RX0 55 yX0_loadOf, .instanceMethod yX0_loadOf, .selects RX0 yX0_loadOf yX0_loadOf, .initialized RX0, .code yX0_loadOf cX0_loadOf 4 (some .int), .fieldLink RX0 52 "CellPlanner$Land" "walkers" "I"] ++ wsX00)
def wsX0_bestOther : List Cond := .code yX0_bestOther cX0_bestOther 4 (some .int) :: ([.fieldLink RX0 48 "CellPlanner$Land" "cells" "I", .fieldLink RX0 45 "CellPlanner$Land" "quality" "[[I", .methodLink RX0 74 yX0_couldTake, .instanceMethod yX0_couldTake, .selects RX0 yX0_couldTake yX0_couldTake, .initialized RX0, .code yX0_couldTake cX0_couldTake 3 (some .boolean), .fieldLink RX0 24 "CellPlanner$Land" "on" "[Z", .fieldLink RX0 37 "CellPlanner$Land" "server" "[I", .fieldLink RX0 34 "CellPlanner$Land" "demand" "[I", .fieldLink RX0 21 "CellPlanner$Land" "room" "[I", .methodLink RX0 55 yX0_loadOf, .instanceMethod yX0_loadOf, .selects RX0 yX0_loadOf yX0_loadOf, .code yX0_loadOf cX0_loadOf 4 (some .int), .fieldLink RX0 52 "CellPlanner$Land" "walkers" "I"] ++ wsX00)
def wsX1_init : List Cond := .code yX1_init cX1_init 2 none :: ([.methodLink RX1 3 objectInit, .instanceMethod objectInit, .code objectInit ⟨#[0xb1]⟩ 1 none, .classLink RX1 9 "[[I", .arrayClass .int, .fieldLink RX1 11 "CellPlanner$Search" "worth" "[[I", .fieldLink RX1 16 "CellPlanner$Search" "hope" "[I", .fieldLink RX1 20 "CellPlanner$Search" "roomLeft" "[I", .fieldLink RX1 23 "CellPlanner$Search" "chosen" "[I", .fieldLink RX1 26 "CellPlanner$Search" "best" "[I", .fieldLink RX1 29 "CellPlanner$Search" "land" "LCellPlanner$Land;"] ++ wsX10)
def wsX1_fillWorth : List Cond := .code yX1_fillWorth cX1_fillWorth 9 (some .int) :: ([.fieldLink RX1 29 "CellPlanner$Search" "land" "LCellPlanner$Land;", .fieldLink RX1 52 "CellPlanner$Land" "cells" "I", .fieldLink RX1 68 "CellPlanner$Land" "quality" "[[I", .fieldLink RX1 71 "CellPlanner$Land" "on" "[Z", .fieldLink RX1 11 "CellPlanner$Search" "worth" "[[I", .methodLink RX1 75 Lib.Math.max.name, .static Lib.Math.max.name, .initialized "java/lang/Math", .code Lib.Math.max.name Lib.Math.max.code 2 (some .int)] ++ wsX10 ++ wsX00)
def wsX1_keep : List Cond := .code yX1_keep cX1_keep 2 none :: ([.fieldLink RX1 61 "CellPlanner$Search" "bestWorth" "I", .fieldLink RX1 23 "CellPlanner$Search" "chosen" "[I", .fieldLink RX1 26 "CellPlanner$Search" "best" "[I", .fieldLink RX1 29 "CellPlanner$Search" "land" "LCellPlanner$Land;", .fieldLink RX1 38 "CellPlanner$Land" "walkers" "I", .methodLink RX1 55 arraycopyName, .native arraycopyName, .static arraycopyName, .initialized "java/lang/System"] ++ wsX10 ++ wsX00)
def wsX1_place : List Cond := .code yX1_place cX1_place 6 none :: ([.fieldLink RX1 16 "CellPlanner$Search" "hope" "[I", .fieldLink RX1 61 "CellPlanner$Search" "bestWorth" "I", .fieldLink RX1 29 "CellPlanner$Search" "land" "LCellPlanner$Land;", .fieldLink RX1 38 "CellPlanner$Land" "walkers" "I", .fieldLink RX1 42 "CellPlanner$Land" "demand" "[I", .fieldLink RX1 52 "CellPlanner$Land" "cells" "I", .fieldLink RX1 11 "CellPlanner$Search" "worth" "[[I", .fieldLink RX1 20 "CellPlanner$Search" "roomLeft" "[I", .fieldLink RX1 23 "CellPlanner$Search" "chosen" "[I", .methodLink RX1 81 yX1_keep, .instanceMethod yX1_keep, .selects RX1 yX1_keep yX1_keep, .initialized RX1, .code yX1_keep cX1_keep 2 none, .fieldLink RX1 26 "CellPlanner$Search" "best" "[I", .methodLink RX1 55 arraycopyName, .native arraycopyName, .static arraycopyName, .initialized "java/lang/System", .methodLink RX1 64 yX1_place, .static yX1_place] ++ wsX10 ++ wsX00)
def wsX1_greatestWorth_r1 : List Cond := [Cond.fieldLink RX1 29 "CellPlanner$Search" "land" "LCellPlanner$Land;", Cond.fieldLink RX1 16 "CellPlanner$Search" "hope" "[I", Cond.fieldLink RX1 38 "CellPlanner$Land" "walkers" "I", Cond.fieldLink RX1 42 "CellPlanner$Land" "demand" "[I", Cond.fieldLink RX1 49 "CellPlanner$Land" "room" "[I", Cond.fieldLink RX1 20 "CellPlanner$Search" "roomLeft" "[I", Cond.fieldLink RX1 52 "CellPlanner$Land" "cells" "I", Cond.methodLink RX1 55 arraycopyName, Cond.native arraycopyName, Cond.static arraycopyName, Cond.initialized "java/lang/System", Cond.fieldLink RX1 61 "CellPlanner$Search" "bestWorth" "I", Cond.methodLink RX1 33 yX0_measure, Cond.instanceMethod yX0_measure, Cond.selects RX0 yX0_measure yX0_measure, Cond.initialized RX0, Cond.code yX0_measure cX0_measure 3 none, Cond.fieldLink RX0 48 "CellPlanner$Land" "cells" "I", Cond.fieldLink RX0 40 "CellPlanner$Land" "measuredUse" "[I", Cond.fieldLink RX0 52 "CellPlanner$Land" "walkers" "I", Cond.fieldLink RX0 45 "CellPlanner$Land" "quality" "[[I", Cond.methodLink RX0 64 yX0_useOf, Cond.instanceMethod yX0_useOf, Cond.selects RX0 yX0_useOf yX0_useOf]
def wsX1_greatestWorth_r2 : List Cond := [Cond.code yX0_useOf cX0_useOf 2 (some .int), Cond.fieldLink RX0 21 "CellPlanner$Land" "room" "[I", Cond.methodLink RX0 55 yX0_loadOf, Cond.instanceMethod yX0_loadOf, Cond.selects RX0 yX0_loadOf yX0_loadOf, Cond.code yX0_loadOf cX0_loadOf 4 (some .int), Cond.fieldLink RX0 37 "CellPlanner$Land" "server" "[I", Cond.fieldLink RX0 34 "CellPlanner$Land" "demand" "[I", Cond.methodLink RX0 67 yX0_signalOf, Cond.instanceMethod yX0_signalOf, Cond.selects RX0 yX0_signalOf yX0_signalOf, Cond.code yX0_signalOf cX0_signalOf 4 (some .int), Cond.fieldLink RX0 9 "CellPlanner$Land" "cellX" "[I", Cond.fieldLink RX0 28 "CellPlanner$Land" "walkerX" "[I", Cond.methodLink RX0 59 Lib.Math.abs.name, Cond.static Lib.Math.abs.name, Cond.initialized "java/lang/Math", Cond.code Lib.Math.abs.name Lib.Math.abs.code 1 (some .int), Cond.fieldLink RX0 15 "CellPlanner$Land" "cellY" "[I", Cond.fieldLink RX0 31 "CellPlanner$Land" "walkerY" "[I", Cond.methodLink RX0 71 yX0_disturbances, Cond.instanceMethod yX0_disturbances, Cond.selects RX0 yX0_disturbances yX0_disturbances, Cond.code yX0_disturbances cX0_disturbances 5 (some .int)]
def wsX1_greatestWorth_r3 : List Cond := [Cond.fieldLink RX0 24 "CellPlanner$Land" "on" "[Z", Cond.fieldLink RX0 18 "CellPlanner$Land" "channel" "[I", Cond.methodLink RX1 45 yX1_fillWorth, Cond.instanceMethod yX1_fillWorth, Cond.selects RX1 yX1_fillWorth yX1_fillWorth, Cond.initialized RX1, Cond.code yX1_fillWorth cX1_fillWorth 9 (some .int), Cond.fieldLink RX1 68 "CellPlanner$Land" "quality" "[[I", Cond.fieldLink RX1 71 "CellPlanner$Land" "on" "[Z", Cond.fieldLink RX1 11 "CellPlanner$Search" "worth" "[[I", Cond.methodLink RX1 75 Lib.Math.max.name, Cond.static Lib.Math.max.name, Cond.code Lib.Math.max.name Lib.Math.max.code 2 (some .int), Cond.methodLink RX1 64 yX1_place, Cond.static yX1_place, Cond.code yX1_place cX1_place 6 none, Cond.fieldLink RX1 23 "CellPlanner$Search" "chosen" "[I", Cond.methodLink RX1 81 yX1_keep, Cond.instanceMethod yX1_keep, Cond.selects RX1 yX1_keep yX1_keep, Cond.code yX1_keep cX1_keep 2 none, Cond.fieldLink RX1 26 "CellPlanner$Search" "best" "[I"]
def wsX1_greatestWorth : List Cond := .code yX1_greatestWorth cX1_greatestWorth 7 (some .int) :: ((wsX1_greatestWorth_r1 ++ (wsX1_greatestWorth_r2 ++ wsX1_greatestWorth_r3)) ++ wsX10 ++ wsX00)
def wsX2_init_r1 : List Cond := [Cond.methodLink RX2 1 objectInit, Cond.instanceMethod objectInit, Cond.code objectInit ⟨#[0xb1]⟩ 1 none, Cond.classLink RX2 7 RX0, Cond.instantiable RX0 13, Cond.initialized RX0, Cond.fieldLink RX2 10 "CellPlanner" "land" "LCellPlanner$Land;", Cond.classLink RX2 16 RX1, Cond.instantiable RX1 7, Cond.initialized RX1, Cond.fieldLink RX2 21 "CellPlanner" "search" "LCellPlanner$Search;", Cond.arrayClass .int, Cond.fieldLink RX2 25 "CellPlanner" "favourite" "[I", Cond.fieldLink RX2 29 "CellPlanner" "held" "[I", Cond.fieldLink RX2 32 "CellPlanner" "leftCell" "[I", Cond.fieldLink RX2 35 "CellPlanner" "leftAt" "[I", Cond.fieldLink RX2 38 "CellPlanner" "margin" "I", Cond.fieldLink RX2 42 "CellPlanner" "patience" "I", Cond.fieldLink RX2 45 "CellPlanner" "bound" "I", Cond.instanceMethod yX0_init, Cond.code yX0_init cX0_init 1 none, Cond.methodLink RX0 3 objectInit, Cond.fieldLink RX0 9 "CellPlanner$Land" "cellX" "[I", Cond.fieldLink RX0 15 "CellPlanner$Land" "cellY" "[I"]
def wsX2_init_r2 : List Cond := [Cond.fieldLink RX0 18 "CellPlanner$Land" "channel" "[I", Cond.fieldLink RX0 21 "CellPlanner$Land" "room" "[I", Cond.arrayClass .boolean, Cond.fieldLink RX0 24 "CellPlanner$Land" "on" "[Z", Cond.fieldLink RX0 28 "CellPlanner$Land" "walkerX" "[I", Cond.fieldLink RX0 31 "CellPlanner$Land" "walkerY" "[I", Cond.fieldLink RX0 34 "CellPlanner$Land" "demand" "[I", Cond.fieldLink RX0 37 "CellPlanner$Land" "server" "[I", Cond.fieldLink RX0 40 "CellPlanner$Land" "measuredUse" "[I", Cond.classLink RX0 43 "[[I", Cond.fieldLink RX0 45 "CellPlanner$Land" "quality" "[[I", Cond.methodLink RX2 18 yX1_init, Cond.instanceMethod yX1_init, Cond.code yX1_init cX1_init 2 none, Cond.methodLink RX1 3 objectInit, Cond.classLink RX1 9 "[[I", Cond.fieldLink RX1 11 "CellPlanner$Search" "worth" "[[I", Cond.fieldLink RX1 16 "CellPlanner$Search" "hope" "[I", Cond.fieldLink RX1 20 "CellPlanner$Search" "roomLeft" "[I", Cond.fieldLink RX1 23 "CellPlanner$Search" "chosen" "[I", Cond.fieldLink RX1 26 "CellPlanner$Search" "best" "[I", Cond.fieldLink RX1 29 "CellPlanner$Search" "land" "LCellPlanner$Land;"]
def wsX2_init : List Cond := .code yX2_init cX2_init 1 none :: ((wsX2_init_r1 ++ wsX2_init_r2) ++ wsX00 ++ wsX20 ++ wsX10)
def wsX2_requireRange : List Cond := .code yX2_requireRange cX2_requireRange 4 none :: ([.classLink RX2 144 "java/lang/IllegalArgumentException", .initialized "java/lang/IllegalArgumentException"] ++ (vx_atS RX2 148 "java/lang/IllegalArgumentException" ["java/lang/RuntimeException", "java/lang/Exception"]).filter goodWord)
def wsX2_cell : List Cond := .code yX2_cell cX2_cell 5 (some .int) :: ([.classLink RX2 55 "java/lang/IllegalStateException", .initialized "java/lang/IllegalStateException", .fieldLink RX2 10 "CellPlanner" "land" "LCellPlanner$Land;", .fieldLink RX2 52 "CellPlanner$Land" "cells" "I", .methodLink RX2 48 yX2_requireRange, .static yX2_requireRange, .initialized RX2, .code yX2_requireRange cX2_requireRange 4 none, .classLink RX2 144 "java/lang/IllegalArgumentException", .initialized "java/lang/IllegalArgumentException", .methodLink RX2 62 yX0_addCell, .instanceMethod yX0_addCell, .selects RX0 yX0_addCell yX0_addCell, .initialized RX0, .code yX0_addCell cX0_addCell 6 (some .int), .fieldLink RX0 48 "CellPlanner$Land" "cells" "I", .fieldLink RX0 9 "CellPlanner$Land" "cellX" "[I", .fieldLink RX0 15 "CellPlanner$Land" "cellY" "[I", .fieldLink RX0 18 "CellPlanner$Land" "channel" "[I", .fieldLink RX0 21 "CellPlanner$Land" "room" "[I", .fieldLink RX0 24 "CellPlanner$Land" "on" "[Z"] ++ wsX20 ++ wsX00 ++ (vx_atS RX2 59 "java/lang/IllegalStateException" ["java/lang/RuntimeException", "java/lang/Exception"]).filter goodWord ++ (vx_atS RX2 148 "java/lang/IllegalArgumentException" ["java/lang/RuntimeException", "java/lang/Exception"]).filter goodWord)
def wsX2_requireCell : List Cond := .code yX2_requireCell cX2_requireCell 2 none :: ([.classLink RX2 149 "java/lang/IndexOutOfBoundsException", .initialized "java/lang/IndexOutOfBoundsException", .fieldLink RX2 10 "CellPlanner" "land" "LCellPlanner$Land;", .fieldLink RX2 52 "CellPlanner$Land" "cells" "I"] ++ wsX20 ++ wsX00 ++ (vx_atS RX2 153 "java/lang/IndexOutOfBoundsException" ["java/lang/RuntimeException", "java/lang/Exception"]).filter goodWord)
def wsX2_dropFavourite : List Cond := .code yX2_dropFavourite cX2_dropFavourite 2 none :: ([.fieldLink RX2 25 "CellPlanner" "favourite" "[I", .fieldLink RX2 29 "CellPlanner" "held" "[I"] ++ wsX20)
def wsX2_releaseWalkers : List Cond := .code yX2_releaseWalkers cX2_releaseWalkers 3 none :: ([.fieldLink RX2 10 "CellPlanner" "land" "LCellPlanner$Land;", .fieldLink RX2 80 "CellPlanner$Land" "walkers" "I", .fieldLink RX2 128 "CellPlanner$Land" "server" "[I", .methodLink RX2 89 yX2_dropFavourite, .instanceMethod yX2_dropFavourite, .selects RX2 yX2_dropFavourite yX2_dropFavourite, .initialized RX2, .code yX2_dropFavourite cX2_dropFavourite 2 none, .fieldLink RX2 25 "CellPlanner" "favourite" "[I", .fieldLink RX2 29 "CellPlanner" "held" "[I"] ++ wsX20 ++ wsX00)
def wsX2_turn : List Cond := .code yX2_turn cX2_turn 2 (some .boolean) :: ([.fieldLink RX2 10 "CellPlanner" "land" "LCellPlanner$Land;", .fieldLink RX2 70 "CellPlanner$Land" "on" "[Z", .methodLink RX2 66 yX2_requireCell, .instanceMethod yX2_requireCell, .selects RX2 yX2_requireCell yX2_requireCell, .initialized RX2, .code yX2_requireCell cX2_requireCell 2 none, .classLink RX2 149 "java/lang/IndexOutOfBoundsException", .initialized "java/lang/IndexOutOfBoundsException", .fieldLink RX2 52 "CellPlanner$Land" "cells" "I", .methodLink RX2 74 yX2_releaseWalkers, .instanceMethod yX2_releaseWalkers, .selects RX2 yX2_releaseWalkers yX2_releaseWalkers, .code yX2_releaseWalkers cX2_releaseWalkers 3 none, .fieldLink RX2 80 "CellPlanner$Land" "walkers" "I", .fieldLink RX2 128 "CellPlanner$Land" "server" "[I", .methodLink RX2 89 yX2_dropFavourite, .instanceMethod yX2_dropFavourite, .selects RX2 yX2_dropFavourite yX2_dropFavourite, .code yX2_dropFavourite cX2_dropFavourite 2 none, .fieldLink RX2 25 "CellPlanner" "favourite" "[I", .fieldLink RX2 29 "CellPlanner" "held" "[I"] ++ wsX20 ++ wsX00 ++ (vx_atS RX2 153 "java/lang/IndexOutOfBoundsException" ["java/lang/RuntimeException", "java/lang/Exception"]).filter goodWord)
def wsX2_tune : List Cond := .code yX2_tune cX2_tune 4 (some .int) :: ([.fieldLink RX2 10 "CellPlanner" "land" "LCellPlanner$Land;", .fieldLink RX2 77 "CellPlanner$Land" "channel" "[I", .methodLink RX2 66 yX2_requireCell, .instanceMethod yX2_requireCell, .selects RX2 yX2_requireCell yX2_requireCell, .initialized RX2, .code yX2_requireCell cX2_requireCell 2 none, .classLink RX2 149 "java/lang/IndexOutOfBoundsException", .initialized "java/lang/IndexOutOfBoundsException", .fieldLink RX2 52 "CellPlanner$Land" "cells" "I", .methodLink RX2 48 yX2_requireRange, .static yX2_requireRange, .code yX2_requireRange cX2_requireRange 4 none, .classLink RX2 144 "java/lang/IllegalArgumentException", .initialized "java/lang/IllegalArgumentException"] ++ wsX20 ++ wsX00 ++ (vx_atS RX2 153 "java/lang/IndexOutOfBoundsException" ["java/lang/RuntimeException", "java/lang/Exception"]).filter goodWord ++ (vx_atS RX2 148 "java/lang/IllegalArgumentException" ["java/lang/RuntimeException", "java/lang/Exception"]).filter goodWord)
def wsX2_walker_r1 : List Cond := [Cond.classLink RX2 55 "java/lang/IllegalStateException", Cond.initialized "java/lang/IllegalStateException", Cond.fieldLink RX2 10 "CellPlanner" "land" "LCellPlanner$Land;", Cond.fieldLink RX2 80 "CellPlanner$Land" "walkers" "I", Cond.fieldLink RX2 32 "CellPlanner" "leftCell" "[I", Cond.methodLink RX2 48 yX2_requireRange, Cond.static yX2_requireRange, Cond.initialized RX2, Cond.code yX2_requireRange cX2_requireRange 4 none, Cond.classLink RX2 144 "java/lang/IllegalArgumentException", Cond.initialized "java/lang/IllegalArgumentException", Cond.methodLink RX2 85 yX0_addWalker, Cond.instanceMethod yX0_addWalker, Cond.selects RX0 yX0_addWalker yX0_addWalker, Cond.initialized RX0, Cond.code yX0_addWalker cX0_addWalker 5 (some .int), Cond.fieldLink RX0 52 "CellPlanner$Land" "walkers" "I", Cond.fieldLink RX0 28 "CellPlanner$Land" "walkerX" "[I", Cond.fieldLink RX0 31 "CellPlanner$Land" "walkerY" "[I", Cond.fieldLink RX0 34 "CellPlanner$Land" "demand" "[I", Cond.fieldLink RX0 37 "CellPlanner$Land" "server" "[I", Cond.methodLink RX2 89 yX2_dropFavourite, Cond.instanceMethod yX2_dropFavourite, Cond.selects RX2 yX2_dropFavourite yX2_dropFavourite]
def wsX2_walker_r2 : List Cond := [Cond.code yX2_dropFavourite cX2_dropFavourite 2 none, Cond.fieldLink RX2 25 "CellPlanner" "favourite" "[I", Cond.fieldLink RX2 29 "CellPlanner" "held" "[I"]
def wsX2_walker : List Cond := .code yX2_walker cX2_walker 5 (some .int) :: ((wsX2_walker_r1 ++ wsX2_walker_r2) ++ wsX20 ++ wsX00 ++ (vx_atS RX2 59 "java/lang/IllegalStateException" ["java/lang/RuntimeException", "java/lang/Exception"]).filter goodWord ++ (vx_atS RX2 148 "java/lang/IllegalArgumentException" ["java/lang/RuntimeException", "java/lang/Exception"]).filter goodWord)
def wsX2_requireWalker : List Cond := .code yX2_requireWalker cX2_requireWalker 2 none :: ([.classLink RX2 149 "java/lang/IndexOutOfBoundsException", .initialized "java/lang/IndexOutOfBoundsException", .fieldLink RX2 10 "CellPlanner" "land" "LCellPlanner$Land;", .fieldLink RX2 80 "CellPlanner$Land" "walkers" "I"] ++ wsX20 ++ wsX00 ++ (vx_atS RX2 153 "java/lang/IndexOutOfBoundsException" ["java/lang/RuntimeException", "java/lang/Exception"]).filter goodWord)
def wsX2_move : List Cond := .code yX2_move cX2_move 8 none :: ([.fieldLink RX2 10 "CellPlanner" "land" "LCellPlanner$Land;", .fieldLink RX2 95 "CellPlanner$Land" "walkerX" "[I", .fieldLink RX2 98 "CellPlanner$Land" "walkerY" "[I", .methodLink RX2 92 yX2_requireWalker, .instanceMethod yX2_requireWalker, .selects RX2 yX2_requireWalker yX2_requireWalker, .initialized RX2, .code yX2_requireWalker cX2_requireWalker 2 none, .classLink RX2 149 "java/lang/IndexOutOfBoundsException", .initialized "java/lang/IndexOutOfBoundsException", .fieldLink RX2 80 "CellPlanner$Land" "walkers" "I", .methodLink RX2 48 yX2_requireRange, .static yX2_requireRange, .code yX2_requireRange cX2_requireRange 4 none, .classLink RX2 144 "java/lang/IllegalArgumentException", .initialized "java/lang/IllegalArgumentException"] ++ wsX20 ++ wsX00 ++ (vx_atS RX2 153 "java/lang/IndexOutOfBoundsException" ["java/lang/RuntimeException", "java/lang/Exception"]).filter goodWord ++ (vx_atS RX2 148 "java/lang/IllegalArgumentException" ["java/lang/RuntimeException", "java/lang/Exception"]).filter goodWord)
def wsX2_margin : List Cond := .code yX2_margin cX2_margin 3 (some .int) :: ([.fieldLink RX2 38 "CellPlanner" "margin" "I", .methodLink RX2 48 yX2_requireRange, .static yX2_requireRange, .initialized RX2, .code yX2_requireRange cX2_requireRange 4 none, .classLink RX2 144 "java/lang/IllegalArgumentException", .initialized "java/lang/IllegalArgumentException"] ++ wsX20 ++ (vx_atS RX2 148 "java/lang/IllegalArgumentException" ["java/lang/RuntimeException", "java/lang/Exception"]).filter goodWord)
def wsX2_patience : List Cond := .code yX2_patience cX2_patience 3 (some .int) :: ([.fieldLink RX2 42 "CellPlanner" "patience" "I", .methodLink RX2 48 yX2_requireRange, .static yX2_requireRange, .initialized RX2, .code yX2_requireRange cX2_requireRange 4 none, .classLink RX2 144 "java/lang/IllegalArgumentException", .initialized "java/lang/IllegalArgumentException"] ++ wsX20 ++ (vx_atS RX2 148 "java/lang/IllegalArgumentException" ["java/lang/RuntimeException", "java/lang/Exception"]).filter goodWord)
def wsX2_bound : List Cond := .code yX2_bound cX2_bound 3 (some .int) :: ([.fieldLink RX2 45 "CellPlanner" "bound" "I", .methodLink RX2 48 yX2_requireRange, .static yX2_requireRange, .initialized RX2, .code yX2_requireRange cX2_requireRange 4 none, .classLink RX2 144 "java/lang/IllegalArgumentException", .initialized "java/lang/IllegalArgumentException"] ++ wsX20 ++ (vx_atS RX2 148 "java/lang/IllegalArgumentException" ["java/lang/RuntimeException", "java/lang/Exception"]).filter goodWord)
def wsX2_seekCell : List Cond := .code yX2_seekCell cX2_seekCell 3 none :: ([.fieldLink RX2 10 "CellPlanner" "land" "LCellPlanner$Land;", .fieldLink RX2 117 "CellPlanner$Land" "quality" "[[I", .fieldLink RX2 45 "CellPlanner" "bound" "I", .fieldLink RX2 128 "CellPlanner$Land" "server" "[I", .methodLink RX2 166 yX0_bestOther, .instanceMethod yX0_bestOther, .selects RX0 yX0_bestOther yX0_bestOther, .initialized RX0, .code yX0_bestOther cX0_bestOther 4 (some .int), .fieldLink RX0 48 "CellPlanner$Land" "cells" "I", .fieldLink RX0 45 "CellPlanner$Land" "quality" "[[I", .methodLink RX0 74 yX0_couldTake, .instanceMethod yX0_couldTake, .selects RX0 yX0_couldTake yX0_couldTake, .code yX0_couldTake cX0_couldTake 3 (some .boolean), .fieldLink RX0 24 "CellPlanner$Land" "on" "[Z", .fieldLink RX0 37 "CellPlanner$Land" "server" "[I", .fieldLink RX0 34 "CellPlanner$Land" "demand" "[I", .fieldLink RX0 21 "CellPlanner$Land" "room" "[I", .methodLink RX0 55 yX0_loadOf, .instanceMethod yX0_loadOf, .selects RX0 yX0_loadOf yX0_loadOf, .code yX0_loadOf cX0_loadOf 4 (some .int), .fieldLink RX0 52 "CellPlanner$Land" "walkers" "I"] ++ wsX20 ++ wsX00)
def wsX2_loseCell : List Cond := .code yX2_loseCell cX2_loseCell 2 none :: ([.fieldLink RX2 134 "CellPlanner" "losses" "I", .fieldLink RX2 10 "CellPlanner" "land" "LCellPlanner$Land;", .fieldLink RX2 128 "CellPlanner$Land" "server" "[I", .fieldLink RX2 32 "CellPlanner" "leftCell" "[I", .methodLink RX2 89 yX2_dropFavourite, .instanceMethod yX2_dropFavourite, .selects RX2 yX2_dropFavourite yX2_dropFavourite, .initialized RX2, .code yX2_dropFavourite cX2_dropFavourite 2 none, .fieldLink RX2 25 "CellPlanner" "favourite" "[I", .fieldLink RX2 29 "CellPlanner" "held" "[I"] ++ wsX20 ++ wsX00)
def wsX2_handOver : List Cond := .code yX2_handOver cX2_handOver 4 none :: ([.fieldLink RX2 101 "CellPlanner" "handovers" "I", .fieldLink RX2 32 "CellPlanner" "leftCell" "[I", .fieldLink RX2 107 "CellPlanner" "ticks" "I", .fieldLink RX2 35 "CellPlanner" "leftAt" "[I", .fieldLink RX2 131 "CellPlanner" "rings" "I", .fieldLink RX2 10 "CellPlanner" "land" "LCellPlanner$Land;", .fieldLink RX2 128 "CellPlanner$Land" "server" "[I", .methodLink RX2 89 yX2_dropFavourite, .instanceMethod yX2_dropFavourite, .selects RX2 yX2_dropFavourite yX2_dropFavourite, .initialized RX2, .code yX2_dropFavourite cX2_dropFavourite 2 none, .fieldLink RX2 25 "CellPlanner" "favourite" "[I", .fieldLink RX2 29 "CellPlanner" "held" "[I"] ++ wsX20 ++ wsX00)
def wsX2_weighFavourite_r1 : List Cond := [Cond.fieldLink RX2 10 "CellPlanner" "land" "LCellPlanner$Land;", Cond.fieldLink RX2 117 "CellPlanner$Land" "quality" "[[I", Cond.fieldLink RX2 38 "CellPlanner" "margin" "I", Cond.fieldLink RX2 29 "CellPlanner" "held" "[I", Cond.fieldLink RX2 25 "CellPlanner" "favourite" "[I", Cond.fieldLink RX2 42 "CellPlanner" "patience" "I", Cond.methodLink RX2 166 yX0_bestOther, Cond.instanceMethod yX0_bestOther, Cond.selects RX0 yX0_bestOther yX0_bestOther, Cond.initialized RX0, Cond.code yX0_bestOther cX0_bestOther 4 (some .int), Cond.fieldLink RX0 48 "CellPlanner$Land" "cells" "I", Cond.fieldLink RX0 45 "CellPlanner$Land" "quality" "[[I", Cond.methodLink RX0 74 yX0_couldTake, Cond.instanceMethod yX0_couldTake, Cond.selects RX0 yX0_couldTake yX0_couldTake, Cond.code yX0_couldTake cX0_couldTake 3 (some .boolean), Cond.fieldLink RX0 24 "CellPlanner$Land" "on" "[Z", Cond.fieldLink RX0 37 "CellPlanner$Land" "server" "[I", Cond.fieldLink RX0 34 "CellPlanner$Land" "demand" "[I", Cond.fieldLink RX0 21 "CellPlanner$Land" "room" "[I", Cond.methodLink RX0 55 yX0_loadOf, Cond.instanceMethod yX0_loadOf, Cond.selects RX0 yX0_loadOf yX0_loadOf]
def wsX2_weighFavourite_r2 : List Cond := [Cond.code yX0_loadOf cX0_loadOf 4 (some .int), Cond.fieldLink RX0 52 "CellPlanner$Land" "walkers" "I", Cond.methodLink RX2 89 yX2_dropFavourite, Cond.instanceMethod yX2_dropFavourite, Cond.selects RX2 yX2_dropFavourite yX2_dropFavourite, Cond.initialized RX2, Cond.code yX2_dropFavourite cX2_dropFavourite 2 none, Cond.methodLink RX2 169 yX2_handOver, Cond.instanceMethod yX2_handOver, Cond.selects RX2 yX2_handOver yX2_handOver, Cond.code yX2_handOver cX2_handOver 4 none, Cond.fieldLink RX2 101 "CellPlanner" "handovers" "I", Cond.fieldLink RX2 32 "CellPlanner" "leftCell" "[I", Cond.fieldLink RX2 107 "CellPlanner" "ticks" "I", Cond.fieldLink RX2 35 "CellPlanner" "leftAt" "[I", Cond.fieldLink RX2 131 "CellPlanner" "rings" "I", Cond.fieldLink RX2 128 "CellPlanner$Land" "server" "[I"]
def wsX2_weighFavourite : List Cond := .code yX2_weighFavourite cX2_weighFavourite 4 none :: ((wsX2_weighFavourite_r1 ++ wsX2_weighFavourite_r2) ++ wsX20 ++ wsX00)
def wsX2_passTick_r1 : List Cond := [Cond.fieldLink RX2 107 "CellPlanner" "ticks" "I", Cond.fieldLink RX2 10 "CellPlanner" "land" "LCellPlanner$Land;", Cond.fieldLink RX2 80 "CellPlanner$Land" "walkers" "I", Cond.fieldLink RX2 128 "CellPlanner$Land" "server" "[I", Cond.fieldLink RX2 117 "CellPlanner$Land" "quality" "[[I", Cond.fieldLink RX2 45 "CellPlanner" "bound" "I", Cond.methodLink RX2 114 yX0_measure, Cond.instanceMethod yX0_measure, Cond.selects RX0 yX0_measure yX0_measure, Cond.initialized RX0, Cond.code yX0_measure cX0_measure 3 none, Cond.fieldLink RX0 48 "CellPlanner$Land" "cells" "I", Cond.fieldLink RX0 40 "CellPlanner$Land" "measuredUse" "[I", Cond.fieldLink RX0 52 "CellPlanner$Land" "walkers" "I", Cond.fieldLink RX0 45 "CellPlanner$Land" "quality" "[[I", Cond.methodLink RX0 64 yX0_useOf, Cond.instanceMethod yX0_useOf, Cond.selects RX0 yX0_useOf yX0_useOf, Cond.code yX0_useOf cX0_useOf 2 (some .int), Cond.fieldLink RX0 21 "CellPlanner$Land" "room" "[I", Cond.methodLink RX0 55 yX0_loadOf, Cond.instanceMethod yX0_loadOf, Cond.selects RX0 yX0_loadOf yX0_loadOf, Cond.code yX0_loadOf cX0_loadOf 4 (some .int)]
def wsX2_passTick_r2 : List Cond := [Cond.fieldLink RX0 37 "CellPlanner$Land" "server" "[I", Cond.fieldLink RX0 34 "CellPlanner$Land" "demand" "[I", Cond.methodLink RX0 67 yX0_signalOf, Cond.instanceMethod yX0_signalOf, Cond.selects RX0 yX0_signalOf yX0_signalOf, Cond.code yX0_signalOf cX0_signalOf 4 (some .int), Cond.fieldLink RX0 9 "CellPlanner$Land" "cellX" "[I", Cond.fieldLink RX0 28 "CellPlanner$Land" "walkerX" "[I", Cond.methodLink RX0 59 Lib.Math.abs.name, Cond.static Lib.Math.abs.name, Cond.initialized "java/lang/Math", Cond.code Lib.Math.abs.name Lib.Math.abs.code 1 (some .int), Cond.fieldLink RX0 15 "CellPlanner$Land" "cellY" "[I", Cond.fieldLink RX0 31 "CellPlanner$Land" "walkerY" "[I", Cond.methodLink RX0 71 yX0_disturbances, Cond.instanceMethod yX0_disturbances, Cond.selects RX0 yX0_disturbances yX0_disturbances, Cond.code yX0_disturbances cX0_disturbances 5 (some .int), Cond.fieldLink RX0 24 "CellPlanner$Land" "on" "[Z", Cond.fieldLink RX0 18 "CellPlanner$Land" "channel" "[I", Cond.methodLink RX2 156 yX2_seekCell, Cond.instanceMethod yX2_seekCell, Cond.selects RX2 yX2_seekCell yX2_seekCell, Cond.initialized RX2]
def wsX2_passTick_r3 : List Cond := [Cond.code yX2_seekCell cX2_seekCell 3 none, Cond.methodLink RX2 166 yX0_bestOther, Cond.instanceMethod yX0_bestOther, Cond.selects RX0 yX0_bestOther yX0_bestOther, Cond.code yX0_bestOther cX0_bestOther 4 (some .int), Cond.methodLink RX0 74 yX0_couldTake, Cond.instanceMethod yX0_couldTake, Cond.selects RX0 yX0_couldTake yX0_couldTake, Cond.code yX0_couldTake cX0_couldTake 3 (some .boolean), Cond.methodLink RX2 159 yX2_loseCell, Cond.instanceMethod yX2_loseCell, Cond.selects RX2 yX2_loseCell yX2_loseCell, Cond.code yX2_loseCell cX2_loseCell 2 none, Cond.fieldLink RX2 134 "CellPlanner" "losses" "I", Cond.fieldLink RX2 32 "CellPlanner" "leftCell" "[I", Cond.methodLink RX2 89 yX2_dropFavourite, Cond.instanceMethod yX2_dropFavourite, Cond.selects RX2 yX2_dropFavourite yX2_dropFavourite, Cond.code yX2_dropFavourite cX2_dropFavourite 2 none, Cond.fieldLink RX2 25 "CellPlanner" "favourite" "[I", Cond.fieldLink RX2 29 "CellPlanner" "held" "[I", Cond.methodLink RX2 162 yX2_weighFavourite, Cond.instanceMethod yX2_weighFavourite, Cond.selects RX2 yX2_weighFavourite yX2_weighFavourite]
def wsX2_passTick_r4 : List Cond := [Cond.code yX2_weighFavourite cX2_weighFavourite 4 none, Cond.fieldLink RX2 38 "CellPlanner" "margin" "I", Cond.fieldLink RX2 42 "CellPlanner" "patience" "I", Cond.methodLink RX2 169 yX2_handOver, Cond.instanceMethod yX2_handOver, Cond.selects RX2 yX2_handOver yX2_handOver, Cond.code yX2_handOver cX2_handOver 4 none, Cond.fieldLink RX2 101 "CellPlanner" "handovers" "I", Cond.fieldLink RX2 35 "CellPlanner" "leftAt" "[I", Cond.fieldLink RX2 131 "CellPlanner" "rings" "I"]
def wsX2_passTick : List Cond := .code yX2_passTick cX2_passTick 3 none :: ((wsX2_passTick_r1 ++ (wsX2_passTick_r2 ++ (wsX2_passTick_r3 ++ wsX2_passTick_r4))) ++ wsX20 ++ wsX00)
def wsX2_tick_r1 : List Cond := [Cond.fieldLink RX2 101 "CellPlanner" "handovers" "I", Cond.methodLink RX2 48 yX2_requireRange, Cond.static yX2_requireRange, Cond.initialized RX2, Cond.code yX2_requireRange cX2_requireRange 4 none, Cond.classLink RX2 144 "java/lang/IllegalArgumentException", Cond.initialized "java/lang/IllegalArgumentException", Cond.methodLink RX2 104 yX2_passTick, Cond.instanceMethod yX2_passTick, Cond.selects RX2 yX2_passTick yX2_passTick, Cond.code yX2_passTick cX2_passTick 3 none, Cond.fieldLink RX2 107 "CellPlanner" "ticks" "I", Cond.fieldLink RX2 10 "CellPlanner" "land" "LCellPlanner$Land;", Cond.fieldLink RX2 80 "CellPlanner$Land" "walkers" "I", Cond.fieldLink RX2 128 "CellPlanner$Land" "server" "[I", Cond.fieldLink RX2 117 "CellPlanner$Land" "quality" "[[I", Cond.fieldLink RX2 45 "CellPlanner" "bound" "I", Cond.methodLink RX2 114 yX0_measure, Cond.instanceMethod yX0_measure, Cond.selects RX0 yX0_measure yX0_measure, Cond.initialized RX0, Cond.code yX0_measure cX0_measure 3 none, Cond.fieldLink RX0 48 "CellPlanner$Land" "cells" "I", Cond.fieldLink RX0 40 "CellPlanner$Land" "measuredUse" "[I"]
def wsX2_tick_r2 : List Cond := [Cond.fieldLink RX0 52 "CellPlanner$Land" "walkers" "I", Cond.fieldLink RX0 45 "CellPlanner$Land" "quality" "[[I", Cond.methodLink RX0 64 yX0_useOf, Cond.instanceMethod yX0_useOf, Cond.selects RX0 yX0_useOf yX0_useOf, Cond.code yX0_useOf cX0_useOf 2 (some .int), Cond.fieldLink RX0 21 "CellPlanner$Land" "room" "[I", Cond.methodLink RX0 55 yX0_loadOf, Cond.instanceMethod yX0_loadOf, Cond.selects RX0 yX0_loadOf yX0_loadOf, Cond.code yX0_loadOf cX0_loadOf 4 (some .int), Cond.fieldLink RX0 37 "CellPlanner$Land" "server" "[I", Cond.fieldLink RX0 34 "CellPlanner$Land" "demand" "[I", Cond.methodLink RX0 67 yX0_signalOf, Cond.instanceMethod yX0_signalOf, Cond.selects RX0 yX0_signalOf yX0_signalOf, Cond.code yX0_signalOf cX0_signalOf 4 (some .int), Cond.fieldLink RX0 9 "CellPlanner$Land" "cellX" "[I", Cond.fieldLink RX0 28 "CellPlanner$Land" "walkerX" "[I", Cond.methodLink RX0 59 Lib.Math.abs.name, Cond.static Lib.Math.abs.name, Cond.initialized "java/lang/Math", Cond.code Lib.Math.abs.name Lib.Math.abs.code 1 (some .int), Cond.fieldLink RX0 15 "CellPlanner$Land" "cellY" "[I"]
def wsX2_tick_r3 : List Cond := [Cond.fieldLink RX0 31 "CellPlanner$Land" "walkerY" "[I", Cond.methodLink RX0 71 yX0_disturbances, Cond.instanceMethod yX0_disturbances, Cond.selects RX0 yX0_disturbances yX0_disturbances, Cond.code yX0_disturbances cX0_disturbances 5 (some .int), Cond.fieldLink RX0 24 "CellPlanner$Land" "on" "[Z", Cond.fieldLink RX0 18 "CellPlanner$Land" "channel" "[I", Cond.methodLink RX2 156 yX2_seekCell, Cond.instanceMethod yX2_seekCell, Cond.selects RX2 yX2_seekCell yX2_seekCell, Cond.code yX2_seekCell cX2_seekCell 3 none, Cond.methodLink RX2 166 yX0_bestOther, Cond.instanceMethod yX0_bestOther, Cond.selects RX0 yX0_bestOther yX0_bestOther, Cond.code yX0_bestOther cX0_bestOther 4 (some .int), Cond.methodLink RX0 74 yX0_couldTake, Cond.instanceMethod yX0_couldTake, Cond.selects RX0 yX0_couldTake yX0_couldTake, Cond.code yX0_couldTake cX0_couldTake 3 (some .boolean), Cond.methodLink RX2 159 yX2_loseCell, Cond.instanceMethod yX2_loseCell, Cond.selects RX2 yX2_loseCell yX2_loseCell, Cond.code yX2_loseCell cX2_loseCell 2 none, Cond.fieldLink RX2 134 "CellPlanner" "losses" "I"]
def wsX2_tick_r4 : List Cond := [Cond.fieldLink RX2 32 "CellPlanner" "leftCell" "[I", Cond.methodLink RX2 89 yX2_dropFavourite, Cond.instanceMethod yX2_dropFavourite, Cond.selects RX2 yX2_dropFavourite yX2_dropFavourite, Cond.code yX2_dropFavourite cX2_dropFavourite 2 none, Cond.fieldLink RX2 25 "CellPlanner" "favourite" "[I", Cond.fieldLink RX2 29 "CellPlanner" "held" "[I", Cond.methodLink RX2 162 yX2_weighFavourite, Cond.instanceMethod yX2_weighFavourite, Cond.selects RX2 yX2_weighFavourite yX2_weighFavourite, Cond.code yX2_weighFavourite cX2_weighFavourite 4 none, Cond.fieldLink RX2 38 "CellPlanner" "margin" "I", Cond.fieldLink RX2 42 "CellPlanner" "patience" "I", Cond.methodLink RX2 169 yX2_handOver, Cond.instanceMethod yX2_handOver, Cond.selects RX2 yX2_handOver yX2_handOver, Cond.code yX2_handOver cX2_handOver 4 none, Cond.fieldLink RX2 35 "CellPlanner" "leftAt" "[I", Cond.fieldLink RX2 131 "CellPlanner" "rings" "I"]
def wsX2_tick : List Cond := .code yX2_tick cX2_tick 4 (some .int) :: ((wsX2_tick_r1 ++ (wsX2_tick_r2 ++ (wsX2_tick_r3 ++ wsX2_tick_r4))) ++ wsX20 ++ wsX00 ++ (vx_atS RX2 148 "java/lang/IllegalArgumentException" ["java/lang/RuntimeException", "java/lang/Exception"]).filter goodWord)
def wsX2_ticks : List Cond := .code yX2_ticks cX2_ticks 1 (some .int) :: ([.fieldLink RX2 107 "CellPlanner" "ticks" "I"] ++ wsX20)
def wsX2_cells : List Cond := .code yX2_cells cX2_cells 1 (some .int) :: ([.fieldLink RX2 10 "CellPlanner" "land" "LCellPlanner$Land;", .fieldLink RX2 52 "CellPlanner$Land" "cells" "I"] ++ wsX20 ++ wsX00)
def wsX2_walkers : List Cond := .code yX2_walkers cX2_walkers 1 (some .int) :: ([.fieldLink RX2 10 "CellPlanner" "land" "LCellPlanner$Land;", .fieldLink RX2 80 "CellPlanner$Land" "walkers" "I"] ++ wsX20 ++ wsX00)
def wsX2_signal_r1 : List Cond := [Cond.fieldLink RX2 10 "CellPlanner" "land" "LCellPlanner$Land;", Cond.methodLink RX2 66 yX2_requireCell, Cond.instanceMethod yX2_requireCell, Cond.selects RX2 yX2_requireCell yX2_requireCell, Cond.initialized RX2, Cond.code yX2_requireCell cX2_requireCell 2 none, Cond.classLink RX2 149 "java/lang/IndexOutOfBoundsException", Cond.initialized "java/lang/IndexOutOfBoundsException", Cond.fieldLink RX2 52 "CellPlanner$Land" "cells" "I", Cond.methodLink RX2 92 yX2_requireWalker, Cond.instanceMethod yX2_requireWalker, Cond.selects RX2 yX2_requireWalker yX2_requireWalker, Cond.code yX2_requireWalker cX2_requireWalker 2 none, Cond.fieldLink RX2 80 "CellPlanner$Land" "walkers" "I", Cond.methodLink RX2 110 yX0_signalOf, Cond.instanceMethod yX0_signalOf, Cond.selects RX0 yX0_signalOf yX0_signalOf, Cond.initialized RX0, Cond.code yX0_signalOf cX0_signalOf 4 (some .int), Cond.fieldLink RX0 9 "CellPlanner$Land" "cellX" "[I", Cond.fieldLink RX0 28 "CellPlanner$Land" "walkerX" "[I", Cond.methodLink RX0 59 Lib.Math.abs.name, Cond.static Lib.Math.abs.name, Cond.initialized "java/lang/Math"]
def wsX2_signal_r2 : List Cond := [Cond.code Lib.Math.abs.name Lib.Math.abs.code 1 (some .int), Cond.fieldLink RX0 15 "CellPlanner$Land" "cellY" "[I", Cond.fieldLink RX0 31 "CellPlanner$Land" "walkerY" "[I"]
def wsX2_signal : List Cond := .code yX2_signal cX2_signal 3 (some .int) :: ((wsX2_signal_r1 ++ wsX2_signal_r2) ++ wsX20 ++ wsX00 ++ (vx_atS RX2 153 "java/lang/IndexOutOfBoundsException" ["java/lang/RuntimeException", "java/lang/Exception"]).filter goodWord)
def wsX2_quality_r1 : List Cond := [Cond.fieldLink RX2 10 "CellPlanner" "land" "LCellPlanner$Land;", Cond.fieldLink RX2 117 "CellPlanner$Land" "quality" "[[I", Cond.methodLink RX2 66 yX2_requireCell, Cond.instanceMethod yX2_requireCell, Cond.selects RX2 yX2_requireCell yX2_requireCell, Cond.initialized RX2, Cond.code yX2_requireCell cX2_requireCell 2 none, Cond.classLink RX2 149 "java/lang/IndexOutOfBoundsException", Cond.initialized "java/lang/IndexOutOfBoundsException", Cond.fieldLink RX2 52 "CellPlanner$Land" "cells" "I", Cond.methodLink RX2 92 yX2_requireWalker, Cond.instanceMethod yX2_requireWalker, Cond.selects RX2 yX2_requireWalker yX2_requireWalker, Cond.code yX2_requireWalker cX2_requireWalker 2 none, Cond.fieldLink RX2 80 "CellPlanner$Land" "walkers" "I", Cond.methodLink RX2 114 yX0_measure, Cond.instanceMethod yX0_measure, Cond.selects RX0 yX0_measure yX0_measure, Cond.initialized RX0, Cond.code yX0_measure cX0_measure 3 none, Cond.fieldLink RX0 48 "CellPlanner$Land" "cells" "I", Cond.fieldLink RX0 40 "CellPlanner$Land" "measuredUse" "[I", Cond.fieldLink RX0 52 "CellPlanner$Land" "walkers" "I", Cond.fieldLink RX0 45 "CellPlanner$Land" "quality" "[[I"]
def wsX2_quality_r2 : List Cond := [Cond.methodLink RX0 64 yX0_useOf, Cond.instanceMethod yX0_useOf, Cond.selects RX0 yX0_useOf yX0_useOf, Cond.code yX0_useOf cX0_useOf 2 (some .int), Cond.fieldLink RX0 21 "CellPlanner$Land" "room" "[I", Cond.methodLink RX0 55 yX0_loadOf, Cond.instanceMethod yX0_loadOf, Cond.selects RX0 yX0_loadOf yX0_loadOf, Cond.code yX0_loadOf cX0_loadOf 4 (some .int), Cond.fieldLink RX0 37 "CellPlanner$Land" "server" "[I", Cond.fieldLink RX0 34 "CellPlanner$Land" "demand" "[I", Cond.methodLink RX0 67 yX0_signalOf, Cond.instanceMethod yX0_signalOf, Cond.selects RX0 yX0_signalOf yX0_signalOf, Cond.code yX0_signalOf cX0_signalOf 4 (some .int), Cond.fieldLink RX0 9 "CellPlanner$Land" "cellX" "[I", Cond.fieldLink RX0 28 "CellPlanner$Land" "walkerX" "[I", Cond.methodLink RX0 59 Lib.Math.abs.name, Cond.static Lib.Math.abs.name, Cond.initialized "java/lang/Math", Cond.code Lib.Math.abs.name Lib.Math.abs.code 1 (some .int), Cond.fieldLink RX0 15 "CellPlanner$Land" "cellY" "[I", Cond.fieldLink RX0 31 "CellPlanner$Land" "walkerY" "[I", Cond.methodLink RX0 71 yX0_disturbances]
def wsX2_quality_r3 : List Cond := [Cond.instanceMethod yX0_disturbances, Cond.selects RX0 yX0_disturbances yX0_disturbances, Cond.code yX0_disturbances cX0_disturbances 5 (some .int), Cond.fieldLink RX0 24 "CellPlanner$Land" "on" "[Z", Cond.fieldLink RX0 18 "CellPlanner$Land" "channel" "[I"]
def wsX2_quality : List Cond := .code yX2_quality cX2_quality 3 (some .int) :: ((wsX2_quality_r1 ++ (wsX2_quality_r2 ++ wsX2_quality_r3)) ++ wsX20 ++ wsX00 ++ (vx_atS RX2 153 "java/lang/IndexOutOfBoundsException" ["java/lang/RuntimeException", "java/lang/Exception"]).filter goodWord)
def wsX2_load : List Cond := .code yX2_load cX2_load 2 (some .int) :: ([.fieldLink RX2 10 "CellPlanner" "land" "LCellPlanner$Land;", .methodLink RX2 66 yX2_requireCell, .instanceMethod yX2_requireCell, .selects RX2 yX2_requireCell yX2_requireCell, .initialized RX2, .code yX2_requireCell cX2_requireCell 2 none, .classLink RX2 149 "java/lang/IndexOutOfBoundsException", .initialized "java/lang/IndexOutOfBoundsException", .fieldLink RX2 52 "CellPlanner$Land" "cells" "I", .methodLink RX2 121 yX0_loadOf, .instanceMethod yX0_loadOf, .selects RX0 yX0_loadOf yX0_loadOf, .initialized RX0, .code yX0_loadOf cX0_loadOf 4 (some .int), .fieldLink RX0 52 "CellPlanner$Land" "walkers" "I", .fieldLink RX0 37 "CellPlanner$Land" "server" "[I", .fieldLink RX0 34 "CellPlanner$Land" "demand" "[I"] ++ wsX20 ++ wsX00 ++ (vx_atS RX2 153 "java/lang/IndexOutOfBoundsException" ["java/lang/RuntimeException", "java/lang/Exception"]).filter goodWord)
def wsX2_use : List Cond := .code yX2_use cX2_use 2 (some .int) :: ([.fieldLink RX2 10 "CellPlanner" "land" "LCellPlanner$Land;", .methodLink RX2 66 yX2_requireCell, .instanceMethod yX2_requireCell, .selects RX2 yX2_requireCell yX2_requireCell, .initialized RX2, .code yX2_requireCell cX2_requireCell 2 none, .classLink RX2 149 "java/lang/IndexOutOfBoundsException", .initialized "java/lang/IndexOutOfBoundsException", .fieldLink RX2 52 "CellPlanner$Land" "cells" "I", .methodLink RX2 125 yX0_useOf, .instanceMethod yX0_useOf, .selects RX0 yX0_useOf yX0_useOf, .initialized RX0, .code yX0_useOf cX0_useOf 2 (some .int), .fieldLink RX0 21 "CellPlanner$Land" "room" "[I", .methodLink RX0 55 yX0_loadOf, .instanceMethod yX0_loadOf, .selects RX0 yX0_loadOf yX0_loadOf, .code yX0_loadOf cX0_loadOf 4 (some .int), .fieldLink RX0 52 "CellPlanner$Land" "walkers" "I", .fieldLink RX0 37 "CellPlanner$Land" "server" "[I", .fieldLink RX0 34 "CellPlanner$Land" "demand" "[I"] ++ wsX20 ++ wsX00 ++ (vx_atS RX2 153 "java/lang/IndexOutOfBoundsException" ["java/lang/RuntimeException", "java/lang/Exception"]).filter goodWord)
def wsX2_servedBy : List Cond := .code yX2_servedBy cX2_servedBy 2 (some .int) :: ([.fieldLink RX2 10 "CellPlanner" "land" "LCellPlanner$Land;", .fieldLink RX2 128 "CellPlanner$Land" "server" "[I", .methodLink RX2 92 yX2_requireWalker, .instanceMethod yX2_requireWalker, .selects RX2 yX2_requireWalker yX2_requireWalker, .initialized RX2, .code yX2_requireWalker cX2_requireWalker 2 none, .classLink RX2 149 "java/lang/IndexOutOfBoundsException", .initialized "java/lang/IndexOutOfBoundsException", .fieldLink RX2 80 "CellPlanner$Land" "walkers" "I"] ++ wsX20 ++ wsX00 ++ (vx_atS RX2 153 "java/lang/IndexOutOfBoundsException" ["java/lang/RuntimeException", "java/lang/Exception"]).filter goodWord)
def wsX2_favourite : List Cond := .code yX2_favourite cX2_favourite 2 (some .int) :: ([.fieldLink RX2 25 "CellPlanner" "favourite" "[I", .methodLink RX2 92 yX2_requireWalker, .instanceMethod yX2_requireWalker, .selects RX2 yX2_requireWalker yX2_requireWalker, .initialized RX2, .code yX2_requireWalker cX2_requireWalker 2 none, .classLink RX2 149 "java/lang/IndexOutOfBoundsException", .initialized "java/lang/IndexOutOfBoundsException", .fieldLink RX2 10 "CellPlanner" "land" "LCellPlanner$Land;", .fieldLink RX2 80 "CellPlanner$Land" "walkers" "I"] ++ wsX20 ++ wsX00 ++ (vx_atS RX2 153 "java/lang/IndexOutOfBoundsException" ["java/lang/RuntimeException", "java/lang/Exception"]).filter goodWord)
def wsX2_heldFor : List Cond := .code yX2_heldFor cX2_heldFor 2 (some .int) :: ([.fieldLink RX2 29 "CellPlanner" "held" "[I", .methodLink RX2 92 yX2_requireWalker, .instanceMethod yX2_requireWalker, .selects RX2 yX2_requireWalker yX2_requireWalker, .initialized RX2, .code yX2_requireWalker cX2_requireWalker 2 none, .classLink RX2 149 "java/lang/IndexOutOfBoundsException", .initialized "java/lang/IndexOutOfBoundsException", .fieldLink RX2 10 "CellPlanner" "land" "LCellPlanner$Land;", .fieldLink RX2 80 "CellPlanner$Land" "walkers" "I"] ++ wsX20 ++ wsX00 ++ (vx_atS RX2 153 "java/lang/IndexOutOfBoundsException" ["java/lang/RuntimeException", "java/lang/Exception"]).filter goodWord)
def wsX2_handovers : List Cond := .code yX2_handovers cX2_handovers 1 (some .int) :: ([.fieldLink RX2 101 "CellPlanner" "handovers" "I"] ++ wsX20)
def wsX2_rings : List Cond := .code yX2_rings cX2_rings 1 (some .int) :: ([.fieldLink RX2 131 "CellPlanner" "rings" "I"] ++ wsX20)
def wsX2_losses : List Cond := .code yX2_losses cX2_losses 1 (some .int) :: ([.fieldLink RX2 134 "CellPlanner" "losses" "I"] ++ wsX20)
def wsX2_unserved : List Cond := .code yX2_unserved cX2_unserved 3 (some .int) :: ([.fieldLink RX2 10 "CellPlanner" "land" "LCellPlanner$Land;", .fieldLink RX2 80 "CellPlanner$Land" "walkers" "I", .fieldLink RX2 128 "CellPlanner$Land" "server" "[I"] ++ wsX20 ++ wsX00)
def wsX2_mostServed_r1 : List Cond := [Cond.fieldLink RX2 21 "CellPlanner" "search" "LCellPlanner$Search;", Cond.fieldLink RX2 45 "CellPlanner" "bound" "I", Cond.methodLink RX2 137 yX1_greatestWorth, Cond.instanceMethod yX1_greatestWorth, Cond.selects RX1 yX1_greatestWorth yX1_greatestWorth, Cond.initialized RX1, Cond.code yX1_greatestWorth cX1_greatestWorth 7 (some .int), Cond.fieldLink RX1 29 "CellPlanner$Search" "land" "LCellPlanner$Land;", Cond.fieldLink RX1 16 "CellPlanner$Search" "hope" "[I", Cond.fieldLink RX1 38 "CellPlanner$Land" "walkers" "I", Cond.fieldLink RX1 42 "CellPlanner$Land" "demand" "[I", Cond.fieldLink RX1 49 "CellPlanner$Land" "room" "[I", Cond.fieldLink RX1 20 "CellPlanner$Search" "roomLeft" "[I", Cond.fieldLink RX1 52 "CellPlanner$Land" "cells" "I", Cond.methodLink RX1 55 arraycopyName, Cond.native arraycopyName, Cond.static arraycopyName, Cond.initialized "java/lang/System", Cond.fieldLink RX1 61 "CellPlanner$Search" "bestWorth" "I", Cond.methodLink RX1 33 yX0_measure, Cond.instanceMethod yX0_measure, Cond.selects RX0 yX0_measure yX0_measure, Cond.initialized RX0, Cond.code yX0_measure cX0_measure 3 none]
def wsX2_mostServed_r2 : List Cond := [Cond.fieldLink RX0 48 "CellPlanner$Land" "cells" "I", Cond.fieldLink RX0 40 "CellPlanner$Land" "measuredUse" "[I", Cond.fieldLink RX0 52 "CellPlanner$Land" "walkers" "I", Cond.fieldLink RX0 45 "CellPlanner$Land" "quality" "[[I", Cond.methodLink RX0 64 yX0_useOf, Cond.instanceMethod yX0_useOf, Cond.selects RX0 yX0_useOf yX0_useOf, Cond.code yX0_useOf cX0_useOf 2 (some .int), Cond.fieldLink RX0 21 "CellPlanner$Land" "room" "[I", Cond.methodLink RX0 55 yX0_loadOf, Cond.instanceMethod yX0_loadOf, Cond.selects RX0 yX0_loadOf yX0_loadOf, Cond.code yX0_loadOf cX0_loadOf 4 (some .int), Cond.fieldLink RX0 37 "CellPlanner$Land" "server" "[I", Cond.fieldLink RX0 34 "CellPlanner$Land" "demand" "[I", Cond.methodLink RX0 67 yX0_signalOf, Cond.instanceMethod yX0_signalOf, Cond.selects RX0 yX0_signalOf yX0_signalOf, Cond.code yX0_signalOf cX0_signalOf 4 (some .int), Cond.fieldLink RX0 9 "CellPlanner$Land" "cellX" "[I", Cond.fieldLink RX0 28 "CellPlanner$Land" "walkerX" "[I", Cond.methodLink RX0 59 Lib.Math.abs.name, Cond.static Lib.Math.abs.name, Cond.initialized "java/lang/Math"]
def wsX2_mostServed_r3 : List Cond := [Cond.code Lib.Math.abs.name Lib.Math.abs.code 1 (some .int), Cond.fieldLink RX0 15 "CellPlanner$Land" "cellY" "[I", Cond.fieldLink RX0 31 "CellPlanner$Land" "walkerY" "[I", Cond.methodLink RX0 71 yX0_disturbances, Cond.instanceMethod yX0_disturbances, Cond.selects RX0 yX0_disturbances yX0_disturbances, Cond.code yX0_disturbances cX0_disturbances 5 (some .int), Cond.fieldLink RX0 24 "CellPlanner$Land" "on" "[Z", Cond.fieldLink RX0 18 "CellPlanner$Land" "channel" "[I", Cond.methodLink RX1 45 yX1_fillWorth, Cond.instanceMethod yX1_fillWorth, Cond.selects RX1 yX1_fillWorth yX1_fillWorth, Cond.code yX1_fillWorth cX1_fillWorth 9 (some .int), Cond.fieldLink RX1 68 "CellPlanner$Land" "quality" "[[I", Cond.fieldLink RX1 71 "CellPlanner$Land" "on" "[Z", Cond.fieldLink RX1 11 "CellPlanner$Search" "worth" "[[I", Cond.methodLink RX1 75 Lib.Math.max.name, Cond.static Lib.Math.max.name, Cond.code Lib.Math.max.name Lib.Math.max.code 2 (some .int), Cond.methodLink RX1 64 yX1_place, Cond.static yX1_place, Cond.code yX1_place cX1_place 6 none, Cond.fieldLink RX1 23 "CellPlanner$Search" "chosen" "[I", Cond.methodLink RX1 81 yX1_keep]
def wsX2_mostServed_r4 : List Cond := [Cond.instanceMethod yX1_keep, Cond.selects RX1 yX1_keep yX1_keep, Cond.code yX1_keep cX1_keep 2 none, Cond.fieldLink RX1 26 "CellPlanner$Search" "best" "[I"]
def wsX2_mostServed : List Cond := .code yX2_mostServed cX2_mostServed 1 (some .int) :: ((wsX2_mostServed_r1 ++ (wsX2_mostServed_r2 ++ (wsX2_mostServed_r3 ++ wsX2_mostServed_r4))) ++ wsX20 ++ wsX10 ++ wsX00)
def wsX2_mostDemand_r1 : List Cond := [Cond.fieldLink RX2 21 "CellPlanner" "search" "LCellPlanner$Search;", Cond.fieldLink RX2 45 "CellPlanner" "bound" "I", Cond.methodLink RX2 137 yX1_greatestWorth, Cond.instanceMethod yX1_greatestWorth, Cond.selects RX1 yX1_greatestWorth yX1_greatestWorth, Cond.initialized RX1, Cond.code yX1_greatestWorth cX1_greatestWorth 7 (some .int), Cond.fieldLink RX1 29 "CellPlanner$Search" "land" "LCellPlanner$Land;", Cond.fieldLink RX1 16 "CellPlanner$Search" "hope" "[I", Cond.fieldLink RX1 38 "CellPlanner$Land" "walkers" "I", Cond.fieldLink RX1 42 "CellPlanner$Land" "demand" "[I", Cond.fieldLink RX1 49 "CellPlanner$Land" "room" "[I", Cond.fieldLink RX1 20 "CellPlanner$Search" "roomLeft" "[I", Cond.fieldLink RX1 52 "CellPlanner$Land" "cells" "I", Cond.methodLink RX1 55 arraycopyName, Cond.native arraycopyName, Cond.static arraycopyName, Cond.initialized "java/lang/System", Cond.fieldLink RX1 61 "CellPlanner$Search" "bestWorth" "I", Cond.methodLink RX1 33 yX0_measure, Cond.instanceMethod yX0_measure, Cond.selects RX0 yX0_measure yX0_measure, Cond.initialized RX0, Cond.code yX0_measure cX0_measure 3 none]
def wsX2_mostDemand_r2 : List Cond := [Cond.fieldLink RX0 48 "CellPlanner$Land" "cells" "I", Cond.fieldLink RX0 40 "CellPlanner$Land" "measuredUse" "[I", Cond.fieldLink RX0 52 "CellPlanner$Land" "walkers" "I", Cond.fieldLink RX0 45 "CellPlanner$Land" "quality" "[[I", Cond.methodLink RX0 64 yX0_useOf, Cond.instanceMethod yX0_useOf, Cond.selects RX0 yX0_useOf yX0_useOf, Cond.code yX0_useOf cX0_useOf 2 (some .int), Cond.fieldLink RX0 21 "CellPlanner$Land" "room" "[I", Cond.methodLink RX0 55 yX0_loadOf, Cond.instanceMethod yX0_loadOf, Cond.selects RX0 yX0_loadOf yX0_loadOf, Cond.code yX0_loadOf cX0_loadOf 4 (some .int), Cond.fieldLink RX0 37 "CellPlanner$Land" "server" "[I", Cond.fieldLink RX0 34 "CellPlanner$Land" "demand" "[I", Cond.methodLink RX0 67 yX0_signalOf, Cond.instanceMethod yX0_signalOf, Cond.selects RX0 yX0_signalOf yX0_signalOf, Cond.code yX0_signalOf cX0_signalOf 4 (some .int), Cond.fieldLink RX0 9 "CellPlanner$Land" "cellX" "[I", Cond.fieldLink RX0 28 "CellPlanner$Land" "walkerX" "[I", Cond.methodLink RX0 59 Lib.Math.abs.name, Cond.static Lib.Math.abs.name, Cond.initialized "java/lang/Math"]
def wsX2_mostDemand_r3 : List Cond := [Cond.code Lib.Math.abs.name Lib.Math.abs.code 1 (some .int), Cond.fieldLink RX0 15 "CellPlanner$Land" "cellY" "[I", Cond.fieldLink RX0 31 "CellPlanner$Land" "walkerY" "[I", Cond.methodLink RX0 71 yX0_disturbances, Cond.instanceMethod yX0_disturbances, Cond.selects RX0 yX0_disturbances yX0_disturbances, Cond.code yX0_disturbances cX0_disturbances 5 (some .int), Cond.fieldLink RX0 24 "CellPlanner$Land" "on" "[Z", Cond.fieldLink RX0 18 "CellPlanner$Land" "channel" "[I", Cond.methodLink RX1 45 yX1_fillWorth, Cond.instanceMethod yX1_fillWorth, Cond.selects RX1 yX1_fillWorth yX1_fillWorth, Cond.code yX1_fillWorth cX1_fillWorth 9 (some .int), Cond.fieldLink RX1 68 "CellPlanner$Land" "quality" "[[I", Cond.fieldLink RX1 71 "CellPlanner$Land" "on" "[Z", Cond.fieldLink RX1 11 "CellPlanner$Search" "worth" "[[I", Cond.methodLink RX1 75 Lib.Math.max.name, Cond.static Lib.Math.max.name, Cond.code Lib.Math.max.name Lib.Math.max.code 2 (some .int), Cond.methodLink RX1 64 yX1_place, Cond.static yX1_place, Cond.code yX1_place cX1_place 6 none, Cond.fieldLink RX1 23 "CellPlanner$Search" "chosen" "[I", Cond.methodLink RX1 81 yX1_keep]
def wsX2_mostDemand_r4 : List Cond := [Cond.instanceMethod yX1_keep, Cond.selects RX1 yX1_keep yX1_keep, Cond.code yX1_keep cX1_keep 2 none, Cond.fieldLink RX1 26 "CellPlanner$Search" "best" "[I"]
def wsX2_mostDemand : List Cond := .code yX2_mostDemand cX2_mostDemand 1 (some .int) :: ((wsX2_mostDemand_r1 ++ (wsX2_mostDemand_r2 ++ (wsX2_mostDemand_r3 ++ wsX2_mostDemand_r4))) ++ wsX20 ++ wsX10 ++ wsX00)
def wsX2_bestCell_r1 : List Cond := [Cond.fieldLink RX2 21 "CellPlanner" "search" "LCellPlanner$Search;", Cond.fieldLink RX2 45 "CellPlanner" "bound" "I", Cond.constant RX2 140 (1000000), Cond.fieldLink RX2 141 "CellPlanner$Search" "best" "[I", Cond.methodLink RX2 92 yX2_requireWalker, Cond.instanceMethod yX2_requireWalker, Cond.selects RX2 yX2_requireWalker yX2_requireWalker, Cond.initialized RX2, Cond.code yX2_requireWalker cX2_requireWalker 2 none, Cond.classLink RX2 149 "java/lang/IndexOutOfBoundsException", Cond.initialized "java/lang/IndexOutOfBoundsException", Cond.fieldLink RX2 10 "CellPlanner" "land" "LCellPlanner$Land;", Cond.fieldLink RX2 80 "CellPlanner$Land" "walkers" "I", Cond.methodLink RX2 137 yX1_greatestWorth, Cond.instanceMethod yX1_greatestWorth, Cond.selects RX1 yX1_greatestWorth yX1_greatestWorth, Cond.initialized RX1, Cond.code yX1_greatestWorth cX1_greatestWorth 7 (some .int), Cond.fieldLink RX1 29 "CellPlanner$Search" "land" "LCellPlanner$Land;", Cond.fieldLink RX1 16 "CellPlanner$Search" "hope" "[I", Cond.fieldLink RX1 38 "CellPlanner$Land" "walkers" "I", Cond.fieldLink RX1 42 "CellPlanner$Land" "demand" "[I", Cond.fieldLink RX1 49 "CellPlanner$Land" "room" "[I", Cond.fieldLink RX1 20 "CellPlanner$Search" "roomLeft" "[I"]
def wsX2_bestCell_r2 : List Cond := [Cond.fieldLink RX1 52 "CellPlanner$Land" "cells" "I", Cond.methodLink RX1 55 arraycopyName, Cond.native arraycopyName, Cond.static arraycopyName, Cond.initialized "java/lang/System", Cond.fieldLink RX1 61 "CellPlanner$Search" "bestWorth" "I", Cond.methodLink RX1 33 yX0_measure, Cond.instanceMethod yX0_measure, Cond.selects RX0 yX0_measure yX0_measure, Cond.initialized RX0, Cond.code yX0_measure cX0_measure 3 none, Cond.fieldLink RX0 48 "CellPlanner$Land" "cells" "I", Cond.fieldLink RX0 40 "CellPlanner$Land" "measuredUse" "[I", Cond.fieldLink RX0 52 "CellPlanner$Land" "walkers" "I", Cond.fieldLink RX0 45 "CellPlanner$Land" "quality" "[[I", Cond.methodLink RX0 64 yX0_useOf, Cond.instanceMethod yX0_useOf, Cond.selects RX0 yX0_useOf yX0_useOf, Cond.code yX0_useOf cX0_useOf 2 (some .int), Cond.fieldLink RX0 21 "CellPlanner$Land" "room" "[I", Cond.methodLink RX0 55 yX0_loadOf, Cond.instanceMethod yX0_loadOf, Cond.selects RX0 yX0_loadOf yX0_loadOf, Cond.code yX0_loadOf cX0_loadOf 4 (some .int)]
def wsX2_bestCell_r3 : List Cond := [Cond.fieldLink RX0 37 "CellPlanner$Land" "server" "[I", Cond.fieldLink RX0 34 "CellPlanner$Land" "demand" "[I", Cond.methodLink RX0 67 yX0_signalOf, Cond.instanceMethod yX0_signalOf, Cond.selects RX0 yX0_signalOf yX0_signalOf, Cond.code yX0_signalOf cX0_signalOf 4 (some .int), Cond.fieldLink RX0 9 "CellPlanner$Land" "cellX" "[I", Cond.fieldLink RX0 28 "CellPlanner$Land" "walkerX" "[I", Cond.methodLink RX0 59 Lib.Math.abs.name, Cond.static Lib.Math.abs.name, Cond.initialized "java/lang/Math", Cond.code Lib.Math.abs.name Lib.Math.abs.code 1 (some .int), Cond.fieldLink RX0 15 "CellPlanner$Land" "cellY" "[I", Cond.fieldLink RX0 31 "CellPlanner$Land" "walkerY" "[I", Cond.methodLink RX0 71 yX0_disturbances, Cond.instanceMethod yX0_disturbances, Cond.selects RX0 yX0_disturbances yX0_disturbances, Cond.code yX0_disturbances cX0_disturbances 5 (some .int), Cond.fieldLink RX0 24 "CellPlanner$Land" "on" "[Z", Cond.fieldLink RX0 18 "CellPlanner$Land" "channel" "[I", Cond.methodLink RX1 45 yX1_fillWorth, Cond.instanceMethod yX1_fillWorth, Cond.selects RX1 yX1_fillWorth yX1_fillWorth, Cond.code yX1_fillWorth cX1_fillWorth 9 (some .int)]
def wsX2_bestCell_r4 : List Cond := [Cond.fieldLink RX1 68 "CellPlanner$Land" "quality" "[[I", Cond.fieldLink RX1 71 "CellPlanner$Land" "on" "[Z", Cond.fieldLink RX1 11 "CellPlanner$Search" "worth" "[[I", Cond.methodLink RX1 75 Lib.Math.max.name, Cond.static Lib.Math.max.name, Cond.code Lib.Math.max.name Lib.Math.max.code 2 (some .int), Cond.methodLink RX1 64 yX1_place, Cond.static yX1_place, Cond.code yX1_place cX1_place 6 none, Cond.fieldLink RX1 23 "CellPlanner$Search" "chosen" "[I", Cond.methodLink RX1 81 yX1_keep, Cond.instanceMethod yX1_keep, Cond.selects RX1 yX1_keep yX1_keep, Cond.code yX1_keep cX1_keep 2 none, Cond.fieldLink RX1 26 "CellPlanner$Search" "best" "[I"]
def wsX2_bestCell : List Cond := .code yX2_bestCell cX2_bestCell 2 (some .int) :: ((wsX2_bestCell_r1 ++ (wsX2_bestCell_r2 ++ (wsX2_bestCell_r3 ++ wsX2_bestCell_r4))) ++ wsX20 ++ wsX10 ++ wsX00 ++ (vx_atS RX2 153 "java/lang/IndexOutOfBoundsException" ["java/lang/RuntimeException", "java/lang/Exception"]).filter goodWord)
def wsJ9_abs_0f7a4 : List Cond := .code yJ9_abs_0f7a4 cJ9_abs_0f7a4 1 (some .int) :: ([])
def wsJ9_max_7cf53 : List Cond := .code yJ9_max_7cf53 cJ9_max_7cf53 2 (some .int) :: ([])
def wsL_cell : List Cond := .code yL_cell cL_cell 2 (some .int) :: ([.constantLong RL 7 (3266489917)])
def wsL_some : List Cond := .code yL_some cL_some 2 (some .int) :: ([])
def wsL_signal : List Cond := .code yL_signal cL_signal 7 (some .int) :: ([])
def wsL_load : List Cond := .code yL_load cL_load 5 (some .int) :: ([])
def wsL_qualities : List Cond := .code yL_qualities cL_qualities 8 none :: ([.methodLink RL 9 yL_signal, .static yL_signal, .initialized RL, .code yL_signal cL_signal 7 (some .int), .methodLink RL 15 yL_load, .static yL_load, .code yL_load cL_load 5 (some .int)])
def wsL_tick : List Cond := .code yL_tick cL_tick 9 none :: ([.arrayClass .int, .methodLink RL 19 yL_qualities, .static yL_qualities, .initialized RL, .code yL_qualities cL_qualities 8 none, .methodLink RL 9 yL_signal, .static yL_signal, .code yL_signal cL_signal 7 (some .int), .methodLink RL 15 yL_load, .static yL_load, .code yL_load cL_load 5 (some .int)])
def wsL_built_r1 : List Cond := [Cond.classLink RL 29 "java/lang/IllegalArgumentException", Cond.classLink RL 31 "java/lang/IllegalStateException", Cond.methodLink RL 23 yX2_cell, Cond.instanceMethod yX2_cell, Cond.selects RX2 yX2_cell yX2_cell, Cond.initialized RX2, Cond.code yX2_cell cX2_cell 5 (some .int), Cond.classLink RX2 55 "java/lang/IllegalStateException", Cond.initialized "java/lang/IllegalStateException", Cond.fieldLink RX2 10 "CellPlanner" "land" "LCellPlanner$Land;", Cond.fieldLink RX2 52 "CellPlanner$Land" "cells" "I", Cond.methodLink RX2 48 yX2_requireRange, Cond.static yX2_requireRange, Cond.code yX2_requireRange cX2_requireRange 4 none, Cond.classLink RX2 144 "java/lang/IllegalArgumentException", Cond.initialized "java/lang/IllegalArgumentException", Cond.methodLink RX2 62 yX0_addCell, Cond.instanceMethod yX0_addCell, Cond.selects RX0 yX0_addCell yX0_addCell, Cond.initialized RX0, Cond.code yX0_addCell cX0_addCell 6 (some .int), Cond.fieldLink RX0 48 "CellPlanner$Land" "cells" "I", Cond.fieldLink RX0 9 "CellPlanner$Land" "cellX" "[I", Cond.fieldLink RX0 15 "CellPlanner$Land" "cellY" "[I"]
def wsL_built_r2 : List Cond := [Cond.fieldLink RX0 18 "CellPlanner$Land" "channel" "[I", Cond.fieldLink RX0 21 "CellPlanner$Land" "room" "[I", Cond.fieldLink RX0 24 "CellPlanner$Land" "on" "[Z"]
def wsL_built : List Cond := .codeWith yL_built cL_built 6 (some .int) [(0, 9, 10, 29), (0, 9, 15, 31)] :: ((wsL_built_r1 ++ wsL_built_r2) ++ wsX20 ++ wsX00 ++ (vx_atS RX2 59 "java/lang/IllegalStateException" ["java/lang/RuntimeException", "java/lang/Exception"]).filter goodWord ++ (vx_atS RX2 148 "java/lang/IllegalArgumentException" ["java/lang/RuntimeException", "java/lang/Exception"]).filter goodWord)
def wsL_came_r1 : List Cond := [Cond.classLink RL 29 "java/lang/IllegalArgumentException", Cond.classLink RL 31 "java/lang/IllegalStateException", Cond.methodLink RL 33 yX2_walker, Cond.instanceMethod yX2_walker, Cond.selects RX2 yX2_walker yX2_walker, Cond.initialized RX2, Cond.code yX2_walker cX2_walker 5 (some .int), Cond.classLink RX2 55 "java/lang/IllegalStateException", Cond.initialized "java/lang/IllegalStateException", Cond.fieldLink RX2 10 "CellPlanner" "land" "LCellPlanner$Land;", Cond.fieldLink RX2 80 "CellPlanner$Land" "walkers" "I", Cond.fieldLink RX2 32 "CellPlanner" "leftCell" "[I", Cond.methodLink RX2 48 yX2_requireRange, Cond.static yX2_requireRange, Cond.code yX2_requireRange cX2_requireRange 4 none, Cond.classLink RX2 144 "java/lang/IllegalArgumentException", Cond.initialized "java/lang/IllegalArgumentException", Cond.methodLink RX2 85 yX0_addWalker, Cond.instanceMethod yX0_addWalker, Cond.selects RX0 yX0_addWalker yX0_addWalker, Cond.initialized RX0, Cond.code yX0_addWalker cX0_addWalker 5 (some .int), Cond.fieldLink RX0 52 "CellPlanner$Land" "walkers" "I", Cond.fieldLink RX0 28 "CellPlanner$Land" "walkerX" "[I"]
def wsL_came_r2 : List Cond := [Cond.fieldLink RX0 31 "CellPlanner$Land" "walkerY" "[I", Cond.fieldLink RX0 34 "CellPlanner$Land" "demand" "[I", Cond.fieldLink RX0 37 "CellPlanner$Land" "server" "[I", Cond.methodLink RX2 89 yX2_dropFavourite, Cond.instanceMethod yX2_dropFavourite, Cond.selects RX2 yX2_dropFavourite yX2_dropFavourite, Cond.code yX2_dropFavourite cX2_dropFavourite 2 none, Cond.fieldLink RX2 25 "CellPlanner" "favourite" "[I", Cond.fieldLink RX2 29 "CellPlanner" "held" "[I"]
def wsL_came : List Cond := .codeWith yL_came cL_came 5 (some .int) [(0, 7, 8, 29), (0, 7, 13, 31)] :: ((wsL_came_r1 ++ wsL_came_r2) ++ wsX20 ++ wsX00 ++ (vx_atS RX2 59 "java/lang/IllegalStateException" ["java/lang/RuntimeException", "java/lang/Exception"]).filter goodWord ++ (vx_atS RX2 148 "java/lang/IllegalArgumentException" ["java/lang/RuntimeException", "java/lang/Exception"]).filter goodWord)
def wsL_turned_r1 : List Cond := [Cond.classLink RL 41 "java/lang/IndexOutOfBoundsException", Cond.methodLink RL 37 yX2_turn, Cond.instanceMethod yX2_turn, Cond.selects RX2 yX2_turn yX2_turn, Cond.initialized RX2, Cond.code yX2_turn cX2_turn 2 (some .boolean), Cond.fieldLink RX2 10 "CellPlanner" "land" "LCellPlanner$Land;", Cond.fieldLink RX2 70 "CellPlanner$Land" "on" "[Z", Cond.methodLink RX2 66 yX2_requireCell, Cond.instanceMethod yX2_requireCell, Cond.selects RX2 yX2_requireCell yX2_requireCell, Cond.code yX2_requireCell cX2_requireCell 2 none, Cond.classLink RX2 149 "java/lang/IndexOutOfBoundsException", Cond.initialized "java/lang/IndexOutOfBoundsException", Cond.fieldLink RX2 52 "CellPlanner$Land" "cells" "I", Cond.methodLink RX2 74 yX2_releaseWalkers, Cond.instanceMethod yX2_releaseWalkers, Cond.selects RX2 yX2_releaseWalkers yX2_releaseWalkers, Cond.code yX2_releaseWalkers cX2_releaseWalkers 3 none, Cond.fieldLink RX2 80 "CellPlanner$Land" "walkers" "I", Cond.fieldLink RX2 128 "CellPlanner$Land" "server" "[I", Cond.methodLink RX2 89 yX2_dropFavourite, Cond.instanceMethod yX2_dropFavourite, Cond.selects RX2 yX2_dropFavourite yX2_dropFavourite]
def wsL_turned_r2 : List Cond := [Cond.code yX2_dropFavourite cX2_dropFavourite 2 none, Cond.fieldLink RX2 25 "CellPlanner" "favourite" "[I", Cond.fieldLink RX2 29 "CellPlanner" "held" "[I"]
def wsL_turned : List Cond := .codeWith yL_turned cL_turned 3 (some .int) [(0, 13, 14, 41)] :: ((wsL_turned_r1 ++ wsL_turned_r2) ++ wsX20 ++ wsX00 ++ (vx_atS RX2 153 "java/lang/IndexOutOfBoundsException" ["java/lang/RuntimeException", "java/lang/Exception"]).filter goodWord)
def wsL_tuned : List Cond := .codeWith yL_tuned cL_tuned 4 (some .int) [(0, 6, 7, 41), (0, 6, 11, 29)] :: ([.classLink RL 41 "java/lang/IndexOutOfBoundsException", .classLink RL 29 "java/lang/IllegalArgumentException", .methodLink RL 43 yX2_tune, .instanceMethod yX2_tune, .selects RX2 yX2_tune yX2_tune, .initialized RX2, .code yX2_tune cX2_tune 4 (some .int), .fieldLink RX2 10 "CellPlanner" "land" "LCellPlanner$Land;", .fieldLink RX2 77 "CellPlanner$Land" "channel" "[I", .methodLink RX2 66 yX2_requireCell, .instanceMethod yX2_requireCell, .selects RX2 yX2_requireCell yX2_requireCell, .code yX2_requireCell cX2_requireCell 2 none, .classLink RX2 149 "java/lang/IndexOutOfBoundsException", .initialized "java/lang/IndexOutOfBoundsException", .fieldLink RX2 52 "CellPlanner$Land" "cells" "I", .methodLink RX2 48 yX2_requireRange, .static yX2_requireRange, .code yX2_requireRange cX2_requireRange 4 none, .classLink RX2 144 "java/lang/IllegalArgumentException", .initialized "java/lang/IllegalArgumentException"] ++ wsX20 ++ wsX00 ++ (vx_atS RX2 153 "java/lang/IndexOutOfBoundsException" ["java/lang/RuntimeException", "java/lang/Exception"]).filter goodWord ++ (vx_atS RX2 148 "java/lang/IllegalArgumentException" ["java/lang/RuntimeException", "java/lang/Exception"]).filter goodWord)
def wsL_moved : List Cond := .codeWith yL_moved cL_moved 5 (some .int) [(0, 8, 9, 41), (0, 8, 14, 29)] :: ([.classLink RL 41 "java/lang/IndexOutOfBoundsException", .classLink RL 29 "java/lang/IllegalArgumentException", .methodLink RL 47 yX2_move, .instanceMethod yX2_move, .selects RX2 yX2_move yX2_move, .initialized RX2, .code yX2_move cX2_move 8 none, .fieldLink RX2 10 "CellPlanner" "land" "LCellPlanner$Land;", .fieldLink RX2 95 "CellPlanner$Land" "walkerX" "[I", .fieldLink RX2 98 "CellPlanner$Land" "walkerY" "[I", .methodLink RX2 92 yX2_requireWalker, .instanceMethod yX2_requireWalker, .selects RX2 yX2_requireWalker yX2_requireWalker, .code yX2_requireWalker cX2_requireWalker 2 none, .classLink RX2 149 "java/lang/IndexOutOfBoundsException", .initialized "java/lang/IndexOutOfBoundsException", .fieldLink RX2 80 "CellPlanner$Land" "walkers" "I", .methodLink RX2 48 yX2_requireRange, .static yX2_requireRange, .code yX2_requireRange cX2_requireRange 4 none, .classLink RX2 144 "java/lang/IllegalArgumentException", .initialized "java/lang/IllegalArgumentException"] ++ wsX20 ++ wsX00 ++ (vx_atS RX2 153 "java/lang/IndexOutOfBoundsException" ["java/lang/RuntimeException", "java/lang/Exception"]).filter goodWord ++ (vx_atS RX2 148 "java/lang/IllegalArgumentException" ["java/lang/RuntimeException", "java/lang/Exception"]).filter goodWord)
def wsL_set_r1 : List Cond := [Cond.classLink RL 29 "java/lang/IllegalArgumentException", Cond.methodLink RL 51 yX2_margin, Cond.instanceMethod yX2_margin, Cond.selects RX2 yX2_margin yX2_margin, Cond.initialized RX2, Cond.code yX2_margin cX2_margin 3 (some .int), Cond.fieldLink RX2 38 "CellPlanner" "margin" "I", Cond.methodLink RX2 48 yX2_requireRange, Cond.static yX2_requireRange, Cond.code yX2_requireRange cX2_requireRange 4 none, Cond.classLink RX2 144 "java/lang/IllegalArgumentException", Cond.initialized "java/lang/IllegalArgumentException", Cond.methodLink RL 55 yX2_patience, Cond.instanceMethod yX2_patience, Cond.selects RX2 yX2_patience yX2_patience, Cond.code yX2_patience cX2_patience 3 (some .int), Cond.fieldLink RX2 42 "CellPlanner" "patience" "I", Cond.methodLink RL 58 yX2_bound, Cond.instanceMethod yX2_bound, Cond.selects RX2 yX2_bound yX2_bound, Cond.code yX2_bound cX2_bound 3 (some .int), Cond.fieldLink RX2 45 "CellPlanner" "bound" "I", Cond.methodLink RL 61 yX2_tick, Cond.instanceMethod yX2_tick]
def wsL_set_r2 : List Cond := [Cond.selects RX2 yX2_tick yX2_tick, Cond.code yX2_tick cX2_tick 4 (some .int), Cond.fieldLink RX2 101 "CellPlanner" "handovers" "I", Cond.methodLink RX2 104 yX2_passTick, Cond.instanceMethod yX2_passTick, Cond.selects RX2 yX2_passTick yX2_passTick, Cond.code yX2_passTick cX2_passTick 3 none, Cond.fieldLink RX2 107 "CellPlanner" "ticks" "I", Cond.fieldLink RX2 10 "CellPlanner" "land" "LCellPlanner$Land;", Cond.fieldLink RX2 80 "CellPlanner$Land" "walkers" "I", Cond.fieldLink RX2 128 "CellPlanner$Land" "server" "[I", Cond.fieldLink RX2 117 "CellPlanner$Land" "quality" "[[I", Cond.methodLink RX2 114 yX0_measure, Cond.instanceMethod yX0_measure, Cond.selects RX0 yX0_measure yX0_measure, Cond.initialized RX0, Cond.code yX0_measure cX0_measure 3 none, Cond.fieldLink RX0 48 "CellPlanner$Land" "cells" "I", Cond.fieldLink RX0 40 "CellPlanner$Land" "measuredUse" "[I", Cond.fieldLink RX0 52 "CellPlanner$Land" "walkers" "I", Cond.fieldLink RX0 45 "CellPlanner$Land" "quality" "[[I", Cond.methodLink RX0 64 yX0_useOf, Cond.instanceMethod yX0_useOf, Cond.selects RX0 yX0_useOf yX0_useOf]
def wsL_set_r3 : List Cond := [Cond.code yX0_useOf cX0_useOf 2 (some .int), Cond.fieldLink RX0 21 "CellPlanner$Land" "room" "[I", Cond.methodLink RX0 55 yX0_loadOf, Cond.instanceMethod yX0_loadOf, Cond.selects RX0 yX0_loadOf yX0_loadOf, Cond.code yX0_loadOf cX0_loadOf 4 (some .int), Cond.fieldLink RX0 37 "CellPlanner$Land" "server" "[I", Cond.fieldLink RX0 34 "CellPlanner$Land" "demand" "[I", Cond.methodLink RX0 67 yX0_signalOf, Cond.instanceMethod yX0_signalOf, Cond.selects RX0 yX0_signalOf yX0_signalOf, Cond.code yX0_signalOf cX0_signalOf 4 (some .int), Cond.fieldLink RX0 9 "CellPlanner$Land" "cellX" "[I", Cond.fieldLink RX0 28 "CellPlanner$Land" "walkerX" "[I", Cond.methodLink RX0 59 Lib.Math.abs.name, Cond.static Lib.Math.abs.name, Cond.initialized "java/lang/Math", Cond.code Lib.Math.abs.name Lib.Math.abs.code 1 (some .int), Cond.fieldLink RX0 15 "CellPlanner$Land" "cellY" "[I", Cond.fieldLink RX0 31 "CellPlanner$Land" "walkerY" "[I", Cond.methodLink RX0 71 yX0_disturbances, Cond.instanceMethod yX0_disturbances, Cond.selects RX0 yX0_disturbances yX0_disturbances, Cond.code yX0_disturbances cX0_disturbances 5 (some .int)]
def wsL_set_r4 : List Cond := [Cond.fieldLink RX0 24 "CellPlanner$Land" "on" "[Z", Cond.fieldLink RX0 18 "CellPlanner$Land" "channel" "[I", Cond.methodLink RX2 156 yX2_seekCell, Cond.instanceMethod yX2_seekCell, Cond.selects RX2 yX2_seekCell yX2_seekCell, Cond.code yX2_seekCell cX2_seekCell 3 none, Cond.methodLink RX2 166 yX0_bestOther, Cond.instanceMethod yX0_bestOther, Cond.selects RX0 yX0_bestOther yX0_bestOther, Cond.code yX0_bestOther cX0_bestOther 4 (some .int), Cond.methodLink RX0 74 yX0_couldTake, Cond.instanceMethod yX0_couldTake, Cond.selects RX0 yX0_couldTake yX0_couldTake, Cond.code yX0_couldTake cX0_couldTake 3 (some .boolean), Cond.methodLink RX2 159 yX2_loseCell, Cond.instanceMethod yX2_loseCell, Cond.selects RX2 yX2_loseCell yX2_loseCell, Cond.code yX2_loseCell cX2_loseCell 2 none, Cond.fieldLink RX2 134 "CellPlanner" "losses" "I", Cond.fieldLink RX2 32 "CellPlanner" "leftCell" "[I", Cond.methodLink RX2 89 yX2_dropFavourite, Cond.instanceMethod yX2_dropFavourite, Cond.selects RX2 yX2_dropFavourite yX2_dropFavourite, Cond.code yX2_dropFavourite cX2_dropFavourite 2 none]
def wsL_set_r5 : List Cond := [Cond.fieldLink RX2 25 "CellPlanner" "favourite" "[I", Cond.fieldLink RX2 29 "CellPlanner" "held" "[I", Cond.methodLink RX2 162 yX2_weighFavourite, Cond.instanceMethod yX2_weighFavourite, Cond.selects RX2 yX2_weighFavourite yX2_weighFavourite, Cond.code yX2_weighFavourite cX2_weighFavourite 4 none, Cond.methodLink RX2 169 yX2_handOver, Cond.instanceMethod yX2_handOver, Cond.selects RX2 yX2_handOver yX2_handOver, Cond.code yX2_handOver cX2_handOver 4 none, Cond.fieldLink RX2 35 "CellPlanner" "leftAt" "[I", Cond.fieldLink RX2 131 "CellPlanner" "rings" "I"]
def wsL_set : List Cond := .codeWith yL_set cL_set 4 (some .int) [(0, 43, 44, 29)] :: ((wsL_set_r1 ++ (wsL_set_r2 ++ (wsL_set_r3 ++ (wsL_set_r4 ++ wsL_set_r5)))) ++ wsX20 ++ wsX00 ++ (vx_atS RX2 148 "java/lang/IllegalArgumentException" ["java/lang/RuntimeException", "java/lang/Exception"]).filter goodWord)
def wsL_of_r1 : List Cond := [Cond.classLink RL 41 "java/lang/IndexOutOfBoundsException", Cond.methodLink RL 64 yX2_signal, Cond.instanceMethod yX2_signal, Cond.selects RX2 yX2_signal yX2_signal, Cond.initialized RX2, Cond.code yX2_signal cX2_signal 3 (some .int), Cond.fieldLink RX2 10 "CellPlanner" "land" "LCellPlanner$Land;", Cond.methodLink RX2 66 yX2_requireCell, Cond.instanceMethod yX2_requireCell, Cond.selects RX2 yX2_requireCell yX2_requireCell, Cond.code yX2_requireCell cX2_requireCell 2 none, Cond.classLink RX2 149 "java/lang/IndexOutOfBoundsException", Cond.initialized "java/lang/IndexOutOfBoundsException", Cond.fieldLink RX2 52 "CellPlanner$Land" "cells" "I", Cond.methodLink RX2 92 yX2_requireWalker, Cond.instanceMethod yX2_requireWalker, Cond.selects RX2 yX2_requireWalker yX2_requireWalker, Cond.code yX2_requireWalker cX2_requireWalker 2 none, Cond.fieldLink RX2 80 "CellPlanner$Land" "walkers" "I", Cond.methodLink RX2 110 yX0_signalOf, Cond.instanceMethod yX0_signalOf, Cond.selects RX0 yX0_signalOf yX0_signalOf, Cond.initialized RX0, Cond.code yX0_signalOf cX0_signalOf 4 (some .int)]
def wsL_of_r2 : List Cond := [Cond.fieldLink RX0 9 "CellPlanner$Land" "cellX" "[I", Cond.fieldLink RX0 28 "CellPlanner$Land" "walkerX" "[I", Cond.methodLink RX0 59 Lib.Math.abs.name, Cond.static Lib.Math.abs.name, Cond.initialized "java/lang/Math", Cond.code Lib.Math.abs.name Lib.Math.abs.code 1 (some .int), Cond.fieldLink RX0 15 "CellPlanner$Land" "cellY" "[I", Cond.fieldLink RX0 31 "CellPlanner$Land" "walkerY" "[I", Cond.methodLink RL 66 yX2_quality, Cond.instanceMethod yX2_quality, Cond.selects RX2 yX2_quality yX2_quality, Cond.code yX2_quality cX2_quality 3 (some .int), Cond.fieldLink RX2 117 "CellPlanner$Land" "quality" "[[I", Cond.methodLink RX2 114 yX0_measure, Cond.instanceMethod yX0_measure, Cond.selects RX0 yX0_measure yX0_measure, Cond.code yX0_measure cX0_measure 3 none, Cond.fieldLink RX0 48 "CellPlanner$Land" "cells" "I", Cond.fieldLink RX0 40 "CellPlanner$Land" "measuredUse" "[I", Cond.fieldLink RX0 52 "CellPlanner$Land" "walkers" "I", Cond.fieldLink RX0 45 "CellPlanner$Land" "quality" "[[I", Cond.methodLink RX0 64 yX0_useOf, Cond.instanceMethod yX0_useOf, Cond.selects RX0 yX0_useOf yX0_useOf]
def wsL_of_r3 : List Cond := [Cond.code yX0_useOf cX0_useOf 2 (some .int), Cond.fieldLink RX0 21 "CellPlanner$Land" "room" "[I", Cond.methodLink RX0 55 yX0_loadOf, Cond.instanceMethod yX0_loadOf, Cond.selects RX0 yX0_loadOf yX0_loadOf, Cond.code yX0_loadOf cX0_loadOf 4 (some .int), Cond.fieldLink RX0 37 "CellPlanner$Land" "server" "[I", Cond.fieldLink RX0 34 "CellPlanner$Land" "demand" "[I", Cond.methodLink RX0 67 yX0_signalOf, Cond.methodLink RX0 71 yX0_disturbances, Cond.instanceMethod yX0_disturbances, Cond.selects RX0 yX0_disturbances yX0_disturbances, Cond.code yX0_disturbances cX0_disturbances 5 (some .int), Cond.fieldLink RX0 24 "CellPlanner$Land" "on" "[Z", Cond.fieldLink RX0 18 "CellPlanner$Land" "channel" "[I", Cond.methodLink RL 69 yX2_load, Cond.instanceMethod yX2_load, Cond.selects RX2 yX2_load yX2_load, Cond.code yX2_load cX2_load 2 (some .int), Cond.methodLink RX2 121 yX0_loadOf, Cond.methodLink RL 71 yX2_use, Cond.instanceMethod yX2_use, Cond.selects RX2 yX2_use yX2_use, Cond.code yX2_use cX2_use 2 (some .int)]
def wsL_of_r4 : List Cond := [Cond.methodLink RX2 125 yX0_useOf, Cond.methodLink RL 74 yX2_servedBy, Cond.instanceMethod yX2_servedBy, Cond.selects RX2 yX2_servedBy yX2_servedBy, Cond.code yX2_servedBy cX2_servedBy 2 (some .int), Cond.fieldLink RX2 128 "CellPlanner$Land" "server" "[I", Cond.methodLink RL 77 yX2_favourite, Cond.instanceMethod yX2_favourite, Cond.selects RX2 yX2_favourite yX2_favourite, Cond.code yX2_favourite cX2_favourite 2 (some .int), Cond.fieldLink RX2 25 "CellPlanner" "favourite" "[I", Cond.methodLink RL 80 yX2_heldFor, Cond.instanceMethod yX2_heldFor, Cond.selects RX2 yX2_heldFor yX2_heldFor, Cond.code yX2_heldFor cX2_heldFor 2 (some .int), Cond.fieldLink RX2 29 "CellPlanner" "held" "[I", Cond.methodLink RL 83 yX2_bestCell, Cond.instanceMethod yX2_bestCell, Cond.selects RX2 yX2_bestCell yX2_bestCell, Cond.code yX2_bestCell cX2_bestCell 2 (some .int), Cond.fieldLink RX2 21 "CellPlanner" "search" "LCellPlanner$Search;", Cond.fieldLink RX2 45 "CellPlanner" "bound" "I", Cond.constant RX2 140 (1000000), Cond.fieldLink RX2 141 "CellPlanner$Search" "best" "[I"]
def wsL_of_r5 : List Cond := [Cond.methodLink RX2 137 yX1_greatestWorth, Cond.instanceMethod yX1_greatestWorth, Cond.selects RX1 yX1_greatestWorth yX1_greatestWorth, Cond.initialized RX1, Cond.code yX1_greatestWorth cX1_greatestWorth 7 (some .int), Cond.fieldLink RX1 29 "CellPlanner$Search" "land" "LCellPlanner$Land;", Cond.fieldLink RX1 16 "CellPlanner$Search" "hope" "[I", Cond.fieldLink RX1 38 "CellPlanner$Land" "walkers" "I", Cond.fieldLink RX1 42 "CellPlanner$Land" "demand" "[I", Cond.fieldLink RX1 49 "CellPlanner$Land" "room" "[I", Cond.fieldLink RX1 20 "CellPlanner$Search" "roomLeft" "[I", Cond.fieldLink RX1 52 "CellPlanner$Land" "cells" "I", Cond.methodLink RX1 55 arraycopyName, Cond.native arraycopyName, Cond.static arraycopyName, Cond.initialized "java/lang/System", Cond.fieldLink RX1 61 "CellPlanner$Search" "bestWorth" "I", Cond.methodLink RX1 33 yX0_measure, Cond.methodLink RX1 45 yX1_fillWorth, Cond.instanceMethod yX1_fillWorth, Cond.selects RX1 yX1_fillWorth yX1_fillWorth, Cond.code yX1_fillWorth cX1_fillWorth 9 (some .int), Cond.fieldLink RX1 68 "CellPlanner$Land" "quality" "[[I", Cond.fieldLink RX1 71 "CellPlanner$Land" "on" "[Z"]
def wsL_of_r6 : List Cond := [Cond.fieldLink RX1 11 "CellPlanner$Search" "worth" "[[I", Cond.methodLink RX1 75 Lib.Math.max.name, Cond.static Lib.Math.max.name, Cond.code Lib.Math.max.name Lib.Math.max.code 2 (some .int), Cond.methodLink RX1 64 yX1_place, Cond.static yX1_place, Cond.code yX1_place cX1_place 6 none, Cond.fieldLink RX1 23 "CellPlanner$Search" "chosen" "[I", Cond.methodLink RX1 81 yX1_keep, Cond.instanceMethod yX1_keep, Cond.selects RX1 yX1_keep yX1_keep, Cond.code yX1_keep cX1_keep 2 none, Cond.fieldLink RX1 26 "CellPlanner$Search" "best" "[I"]
def wsL_of : List Cond := .codeWith yL_of cL_of 5 (some .int) [(0, 98, 99, 41)] :: ((wsL_of_r1 ++ (wsL_of_r2 ++ (wsL_of_r3 ++ (wsL_of_r4 ++ (wsL_of_r5 ++ wsL_of_r6))))) ++ wsX20 ++ wsX00 ++ wsX10 ++ (vx_atS RX2 153 "java/lang/IndexOutOfBoundsException" ["java/lang/RuntimeException", "java/lang/Exception"]).filter goodWord)
def wsL_place : List Cond := .code yL_place cL_place 1 (some .int) :: ([.methodLink RL 86 yL_some, .static yL_some, .initialized RL, .code yL_some cL_some 2 (some .int)])
def wsL_acts_r1 : List Cond := [Cond.constant RL 111 (2147483647), Cond.constantLong RL 112 (64), Cond.methodLink RL 89 yL_place, Cond.static yL_place, Cond.initialized RL, Cond.code yL_place cL_place 1 (some .int), Cond.methodLink RL 86 yL_some, Cond.static yL_some, Cond.code yL_some cL_some 2 (some .int), Cond.methodLink RL 92 yL_built, Cond.static yL_built, Cond.codeWith yL_built cL_built 6 (some .int) [(0, 9, 10, 29), (0, 9, 15, 31)], Cond.classLink RL 29 "java/lang/IllegalArgumentException", Cond.classLink RL 31 "java/lang/IllegalStateException", Cond.methodLink RL 23 yX2_cell, Cond.instanceMethod yX2_cell, Cond.selects RX2 yX2_cell yX2_cell, Cond.initialized RX2, Cond.code yX2_cell cX2_cell 5 (some .int), Cond.classLink RX2 55 "java/lang/IllegalStateException", Cond.initialized "java/lang/IllegalStateException", Cond.fieldLink RX2 10 "CellPlanner" "land" "LCellPlanner$Land;", Cond.fieldLink RX2 52 "CellPlanner$Land" "cells" "I", Cond.methodLink RX2 48 yX2_requireRange]
def wsL_acts_r2 : List Cond := [Cond.static yX2_requireRange, Cond.code yX2_requireRange cX2_requireRange 4 none, Cond.classLink RX2 144 "java/lang/IllegalArgumentException", Cond.initialized "java/lang/IllegalArgumentException", Cond.methodLink RX2 62 yX0_addCell, Cond.instanceMethod yX0_addCell, Cond.selects RX0 yX0_addCell yX0_addCell, Cond.initialized RX0, Cond.code yX0_addCell cX0_addCell 6 (some .int), Cond.fieldLink RX0 48 "CellPlanner$Land" "cells" "I", Cond.fieldLink RX0 9 "CellPlanner$Land" "cellX" "[I", Cond.fieldLink RX0 15 "CellPlanner$Land" "cellY" "[I", Cond.fieldLink RX0 18 "CellPlanner$Land" "channel" "[I", Cond.fieldLink RX0 21 "CellPlanner$Land" "room" "[I", Cond.fieldLink RX0 24 "CellPlanner$Land" "on" "[Z", Cond.methodLink RL 96 yL_came, Cond.static yL_came, Cond.codeWith yL_came cL_came 5 (some .int) [(0, 7, 8, 29), (0, 7, 13, 31)], Cond.methodLink RL 33 yX2_walker, Cond.instanceMethod yX2_walker, Cond.selects RX2 yX2_walker yX2_walker, Cond.code yX2_walker cX2_walker 5 (some .int), Cond.fieldLink RX2 80 "CellPlanner$Land" "walkers" "I", Cond.fieldLink RX2 32 "CellPlanner" "leftCell" "[I"]
def wsL_acts_r3 : List Cond := [Cond.methodLink RX2 85 yX0_addWalker, Cond.instanceMethod yX0_addWalker, Cond.selects RX0 yX0_addWalker yX0_addWalker, Cond.code yX0_addWalker cX0_addWalker 5 (some .int), Cond.fieldLink RX0 52 "CellPlanner$Land" "walkers" "I", Cond.fieldLink RX0 28 "CellPlanner$Land" "walkerX" "[I", Cond.fieldLink RX0 31 "CellPlanner$Land" "walkerY" "[I", Cond.fieldLink RX0 34 "CellPlanner$Land" "demand" "[I", Cond.fieldLink RX0 37 "CellPlanner$Land" "server" "[I", Cond.methodLink RX2 89 yX2_dropFavourite, Cond.instanceMethod yX2_dropFavourite, Cond.selects RX2 yX2_dropFavourite yX2_dropFavourite, Cond.code yX2_dropFavourite cX2_dropFavourite 2 none, Cond.fieldLink RX2 25 "CellPlanner" "favourite" "[I", Cond.fieldLink RX2 29 "CellPlanner" "held" "[I", Cond.methodLink RL 100 yL_turned, Cond.static yL_turned, Cond.codeWith yL_turned cL_turned 3 (some .int) [(0, 13, 14, 41)], Cond.classLink RL 41 "java/lang/IndexOutOfBoundsException", Cond.methodLink RL 37 yX2_turn, Cond.instanceMethod yX2_turn, Cond.selects RX2 yX2_turn yX2_turn, Cond.code yX2_turn cX2_turn 2 (some .boolean), Cond.fieldLink RX2 70 "CellPlanner$Land" "on" "[Z"]
def wsL_acts_r4 : List Cond := [Cond.methodLink RX2 66 yX2_requireCell, Cond.instanceMethod yX2_requireCell, Cond.selects RX2 yX2_requireCell yX2_requireCell, Cond.code yX2_requireCell cX2_requireCell 2 none, Cond.classLink RX2 149 "java/lang/IndexOutOfBoundsException", Cond.initialized "java/lang/IndexOutOfBoundsException", Cond.methodLink RX2 74 yX2_releaseWalkers, Cond.instanceMethod yX2_releaseWalkers, Cond.selects RX2 yX2_releaseWalkers yX2_releaseWalkers, Cond.code yX2_releaseWalkers cX2_releaseWalkers 3 none, Cond.fieldLink RX2 128 "CellPlanner$Land" "server" "[I", Cond.methodLink RL 104 yL_tuned, Cond.static yL_tuned, Cond.codeWith yL_tuned cL_tuned 4 (some .int) [(0, 6, 7, 41), (0, 6, 11, 29)], Cond.methodLink RL 43 yX2_tune, Cond.instanceMethod yX2_tune, Cond.selects RX2 yX2_tune yX2_tune, Cond.code yX2_tune cX2_tune 4 (some .int), Cond.fieldLink RX2 77 "CellPlanner$Land" "channel" "[I", Cond.methodLink RL 108 yL_set, Cond.static yL_set, Cond.codeWith yL_set cL_set 4 (some .int) [(0, 43, 44, 29)], Cond.methodLink RL 51 yX2_margin, Cond.instanceMethod yX2_margin]
def wsL_acts_r5 : List Cond := [Cond.selects RX2 yX2_margin yX2_margin, Cond.code yX2_margin cX2_margin 3 (some .int), Cond.fieldLink RX2 38 "CellPlanner" "margin" "I", Cond.methodLink RL 55 yX2_patience, Cond.instanceMethod yX2_patience, Cond.selects RX2 yX2_patience yX2_patience, Cond.code yX2_patience cX2_patience 3 (some .int), Cond.fieldLink RX2 42 "CellPlanner" "patience" "I", Cond.methodLink RL 58 yX2_bound, Cond.instanceMethod yX2_bound, Cond.selects RX2 yX2_bound yX2_bound, Cond.code yX2_bound cX2_bound 3 (some .int), Cond.fieldLink RX2 45 "CellPlanner" "bound" "I", Cond.methodLink RL 61 yX2_tick, Cond.instanceMethod yX2_tick, Cond.selects RX2 yX2_tick yX2_tick, Cond.code yX2_tick cX2_tick 4 (some .int), Cond.fieldLink RX2 101 "CellPlanner" "handovers" "I", Cond.methodLink RX2 104 yX2_passTick, Cond.instanceMethod yX2_passTick, Cond.selects RX2 yX2_passTick yX2_passTick, Cond.code yX2_passTick cX2_passTick 3 none, Cond.fieldLink RX2 107 "CellPlanner" "ticks" "I", Cond.fieldLink RX2 117 "CellPlanner$Land" "quality" "[[I"]
def wsL_acts_r6 : List Cond := [Cond.methodLink RX2 114 yX0_measure, Cond.instanceMethod yX0_measure, Cond.selects RX0 yX0_measure yX0_measure, Cond.code yX0_measure cX0_measure 3 none, Cond.fieldLink RX0 40 "CellPlanner$Land" "measuredUse" "[I", Cond.fieldLink RX0 45 "CellPlanner$Land" "quality" "[[I", Cond.methodLink RX0 64 yX0_useOf, Cond.instanceMethod yX0_useOf, Cond.selects RX0 yX0_useOf yX0_useOf, Cond.code yX0_useOf cX0_useOf 2 (some .int), Cond.methodLink RX0 55 yX0_loadOf, Cond.instanceMethod yX0_loadOf, Cond.selects RX0 yX0_loadOf yX0_loadOf, Cond.code yX0_loadOf cX0_loadOf 4 (some .int), Cond.methodLink RX0 67 yX0_signalOf, Cond.instanceMethod yX0_signalOf, Cond.selects RX0 yX0_signalOf yX0_signalOf, Cond.code yX0_signalOf cX0_signalOf 4 (some .int), Cond.methodLink RX0 59 Lib.Math.abs.name, Cond.static Lib.Math.abs.name, Cond.initialized "java/lang/Math", Cond.code Lib.Math.abs.name Lib.Math.abs.code 1 (some .int), Cond.methodLink RX0 71 yX0_disturbances, Cond.instanceMethod yX0_disturbances]
def wsL_acts_r7 : List Cond := [Cond.selects RX0 yX0_disturbances yX0_disturbances, Cond.code yX0_disturbances cX0_disturbances 5 (some .int), Cond.methodLink RX2 156 yX2_seekCell, Cond.instanceMethod yX2_seekCell, Cond.selects RX2 yX2_seekCell yX2_seekCell, Cond.code yX2_seekCell cX2_seekCell 3 none, Cond.methodLink RX2 166 yX0_bestOther, Cond.instanceMethod yX0_bestOther, Cond.selects RX0 yX0_bestOther yX0_bestOther, Cond.code yX0_bestOther cX0_bestOther 4 (some .int), Cond.methodLink RX0 74 yX0_couldTake, Cond.instanceMethod yX0_couldTake, Cond.selects RX0 yX0_couldTake yX0_couldTake, Cond.code yX0_couldTake cX0_couldTake 3 (some .boolean), Cond.methodLink RX2 159 yX2_loseCell, Cond.instanceMethod yX2_loseCell, Cond.selects RX2 yX2_loseCell yX2_loseCell, Cond.code yX2_loseCell cX2_loseCell 2 none, Cond.fieldLink RX2 134 "CellPlanner" "losses" "I", Cond.methodLink RX2 162 yX2_weighFavourite, Cond.instanceMethod yX2_weighFavourite, Cond.selects RX2 yX2_weighFavourite yX2_weighFavourite, Cond.code yX2_weighFavourite cX2_weighFavourite 4 none, Cond.methodLink RX2 169 yX2_handOver]
def wsL_acts_r8 : List Cond := [Cond.instanceMethod yX2_handOver, Cond.selects RX2 yX2_handOver yX2_handOver, Cond.code yX2_handOver cX2_handOver 4 none, Cond.fieldLink RX2 35 "CellPlanner" "leftAt" "[I", Cond.fieldLink RX2 131 "CellPlanner" "rings" "I", Cond.methodLink RL 114 yL_moved, Cond.static yL_moved, Cond.codeWith yL_moved cL_moved 5 (some .int) [(0, 8, 9, 41), (0, 8, 14, 29)], Cond.methodLink RL 47 yX2_move, Cond.instanceMethod yX2_move, Cond.selects RX2 yX2_move yX2_move, Cond.code yX2_move cX2_move 8 none, Cond.fieldLink RX2 95 "CellPlanner$Land" "walkerX" "[I", Cond.fieldLink RX2 98 "CellPlanner$Land" "walkerY" "[I", Cond.methodLink RX2 92 yX2_requireWalker, Cond.instanceMethod yX2_requireWalker, Cond.selects RX2 yX2_requireWalker yX2_requireWalker, Cond.code yX2_requireWalker cX2_requireWalker 2 none, Cond.methodLink RL 117 yL_tick, Cond.static yL_tick, Cond.code yL_tick cL_tick 9 none, Cond.arrayClass .int, Cond.methodLink RL 19 yL_qualities, Cond.static yL_qualities]
def wsL_acts_r9 : List Cond := [Cond.code yL_qualities cL_qualities 8 none, Cond.methodLink RL 9 yL_signal, Cond.static yL_signal, Cond.code yL_signal cL_signal 7 (some .int), Cond.methodLink RL 15 yL_load, Cond.static yL_load, Cond.code yL_load cL_load 5 (some .int)]
def wsL_acts : List Cond := .code yL_acts cL_acts 16 (some .boolean) :: ((wsL_acts_r1 ++ (wsL_acts_r2 ++ (wsL_acts_r3 ++ (wsL_acts_r4 ++ (wsL_acts_r5 ++ (wsL_acts_r6 ++ (wsL_acts_r7 ++ (wsL_acts_r8 ++ wsL_acts_r9)))))))) ++ wsX20 ++ wsX00 ++ (vx_atS RX2 59 "java/lang/IllegalStateException" ["java/lang/RuntimeException", "java/lang/Exception"]).filter goodWord ++ (vx_atS RX2 148 "java/lang/IllegalArgumentException" ["java/lang/RuntimeException", "java/lang/Exception"]).filter goodWord ++ (vx_atS RX2 153 "java/lang/IndexOutOfBoundsException" ["java/lang/RuntimeException", "java/lang/Exception"]).filter goodWord)
def wsL_tells_r1 : List Cond := [Cond.arrayClass .int, Cond.methodLink RL 19 yL_qualities, Cond.static yL_qualities, Cond.initialized RL, Cond.code yL_qualities cL_qualities 8 none, Cond.methodLink RL 9 yL_signal, Cond.static yL_signal, Cond.code yL_signal cL_signal 7 (some .int), Cond.methodLink RL 15 yL_load, Cond.static yL_load, Cond.code yL_load cL_load 5 (some .int), Cond.methodLink RL 120 yL_of, Cond.static yL_of, Cond.codeWith yL_of cL_of 5 (some .int) [(0, 98, 99, 41)], Cond.classLink RL 41 "java/lang/IndexOutOfBoundsException", Cond.methodLink RL 64 yX2_signal, Cond.instanceMethod yX2_signal, Cond.selects RX2 yX2_signal yX2_signal, Cond.initialized RX2, Cond.code yX2_signal cX2_signal 3 (some .int), Cond.fieldLink RX2 10 "CellPlanner" "land" "LCellPlanner$Land;", Cond.methodLink RX2 66 yX2_requireCell, Cond.instanceMethod yX2_requireCell, Cond.selects RX2 yX2_requireCell yX2_requireCell]
def wsL_tells_r2 : List Cond := [Cond.code yX2_requireCell cX2_requireCell 2 none, Cond.classLink RX2 149 "java/lang/IndexOutOfBoundsException", Cond.initialized "java/lang/IndexOutOfBoundsException", Cond.fieldLink RX2 52 "CellPlanner$Land" "cells" "I", Cond.methodLink RX2 92 yX2_requireWalker, Cond.instanceMethod yX2_requireWalker, Cond.selects RX2 yX2_requireWalker yX2_requireWalker, Cond.code yX2_requireWalker cX2_requireWalker 2 none, Cond.fieldLink RX2 80 "CellPlanner$Land" "walkers" "I", Cond.methodLink RX2 110 yX0_signalOf, Cond.instanceMethod yX0_signalOf, Cond.selects RX0 yX0_signalOf yX0_signalOf, Cond.initialized RX0, Cond.code yX0_signalOf cX0_signalOf 4 (some .int), Cond.fieldLink RX0 9 "CellPlanner$Land" "cellX" "[I", Cond.fieldLink RX0 28 "CellPlanner$Land" "walkerX" "[I", Cond.methodLink RX0 59 Lib.Math.abs.name, Cond.static Lib.Math.abs.name, Cond.initialized "java/lang/Math", Cond.code Lib.Math.abs.name Lib.Math.abs.code 1 (some .int), Cond.fieldLink RX0 15 "CellPlanner$Land" "cellY" "[I", Cond.fieldLink RX0 31 "CellPlanner$Land" "walkerY" "[I", Cond.methodLink RL 66 yX2_quality, Cond.instanceMethod yX2_quality]
def wsL_tells_r3 : List Cond := [Cond.selects RX2 yX2_quality yX2_quality, Cond.code yX2_quality cX2_quality 3 (some .int), Cond.fieldLink RX2 117 "CellPlanner$Land" "quality" "[[I", Cond.methodLink RX2 114 yX0_measure, Cond.instanceMethod yX0_measure, Cond.selects RX0 yX0_measure yX0_measure, Cond.code yX0_measure cX0_measure 3 none, Cond.fieldLink RX0 48 "CellPlanner$Land" "cells" "I", Cond.fieldLink RX0 40 "CellPlanner$Land" "measuredUse" "[I", Cond.fieldLink RX0 52 "CellPlanner$Land" "walkers" "I", Cond.fieldLink RX0 45 "CellPlanner$Land" "quality" "[[I", Cond.methodLink RX0 64 yX0_useOf, Cond.instanceMethod yX0_useOf, Cond.selects RX0 yX0_useOf yX0_useOf, Cond.code yX0_useOf cX0_useOf 2 (some .int), Cond.fieldLink RX0 21 "CellPlanner$Land" "room" "[I", Cond.methodLink RX0 55 yX0_loadOf, Cond.instanceMethod yX0_loadOf, Cond.selects RX0 yX0_loadOf yX0_loadOf, Cond.code yX0_loadOf cX0_loadOf 4 (some .int), Cond.fieldLink RX0 37 "CellPlanner$Land" "server" "[I", Cond.fieldLink RX0 34 "CellPlanner$Land" "demand" "[I", Cond.methodLink RX0 67 yX0_signalOf, Cond.methodLink RX0 71 yX0_disturbances]
def wsL_tells_r4 : List Cond := [Cond.instanceMethod yX0_disturbances, Cond.selects RX0 yX0_disturbances yX0_disturbances, Cond.code yX0_disturbances cX0_disturbances 5 (some .int), Cond.fieldLink RX0 24 "CellPlanner$Land" "on" "[Z", Cond.fieldLink RX0 18 "CellPlanner$Land" "channel" "[I", Cond.methodLink RL 69 yX2_load, Cond.instanceMethod yX2_load, Cond.selects RX2 yX2_load yX2_load, Cond.code yX2_load cX2_load 2 (some .int), Cond.methodLink RX2 121 yX0_loadOf, Cond.methodLink RL 71 yX2_use, Cond.instanceMethod yX2_use, Cond.selects RX2 yX2_use yX2_use, Cond.code yX2_use cX2_use 2 (some .int), Cond.methodLink RX2 125 yX0_useOf, Cond.methodLink RL 74 yX2_servedBy, Cond.instanceMethod yX2_servedBy, Cond.selects RX2 yX2_servedBy yX2_servedBy, Cond.code yX2_servedBy cX2_servedBy 2 (some .int), Cond.fieldLink RX2 128 "CellPlanner$Land" "server" "[I", Cond.methodLink RL 77 yX2_favourite, Cond.instanceMethod yX2_favourite, Cond.selects RX2 yX2_favourite yX2_favourite, Cond.code yX2_favourite cX2_favourite 2 (some .int)]
def wsL_tells_r5 : List Cond := [Cond.fieldLink RX2 25 "CellPlanner" "favourite" "[I", Cond.methodLink RL 80 yX2_heldFor, Cond.instanceMethod yX2_heldFor, Cond.selects RX2 yX2_heldFor yX2_heldFor, Cond.code yX2_heldFor cX2_heldFor 2 (some .int), Cond.fieldLink RX2 29 "CellPlanner" "held" "[I", Cond.methodLink RL 83 yX2_bestCell, Cond.instanceMethod yX2_bestCell, Cond.selects RX2 yX2_bestCell yX2_bestCell, Cond.code yX2_bestCell cX2_bestCell 2 (some .int), Cond.fieldLink RX2 21 "CellPlanner" "search" "LCellPlanner$Search;", Cond.fieldLink RX2 45 "CellPlanner" "bound" "I", Cond.constant RX2 140 (1000000), Cond.fieldLink RX2 141 "CellPlanner$Search" "best" "[I", Cond.methodLink RX2 137 yX1_greatestWorth, Cond.instanceMethod yX1_greatestWorth, Cond.selects RX1 yX1_greatestWorth yX1_greatestWorth, Cond.initialized RX1, Cond.code yX1_greatestWorth cX1_greatestWorth 7 (some .int), Cond.fieldLink RX1 29 "CellPlanner$Search" "land" "LCellPlanner$Land;", Cond.fieldLink RX1 16 "CellPlanner$Search" "hope" "[I", Cond.fieldLink RX1 38 "CellPlanner$Land" "walkers" "I", Cond.fieldLink RX1 42 "CellPlanner$Land" "demand" "[I", Cond.fieldLink RX1 49 "CellPlanner$Land" "room" "[I"]
def wsL_tells_r6 : List Cond := [Cond.fieldLink RX1 20 "CellPlanner$Search" "roomLeft" "[I", Cond.fieldLink RX1 52 "CellPlanner$Land" "cells" "I", Cond.methodLink RX1 55 arraycopyName, Cond.native arraycopyName, Cond.static arraycopyName, Cond.initialized "java/lang/System", Cond.fieldLink RX1 61 "CellPlanner$Search" "bestWorth" "I", Cond.methodLink RX1 33 yX0_measure, Cond.methodLink RX1 45 yX1_fillWorth, Cond.instanceMethod yX1_fillWorth, Cond.selects RX1 yX1_fillWorth yX1_fillWorth, Cond.code yX1_fillWorth cX1_fillWorth 9 (some .int), Cond.fieldLink RX1 68 "CellPlanner$Land" "quality" "[[I", Cond.fieldLink RX1 71 "CellPlanner$Land" "on" "[Z", Cond.fieldLink RX1 11 "CellPlanner$Search" "worth" "[[I", Cond.methodLink RX1 75 Lib.Math.max.name, Cond.static Lib.Math.max.name, Cond.code Lib.Math.max.name Lib.Math.max.code 2 (some .int), Cond.methodLink RX1 64 yX1_place, Cond.static yX1_place, Cond.code yX1_place cX1_place 6 none, Cond.fieldLink RX1 23 "CellPlanner$Search" "chosen" "[I", Cond.methodLink RX1 81 yX1_keep, Cond.instanceMethod yX1_keep]
def wsL_tells_r7 : List Cond := [Cond.selects RX1 yX1_keep yX1_keep, Cond.code yX1_keep cX1_keep 2 none, Cond.fieldLink RX1 26 "CellPlanner$Search" "best" "[I", Cond.methodLink RL 123 yX2_unserved, Cond.instanceMethod yX2_unserved, Cond.selects RX2 yX2_unserved yX2_unserved, Cond.code yX2_unserved cX2_unserved 3 (some .int), Cond.methodLink RL 127 yX2_ticks, Cond.instanceMethod yX2_ticks, Cond.selects RX2 yX2_ticks yX2_ticks, Cond.code yX2_ticks cX2_ticks 1 (some .int), Cond.fieldLink RX2 107 "CellPlanner" "ticks" "I", Cond.methodLink RL 130 yX2_handovers, Cond.instanceMethod yX2_handovers, Cond.selects RX2 yX2_handovers yX2_handovers, Cond.code yX2_handovers cX2_handovers 1 (some .int), Cond.fieldLink RX2 101 "CellPlanner" "handovers" "I", Cond.methodLink RL 133 yX2_rings, Cond.instanceMethod yX2_rings, Cond.selects RX2 yX2_rings yX2_rings, Cond.code yX2_rings cX2_rings 1 (some .int), Cond.fieldLink RX2 131 "CellPlanner" "rings" "I", Cond.methodLink RL 136 yX2_losses, Cond.instanceMethod yX2_losses]
def wsL_tells_r8 : List Cond := [Cond.selects RX2 yX2_losses yX2_losses, Cond.code yX2_losses cX2_losses 1 (some .int), Cond.fieldLink RX2 134 "CellPlanner" "losses" "I", Cond.methodLink RL 139 yX2_cells, Cond.instanceMethod yX2_cells, Cond.selects RX2 yX2_cells yX2_cells, Cond.code yX2_cells cX2_cells 1 (some .int), Cond.methodLink RL 142 yX2_walkers, Cond.instanceMethod yX2_walkers, Cond.selects RX2 yX2_walkers yX2_walkers, Cond.code yX2_walkers cX2_walkers 1 (some .int)]
def wsL_tells : List Cond := .code yL_tells cL_tells 10 (some .boolean) :: ((wsL_tells_r1 ++ (wsL_tells_r2 ++ (wsL_tells_r3 ++ (wsL_tells_r4 ++ (wsL_tells_r5 ++ (wsL_tells_r6 ++ (wsL_tells_r7 ++ wsL_tells_r8))))))) ++ wsX20 ++ wsX00 ++ wsX10 ++ (vx_atS RX2 153 "java/lang/IndexOutOfBoundsException" ["java/lang/RuntimeException", "java/lang/Exception"]).filter goodWord)
def wsL_assigns_r1 : List Cond := [Cond.arrayClass .int, Cond.methodLink RL 19 yL_qualities, Cond.static yL_qualities, Cond.initialized RL, Cond.code yL_qualities cL_qualities 8 none, Cond.methodLink RL 9 yL_signal, Cond.static yL_signal, Cond.code yL_signal cL_signal 7 (some .int), Cond.methodLink RL 15 yL_load, Cond.static yL_load, Cond.code yL_load cL_load 5 (some .int), Cond.methodLink RL 120 yL_of, Cond.static yL_of, Cond.codeWith yL_of cL_of 5 (some .int) [(0, 98, 99, 41)], Cond.classLink RL 41 "java/lang/IndexOutOfBoundsException", Cond.methodLink RL 64 yX2_signal, Cond.instanceMethod yX2_signal, Cond.selects RX2 yX2_signal yX2_signal, Cond.initialized RX2, Cond.code yX2_signal cX2_signal 3 (some .int), Cond.fieldLink RX2 10 "CellPlanner" "land" "LCellPlanner$Land;", Cond.methodLink RX2 66 yX2_requireCell, Cond.instanceMethod yX2_requireCell, Cond.selects RX2 yX2_requireCell yX2_requireCell]
def wsL_assigns_r2 : List Cond := [Cond.code yX2_requireCell cX2_requireCell 2 none, Cond.classLink RX2 149 "java/lang/IndexOutOfBoundsException", Cond.initialized "java/lang/IndexOutOfBoundsException", Cond.fieldLink RX2 52 "CellPlanner$Land" "cells" "I", Cond.methodLink RX2 92 yX2_requireWalker, Cond.instanceMethod yX2_requireWalker, Cond.selects RX2 yX2_requireWalker yX2_requireWalker, Cond.code yX2_requireWalker cX2_requireWalker 2 none, Cond.fieldLink RX2 80 "CellPlanner$Land" "walkers" "I", Cond.methodLink RX2 110 yX0_signalOf, Cond.instanceMethod yX0_signalOf, Cond.selects RX0 yX0_signalOf yX0_signalOf, Cond.initialized RX0, Cond.code yX0_signalOf cX0_signalOf 4 (some .int), Cond.fieldLink RX0 9 "CellPlanner$Land" "cellX" "[I", Cond.fieldLink RX0 28 "CellPlanner$Land" "walkerX" "[I", Cond.methodLink RX0 59 Lib.Math.abs.name, Cond.static Lib.Math.abs.name, Cond.initialized "java/lang/Math", Cond.code Lib.Math.abs.name Lib.Math.abs.code 1 (some .int), Cond.fieldLink RX0 15 "CellPlanner$Land" "cellY" "[I", Cond.fieldLink RX0 31 "CellPlanner$Land" "walkerY" "[I", Cond.methodLink RL 66 yX2_quality, Cond.instanceMethod yX2_quality]
def wsL_assigns_r3 : List Cond := [Cond.selects RX2 yX2_quality yX2_quality, Cond.code yX2_quality cX2_quality 3 (some .int), Cond.fieldLink RX2 117 "CellPlanner$Land" "quality" "[[I", Cond.methodLink RX2 114 yX0_measure, Cond.instanceMethod yX0_measure, Cond.selects RX0 yX0_measure yX0_measure, Cond.code yX0_measure cX0_measure 3 none, Cond.fieldLink RX0 48 "CellPlanner$Land" "cells" "I", Cond.fieldLink RX0 40 "CellPlanner$Land" "measuredUse" "[I", Cond.fieldLink RX0 52 "CellPlanner$Land" "walkers" "I", Cond.fieldLink RX0 45 "CellPlanner$Land" "quality" "[[I", Cond.methodLink RX0 64 yX0_useOf, Cond.instanceMethod yX0_useOf, Cond.selects RX0 yX0_useOf yX0_useOf, Cond.code yX0_useOf cX0_useOf 2 (some .int), Cond.fieldLink RX0 21 "CellPlanner$Land" "room" "[I", Cond.methodLink RX0 55 yX0_loadOf, Cond.instanceMethod yX0_loadOf, Cond.selects RX0 yX0_loadOf yX0_loadOf, Cond.code yX0_loadOf cX0_loadOf 4 (some .int), Cond.fieldLink RX0 37 "CellPlanner$Land" "server" "[I", Cond.fieldLink RX0 34 "CellPlanner$Land" "demand" "[I", Cond.methodLink RX0 67 yX0_signalOf, Cond.methodLink RX0 71 yX0_disturbances]
def wsL_assigns_r4 : List Cond := [Cond.instanceMethod yX0_disturbances, Cond.selects RX0 yX0_disturbances yX0_disturbances, Cond.code yX0_disturbances cX0_disturbances 5 (some .int), Cond.fieldLink RX0 24 "CellPlanner$Land" "on" "[Z", Cond.fieldLink RX0 18 "CellPlanner$Land" "channel" "[I", Cond.methodLink RL 69 yX2_load, Cond.instanceMethod yX2_load, Cond.selects RX2 yX2_load yX2_load, Cond.code yX2_load cX2_load 2 (some .int), Cond.methodLink RX2 121 yX0_loadOf, Cond.methodLink RL 71 yX2_use, Cond.instanceMethod yX2_use, Cond.selects RX2 yX2_use yX2_use, Cond.code yX2_use cX2_use 2 (some .int), Cond.methodLink RX2 125 yX0_useOf, Cond.methodLink RL 74 yX2_servedBy, Cond.instanceMethod yX2_servedBy, Cond.selects RX2 yX2_servedBy yX2_servedBy, Cond.code yX2_servedBy cX2_servedBy 2 (some .int), Cond.fieldLink RX2 128 "CellPlanner$Land" "server" "[I", Cond.methodLink RL 77 yX2_favourite, Cond.instanceMethod yX2_favourite, Cond.selects RX2 yX2_favourite yX2_favourite, Cond.code yX2_favourite cX2_favourite 2 (some .int)]
def wsL_assigns_r5 : List Cond := [Cond.fieldLink RX2 25 "CellPlanner" "favourite" "[I", Cond.methodLink RL 80 yX2_heldFor, Cond.instanceMethod yX2_heldFor, Cond.selects RX2 yX2_heldFor yX2_heldFor, Cond.code yX2_heldFor cX2_heldFor 2 (some .int), Cond.fieldLink RX2 29 "CellPlanner" "held" "[I", Cond.methodLink RL 83 yX2_bestCell, Cond.instanceMethod yX2_bestCell, Cond.selects RX2 yX2_bestCell yX2_bestCell, Cond.code yX2_bestCell cX2_bestCell 2 (some .int), Cond.fieldLink RX2 21 "CellPlanner" "search" "LCellPlanner$Search;", Cond.fieldLink RX2 45 "CellPlanner" "bound" "I", Cond.constant RX2 140 (1000000), Cond.fieldLink RX2 141 "CellPlanner$Search" "best" "[I", Cond.methodLink RX2 137 yX1_greatestWorth, Cond.instanceMethod yX1_greatestWorth, Cond.selects RX1 yX1_greatestWorth yX1_greatestWorth, Cond.initialized RX1, Cond.code yX1_greatestWorth cX1_greatestWorth 7 (some .int), Cond.fieldLink RX1 29 "CellPlanner$Search" "land" "LCellPlanner$Land;", Cond.fieldLink RX1 16 "CellPlanner$Search" "hope" "[I", Cond.fieldLink RX1 38 "CellPlanner$Land" "walkers" "I", Cond.fieldLink RX1 42 "CellPlanner$Land" "demand" "[I", Cond.fieldLink RX1 49 "CellPlanner$Land" "room" "[I"]
def wsL_assigns_r6 : List Cond := [Cond.fieldLink RX1 20 "CellPlanner$Search" "roomLeft" "[I", Cond.fieldLink RX1 52 "CellPlanner$Land" "cells" "I", Cond.methodLink RX1 55 arraycopyName, Cond.native arraycopyName, Cond.static arraycopyName, Cond.initialized "java/lang/System", Cond.fieldLink RX1 61 "CellPlanner$Search" "bestWorth" "I", Cond.methodLink RX1 33 yX0_measure, Cond.methodLink RX1 45 yX1_fillWorth, Cond.instanceMethod yX1_fillWorth, Cond.selects RX1 yX1_fillWorth yX1_fillWorth, Cond.code yX1_fillWorth cX1_fillWorth 9 (some .int), Cond.fieldLink RX1 68 "CellPlanner$Land" "quality" "[[I", Cond.fieldLink RX1 71 "CellPlanner$Land" "on" "[Z", Cond.fieldLink RX1 11 "CellPlanner$Search" "worth" "[[I", Cond.methodLink RX1 75 Lib.Math.max.name, Cond.static Lib.Math.max.name, Cond.code Lib.Math.max.name Lib.Math.max.code 2 (some .int), Cond.methodLink RX1 64 yX1_place, Cond.static yX1_place, Cond.code yX1_place cX1_place 6 none, Cond.fieldLink RX1 23 "CellPlanner$Search" "chosen" "[I", Cond.methodLink RX1 81 yX1_keep, Cond.instanceMethod yX1_keep]
def wsL_assigns_r7 : List Cond := [Cond.selects RX1 yX1_keep yX1_keep, Cond.code yX1_keep cX1_keep 2 none, Cond.fieldLink RX1 26 "CellPlanner$Search" "best" "[I", Cond.methodLink RL 145 yX2_mostServed, Cond.instanceMethod yX2_mostServed, Cond.selects RX2 yX2_mostServed yX2_mostServed, Cond.code yX2_mostServed cX2_mostServed 1 (some .int), Cond.methodLink RL 148 yX2_mostDemand, Cond.instanceMethod yX2_mostDemand, Cond.selects RX2 yX2_mostDemand yX2_mostDemand, Cond.code yX2_mostDemand cX2_mostDemand 1 (some .int)]
def wsL_assigns : List Cond := .code yL_assigns cL_assigns 21 (some .boolean) :: ((wsL_assigns_r1 ++ (wsL_assigns_r2 ++ (wsL_assigns_r3 ++ (wsL_assigns_r4 ++ (wsL_assigns_r5 ++ (wsL_assigns_r6 ++ wsL_assigns_r7)))))) ++ wsX20 ++ wsX00 ++ wsX10 ++ (vx_atS RX2 153 "java/lang/IndexOutOfBoundsException" ["java/lang/RuntimeException", "java/lang/Exception"]).filter goodWord)
def wsL_law0_r1 : List Cond := [Cond.classLink RL 24 RX2, Cond.instantiable RX2 13, Cond.initialized RX2, Cond.arrayClass .int, Cond.methodLink RL 151 yX2_init, Cond.instanceMethod yX2_init, Cond.code yX2_init cX2_init 1 none, Cond.methodLink RX2 1 objectInit, Cond.instanceMethod objectInit, Cond.code objectInit ⟨#[0xb1]⟩ 1 none, Cond.classLink RX2 7 RX0, Cond.instantiable RX0 13, Cond.initialized RX0, Cond.fieldLink RX2 10 "CellPlanner" "land" "LCellPlanner$Land;", Cond.classLink RX2 16 RX1, Cond.instantiable RX1 7, Cond.initialized RX1, Cond.fieldLink RX2 21 "CellPlanner" "search" "LCellPlanner$Search;", Cond.fieldLink RX2 25 "CellPlanner" "favourite" "[I", Cond.fieldLink RX2 29 "CellPlanner" "held" "[I", Cond.fieldLink RX2 32 "CellPlanner" "leftCell" "[I", Cond.fieldLink RX2 35 "CellPlanner" "leftAt" "[I", Cond.fieldLink RX2 38 "CellPlanner" "margin" "I", Cond.fieldLink RX2 42 "CellPlanner" "patience" "I"]
def wsL_law0_r2 : List Cond := [Cond.fieldLink RX2 45 "CellPlanner" "bound" "I", Cond.instanceMethod yX0_init, Cond.code yX0_init cX0_init 1 none, Cond.methodLink RX0 3 objectInit, Cond.fieldLink RX0 9 "CellPlanner$Land" "cellX" "[I", Cond.fieldLink RX0 15 "CellPlanner$Land" "cellY" "[I", Cond.fieldLink RX0 18 "CellPlanner$Land" "channel" "[I", Cond.fieldLink RX0 21 "CellPlanner$Land" "room" "[I", Cond.arrayClass .boolean, Cond.fieldLink RX0 24 "CellPlanner$Land" "on" "[Z", Cond.fieldLink RX0 28 "CellPlanner$Land" "walkerX" "[I", Cond.fieldLink RX0 31 "CellPlanner$Land" "walkerY" "[I", Cond.fieldLink RX0 34 "CellPlanner$Land" "demand" "[I", Cond.fieldLink RX0 37 "CellPlanner$Land" "server" "[I", Cond.fieldLink RX0 40 "CellPlanner$Land" "measuredUse" "[I", Cond.classLink RX0 43 "[[I", Cond.fieldLink RX0 45 "CellPlanner$Land" "quality" "[[I", Cond.methodLink RX2 18 yX1_init, Cond.instanceMethod yX1_init, Cond.code yX1_init cX1_init 2 none, Cond.methodLink RX1 3 objectInit, Cond.classLink RX1 9 "[[I", Cond.fieldLink RX1 11 "CellPlanner$Search" "worth" "[[I", Cond.fieldLink RX1 16 "CellPlanner$Search" "hope" "[I"]
def wsL_law0_r3 : List Cond := [Cond.fieldLink RX1 20 "CellPlanner$Search" "roomLeft" "[I", Cond.fieldLink RX1 23 "CellPlanner$Search" "chosen" "[I", Cond.fieldLink RX1 26 "CellPlanner$Search" "best" "[I", Cond.fieldLink RX1 29 "CellPlanner$Search" "land" "LCellPlanner$Land;", Cond.methodLink RL 152 yL_cell, Cond.static yL_cell, Cond.initialized RL, Cond.code yL_cell cL_cell 2 (some .int), Cond.constantLong RL 7 (3266489917), Cond.methodLink RL 86 yL_some, Cond.static yL_some, Cond.code yL_some cL_some 2 (some .int), Cond.methodLink RL 155 yL_acts, Cond.static yL_acts, Cond.code yL_acts cL_acts 16 (some .boolean), Cond.constant RL 111 (2147483647), Cond.constantLong RL 112 (64), Cond.methodLink RL 89 yL_place, Cond.static yL_place, Cond.code yL_place cL_place 1 (some .int), Cond.methodLink RL 92 yL_built, Cond.static yL_built, Cond.codeWith yL_built cL_built 6 (some .int) [(0, 9, 10, 29), (0, 9, 15, 31)], Cond.classLink RL 29 "java/lang/IllegalArgumentException"]
def wsL_law0_r4 : List Cond := [Cond.classLink RL 31 "java/lang/IllegalStateException", Cond.methodLink RL 23 yX2_cell, Cond.instanceMethod yX2_cell, Cond.selects RX2 yX2_cell yX2_cell, Cond.code yX2_cell cX2_cell 5 (some .int), Cond.classLink RX2 55 "java/lang/IllegalStateException", Cond.initialized "java/lang/IllegalStateException", Cond.fieldLink RX2 52 "CellPlanner$Land" "cells" "I", Cond.methodLink RX2 48 yX2_requireRange, Cond.static yX2_requireRange, Cond.code yX2_requireRange cX2_requireRange 4 none, Cond.classLink RX2 144 "java/lang/IllegalArgumentException", Cond.initialized "java/lang/IllegalArgumentException", Cond.methodLink RX2 62 yX0_addCell, Cond.instanceMethod yX0_addCell, Cond.selects RX0 yX0_addCell yX0_addCell, Cond.code yX0_addCell cX0_addCell 6 (some .int), Cond.fieldLink RX0 48 "CellPlanner$Land" "cells" "I", Cond.methodLink RL 96 yL_came, Cond.static yL_came, Cond.codeWith yL_came cL_came 5 (some .int) [(0, 7, 8, 29), (0, 7, 13, 31)], Cond.methodLink RL 33 yX2_walker, Cond.instanceMethod yX2_walker, Cond.selects RX2 yX2_walker yX2_walker]
def wsL_law0_r5 : List Cond := [Cond.code yX2_walker cX2_walker 5 (some .int), Cond.fieldLink RX2 80 "CellPlanner$Land" "walkers" "I", Cond.methodLink RX2 85 yX0_addWalker, Cond.instanceMethod yX0_addWalker, Cond.selects RX0 yX0_addWalker yX0_addWalker, Cond.code yX0_addWalker cX0_addWalker 5 (some .int), Cond.fieldLink RX0 52 "CellPlanner$Land" "walkers" "I", Cond.methodLink RX2 89 yX2_dropFavourite, Cond.instanceMethod yX2_dropFavourite, Cond.selects RX2 yX2_dropFavourite yX2_dropFavourite, Cond.code yX2_dropFavourite cX2_dropFavourite 2 none, Cond.methodLink RL 100 yL_turned, Cond.static yL_turned, Cond.codeWith yL_turned cL_turned 3 (some .int) [(0, 13, 14, 41)], Cond.classLink RL 41 "java/lang/IndexOutOfBoundsException", Cond.methodLink RL 37 yX2_turn, Cond.instanceMethod yX2_turn, Cond.selects RX2 yX2_turn yX2_turn, Cond.code yX2_turn cX2_turn 2 (some .boolean), Cond.fieldLink RX2 70 "CellPlanner$Land" "on" "[Z", Cond.methodLink RX2 66 yX2_requireCell, Cond.instanceMethod yX2_requireCell, Cond.selects RX2 yX2_requireCell yX2_requireCell, Cond.code yX2_requireCell cX2_requireCell 2 none]
def wsL_law0_r6 : List Cond := [Cond.classLink RX2 149 "java/lang/IndexOutOfBoundsException", Cond.initialized "java/lang/IndexOutOfBoundsException", Cond.methodLink RX2 74 yX2_releaseWalkers, Cond.instanceMethod yX2_releaseWalkers, Cond.selects RX2 yX2_releaseWalkers yX2_releaseWalkers, Cond.code yX2_releaseWalkers cX2_releaseWalkers 3 none, Cond.fieldLink RX2 128 "CellPlanner$Land" "server" "[I", Cond.methodLink RL 104 yL_tuned, Cond.static yL_tuned, Cond.codeWith yL_tuned cL_tuned 4 (some .int) [(0, 6, 7, 41), (0, 6, 11, 29)], Cond.methodLink RL 43 yX2_tune, Cond.instanceMethod yX2_tune, Cond.selects RX2 yX2_tune yX2_tune, Cond.code yX2_tune cX2_tune 4 (some .int), Cond.fieldLink RX2 77 "CellPlanner$Land" "channel" "[I", Cond.methodLink RL 108 yL_set, Cond.static yL_set, Cond.codeWith yL_set cL_set 4 (some .int) [(0, 43, 44, 29)], Cond.methodLink RL 51 yX2_margin, Cond.instanceMethod yX2_margin, Cond.selects RX2 yX2_margin yX2_margin, Cond.code yX2_margin cX2_margin 3 (some .int), Cond.methodLink RL 55 yX2_patience, Cond.instanceMethod yX2_patience]
def wsL_law0_r7 : List Cond := [Cond.selects RX2 yX2_patience yX2_patience, Cond.code yX2_patience cX2_patience 3 (some .int), Cond.methodLink RL 58 yX2_bound, Cond.instanceMethod yX2_bound, Cond.selects RX2 yX2_bound yX2_bound, Cond.code yX2_bound cX2_bound 3 (some .int), Cond.methodLink RL 61 yX2_tick, Cond.instanceMethod yX2_tick, Cond.selects RX2 yX2_tick yX2_tick, Cond.code yX2_tick cX2_tick 4 (some .int), Cond.fieldLink RX2 101 "CellPlanner" "handovers" "I", Cond.methodLink RX2 104 yX2_passTick, Cond.instanceMethod yX2_passTick, Cond.selects RX2 yX2_passTick yX2_passTick, Cond.code yX2_passTick cX2_passTick 3 none, Cond.fieldLink RX2 107 "CellPlanner" "ticks" "I", Cond.fieldLink RX2 117 "CellPlanner$Land" "quality" "[[I", Cond.methodLink RX2 114 yX0_measure, Cond.instanceMethod yX0_measure, Cond.selects RX0 yX0_measure yX0_measure, Cond.code yX0_measure cX0_measure 3 none, Cond.methodLink RX0 64 yX0_useOf, Cond.instanceMethod yX0_useOf, Cond.selects RX0 yX0_useOf yX0_useOf]
def wsL_law0_r8 : List Cond := [Cond.code yX0_useOf cX0_useOf 2 (some .int), Cond.methodLink RX0 55 yX0_loadOf, Cond.instanceMethod yX0_loadOf, Cond.selects RX0 yX0_loadOf yX0_loadOf, Cond.code yX0_loadOf cX0_loadOf 4 (some .int), Cond.methodLink RX0 67 yX0_signalOf, Cond.instanceMethod yX0_signalOf, Cond.selects RX0 yX0_signalOf yX0_signalOf, Cond.code yX0_signalOf cX0_signalOf 4 (some .int), Cond.methodLink RX0 59 Lib.Math.abs.name, Cond.static Lib.Math.abs.name, Cond.initialized "java/lang/Math", Cond.code Lib.Math.abs.name Lib.Math.abs.code 1 (some .int), Cond.methodLink RX0 71 yX0_disturbances, Cond.instanceMethod yX0_disturbances, Cond.selects RX0 yX0_disturbances yX0_disturbances, Cond.code yX0_disturbances cX0_disturbances 5 (some .int), Cond.methodLink RX2 156 yX2_seekCell, Cond.instanceMethod yX2_seekCell, Cond.selects RX2 yX2_seekCell yX2_seekCell, Cond.code yX2_seekCell cX2_seekCell 3 none, Cond.methodLink RX2 166 yX0_bestOther, Cond.instanceMethod yX0_bestOther, Cond.selects RX0 yX0_bestOther yX0_bestOther]
def wsL_law0_r9 : List Cond := [Cond.code yX0_bestOther cX0_bestOther 4 (some .int), Cond.methodLink RX0 74 yX0_couldTake, Cond.instanceMethod yX0_couldTake, Cond.selects RX0 yX0_couldTake yX0_couldTake, Cond.code yX0_couldTake cX0_couldTake 3 (some .boolean), Cond.methodLink RX2 159 yX2_loseCell, Cond.instanceMethod yX2_loseCell, Cond.selects RX2 yX2_loseCell yX2_loseCell, Cond.code yX2_loseCell cX2_loseCell 2 none, Cond.fieldLink RX2 134 "CellPlanner" "losses" "I", Cond.methodLink RX2 162 yX2_weighFavourite, Cond.instanceMethod yX2_weighFavourite, Cond.selects RX2 yX2_weighFavourite yX2_weighFavourite, Cond.code yX2_weighFavourite cX2_weighFavourite 4 none, Cond.methodLink RX2 169 yX2_handOver, Cond.instanceMethod yX2_handOver, Cond.selects RX2 yX2_handOver yX2_handOver, Cond.code yX2_handOver cX2_handOver 4 none, Cond.fieldLink RX2 131 "CellPlanner" "rings" "I", Cond.methodLink RL 114 yL_moved, Cond.static yL_moved, Cond.codeWith yL_moved cL_moved 5 (some .int) [(0, 8, 9, 41), (0, 8, 14, 29)], Cond.methodLink RL 47 yX2_move, Cond.instanceMethod yX2_move]
def wsL_law0_r10 : List Cond := [Cond.selects RX2 yX2_move yX2_move, Cond.code yX2_move cX2_move 8 none, Cond.fieldLink RX2 95 "CellPlanner$Land" "walkerX" "[I", Cond.fieldLink RX2 98 "CellPlanner$Land" "walkerY" "[I", Cond.methodLink RX2 92 yX2_requireWalker, Cond.instanceMethod yX2_requireWalker, Cond.selects RX2 yX2_requireWalker yX2_requireWalker, Cond.code yX2_requireWalker cX2_requireWalker 2 none, Cond.methodLink RL 117 yL_tick, Cond.static yL_tick, Cond.code yL_tick cL_tick 9 none, Cond.methodLink RL 19 yL_qualities, Cond.static yL_qualities, Cond.code yL_qualities cL_qualities 8 none, Cond.methodLink RL 9 yL_signal, Cond.static yL_signal, Cond.code yL_signal cL_signal 7 (some .int), Cond.methodLink RL 15 yL_load, Cond.static yL_load, Cond.code yL_load cL_load 5 (some .int), Cond.methodLink RL 159 yL_tells, Cond.static yL_tells, Cond.code yL_tells cL_tells 10 (some .boolean), Cond.methodLink RL 120 yL_of]
def wsL_law0_r11 : List Cond := [Cond.static yL_of, Cond.codeWith yL_of cL_of 5 (some .int) [(0, 98, 99, 41)], Cond.methodLink RL 64 yX2_signal, Cond.instanceMethod yX2_signal, Cond.selects RX2 yX2_signal yX2_signal, Cond.code yX2_signal cX2_signal 3 (some .int), Cond.methodLink RX2 110 yX0_signalOf, Cond.methodLink RL 66 yX2_quality, Cond.instanceMethod yX2_quality, Cond.selects RX2 yX2_quality yX2_quality, Cond.code yX2_quality cX2_quality 3 (some .int), Cond.methodLink RL 69 yX2_load, Cond.instanceMethod yX2_load, Cond.selects RX2 yX2_load yX2_load, Cond.code yX2_load cX2_load 2 (some .int), Cond.methodLink RX2 121 yX0_loadOf, Cond.methodLink RL 71 yX2_use, Cond.instanceMethod yX2_use, Cond.selects RX2 yX2_use yX2_use, Cond.code yX2_use cX2_use 2 (some .int), Cond.methodLink RX2 125 yX0_useOf, Cond.methodLink RL 74 yX2_servedBy, Cond.instanceMethod yX2_servedBy, Cond.selects RX2 yX2_servedBy yX2_servedBy]
def wsL_law0_r12 : List Cond := [Cond.code yX2_servedBy cX2_servedBy 2 (some .int), Cond.methodLink RL 77 yX2_favourite, Cond.instanceMethod yX2_favourite, Cond.selects RX2 yX2_favourite yX2_favourite, Cond.code yX2_favourite cX2_favourite 2 (some .int), Cond.methodLink RL 80 yX2_heldFor, Cond.instanceMethod yX2_heldFor, Cond.selects RX2 yX2_heldFor yX2_heldFor, Cond.code yX2_heldFor cX2_heldFor 2 (some .int), Cond.methodLink RL 83 yX2_bestCell, Cond.instanceMethod yX2_bestCell, Cond.selects RX2 yX2_bestCell yX2_bestCell, Cond.code yX2_bestCell cX2_bestCell 2 (some .int), Cond.constant RX2 140 (1000000), Cond.fieldLink RX2 141 "CellPlanner$Search" "best" "[I", Cond.methodLink RX2 137 yX1_greatestWorth, Cond.instanceMethod yX1_greatestWorth, Cond.selects RX1 yX1_greatestWorth yX1_greatestWorth, Cond.code yX1_greatestWorth cX1_greatestWorth 7 (some .int), Cond.fieldLink RX1 38 "CellPlanner$Land" "walkers" "I", Cond.fieldLink RX1 42 "CellPlanner$Land" "demand" "[I", Cond.fieldLink RX1 49 "CellPlanner$Land" "room" "[I", Cond.fieldLink RX1 52 "CellPlanner$Land" "cells" "I", Cond.methodLink RX1 55 arraycopyName]
def wsL_law0_r13 : List Cond := [Cond.native arraycopyName, Cond.static arraycopyName, Cond.initialized "java/lang/System", Cond.fieldLink RX1 61 "CellPlanner$Search" "bestWorth" "I", Cond.methodLink RX1 33 yX0_measure, Cond.methodLink RX1 45 yX1_fillWorth, Cond.instanceMethod yX1_fillWorth, Cond.selects RX1 yX1_fillWorth yX1_fillWorth, Cond.code yX1_fillWorth cX1_fillWorth 9 (some .int), Cond.fieldLink RX1 68 "CellPlanner$Land" "quality" "[[I", Cond.fieldLink RX1 71 "CellPlanner$Land" "on" "[Z", Cond.methodLink RX1 75 Lib.Math.max.name, Cond.static Lib.Math.max.name, Cond.code Lib.Math.max.name Lib.Math.max.code 2 (some .int), Cond.methodLink RX1 64 yX1_place, Cond.static yX1_place, Cond.code yX1_place cX1_place 6 none, Cond.methodLink RX1 81 yX1_keep, Cond.instanceMethod yX1_keep, Cond.selects RX1 yX1_keep yX1_keep, Cond.code yX1_keep cX1_keep 2 none, Cond.methodLink RL 123 yX2_unserved, Cond.instanceMethod yX2_unserved, Cond.selects RX2 yX2_unserved yX2_unserved]
def wsL_law0_r14 : List Cond := [Cond.code yX2_unserved cX2_unserved 3 (some .int), Cond.methodLink RL 127 yX2_ticks, Cond.instanceMethod yX2_ticks, Cond.selects RX2 yX2_ticks yX2_ticks, Cond.code yX2_ticks cX2_ticks 1 (some .int), Cond.methodLink RL 130 yX2_handovers, Cond.instanceMethod yX2_handovers, Cond.selects RX2 yX2_handovers yX2_handovers, Cond.code yX2_handovers cX2_handovers 1 (some .int), Cond.methodLink RL 133 yX2_rings, Cond.instanceMethod yX2_rings, Cond.selects RX2 yX2_rings yX2_rings, Cond.code yX2_rings cX2_rings 1 (some .int), Cond.methodLink RL 136 yX2_losses, Cond.instanceMethod yX2_losses, Cond.selects RX2 yX2_losses yX2_losses, Cond.code yX2_losses cX2_losses 1 (some .int), Cond.methodLink RL 139 yX2_cells, Cond.instanceMethod yX2_cells, Cond.selects RX2 yX2_cells yX2_cells, Cond.code yX2_cells cX2_cells 1 (some .int), Cond.methodLink RL 142 yX2_walkers, Cond.instanceMethod yX2_walkers, Cond.selects RX2 yX2_walkers yX2_walkers]
def wsL_law0_r15 : List Cond := [Cond.code yX2_walkers cX2_walkers 1 (some .int), Cond.methodLink RL 163 yL_assigns, Cond.static yL_assigns, Cond.code yL_assigns cL_assigns 21 (some .boolean), Cond.methodLink RL 145 yX2_mostServed, Cond.instanceMethod yX2_mostServed, Cond.selects RX2 yX2_mostServed yX2_mostServed, Cond.code yX2_mostServed cX2_mostServed 1 (some .int), Cond.methodLink RL 148 yX2_mostDemand, Cond.instanceMethod yX2_mostDemand, Cond.selects RX2 yX2_mostDemand yX2_mostDemand, Cond.code yX2_mostDemand cX2_mostDemand 1 (some .int)]
def wsL_law0 : List Cond := (wsL_law0_r1 ++ (wsL_law0_r2 ++ (wsL_law0_r3 ++ (wsL_law0_r4 ++ (wsL_law0_r5 ++ (wsL_law0_r6 ++ (wsL_law0_r7 ++ (wsL_law0_r8 ++ (wsL_law0_r9 ++ (wsL_law0_r10 ++ (wsL_law0_r11 ++ (wsL_law0_r12 ++ (wsL_law0_r13 ++ (wsL_law0_r14 ++ wsL_law0_r15)))))))))))))) ++ wsX20 ++ wsX00 ++ wsX10 ++ ([] : List Cond)
def wsL_law : List Cond := wsL_law0 ++ (vx_atS RX2 59 "java/lang/IllegalStateException" ["java/lang/RuntimeException", "java/lang/Exception"]).filter goodWord ++ (vx_atS RX2 148 "java/lang/IllegalArgumentException" ["java/lang/RuntimeException", "java/lang/Exception"]).filter goodWord ++ (vx_atS RX2 153 "java/lang/IndexOutOfBoundsException" ["java/lang/RuntimeException", "java/lang/Exception"]).filter goodWord
set_option maxRecDepth 20000 in
abbrev vwCl : List vw_C := [(RX0, TX0, 13), (RX1, TX1, 7), (RX2, TX2, 13)]
end
section
/-! G: what is left of a frame, said over worlds: any heap that holds the world ws, any locals that hold lv -/
section GG
variable {p : Program} {l : Launch} {e : Env} {R : Room} {s : State} {m : MethodId} {args : Array Value} {below : List Frame} {meth : Method} {c : Code} {Q : State → Prop} {k n : Nat}
def lh (ls : Array Slot) (nL : Nat) (lv : List (Option Value)) : Prop := ls.size = nL ∧ lv_wf ls ∧ ∀ (i : Nat) (v : Value), lv[i]? = some (some v) → ls[i]? = some (.val v)
def lz (lv : List (Option Value)) : List (Nat × Value) := (List.range lv.length).filterMap (fun i => match lv[i]? with | some (some v) => some (i, v) | _ => none)
theorem lz_mem {lv : List (Option Value)} {i : Nat} {v : Value} : (i, v) ∈ lz lv ↔ lv[i]? = some (some v) := by
  unfold lz
  rw [List.mem_filterMap]
  constructor
  · rintro ⟨j, -, hj⟩
    split at hj
    · next w hw => cases hj; exact hw
    · cases hj
  · intro h
    refine ⟨i, List.mem_range.mpr (List.getElem?_eq_some_iff.mp h).1, ?_⟩
    rw [h]
theorem lh_has {ls : Array Slot} {nL : Nat} {lv : List (Option Value)} (h : lh ls nL lv) : lv_has ls nL (lz lv) := ⟨h.1, h.2.1, fun q hq => h.2.2 q.1 q.2 (lz_mem.mp hq)⟩
def lvok (lv : List (Option Value)) : Nat → Bool
  | 0 => true
  | i + 1 => match lv[i]? with
    | some (some v) => v.category == 1
    | _ => true
theorem lvok_spec {lv : List (Option Value)} {i j : Nat} {v : Value} (h : lvok lv i = true) (hj : lv[j]? = some (some v)) (e : j + 1 = i) : ¬ v.category = 2 := by
  subst e
  simp only [lvok, hj, beq_iff_eq] at h
  omega
theorem lh_set1 {ls : Array Slot} {nL : Nat} {lv : List (Option Value)} {i : Nat} {v : Value} (h : lh ls nL lv) (hi : i < nL) (hc : v.category = 1) (hp : lvok lv i = true) : ∃ ls', storeLocals ls i v = some ls' ∧ lh ls' nL (lv.set i (some v)) := by
  obtain ⟨ls', e, h1, h2, h3⟩ := lv_store1 (lh_has h) hi hc
  refine ⟨ls', e, h1, h2, fun j w hj => ?_⟩
  rw [List.getElem?_set] at hj
  by_cases q : i = j
  · rw [if_pos q] at hj
    subst q
    by_cases q2 : i < lv.length
    · rw [if_pos q2] at hj
      cases hj
      exact h3 (i, v) List.mem_cons_self
    · rw [if_neg q2] at hj
      cases hj
  · rw [if_neg q] at hj
    refine h3 (j, w) (List.mem_cons_of_mem _ (List.mem_filter.mpr ⟨lz_mem.mpr hj, ?_⟩))
    have h5 : ¬ (j = i) := fun z => q z.symm
    by_cases h6 : j + 1 = i
    · have h7 := lvok_spec hp hj h6
      simp [h5, h7]
    · simp [h5, h6]
theorem lh_set2 {ls : Array Slot} {nL : Nat} {lv : List (Option Value)} {i : Nat} {v : Value} (h : lh ls nL lv) (hi : i + 1 < nL) (hc : v.category = 2) (hp : lvok lv i = true) : ∃ ls', storeLocals ls i v = some ls' ∧ lh ls' nL ((lv.set i (some v)).set (i + 1) none) := by
  obtain ⟨ls', e, h1, h2, h3⟩ := lv_store2 (lh_has h) hi hc
  refine ⟨ls', e, h1, h2, fun j w hj => ?_⟩
  rw [List.getElem?_set] at hj
  by_cases q0 : i + 1 = j
  · rw [if_pos q0] at hj
    split at hj
    · cases hj
    · cases hj
  rw [if_neg q0, List.getElem?_set] at hj
  by_cases q : i = j
  · rw [if_pos q] at hj
    subst q
    by_cases q2 : i < lv.length
    · rw [if_pos q2] at hj
      cases hj
      exact h3 (i, v) List.mem_cons_self
    · rw [if_neg q2] at hj
      cases hj
  · rw [if_neg q] at hj
    refine h3 (j, w) (List.mem_cons_of_mem _ (List.mem_filter.mpr ⟨lz_mem.mpr hj, ?_⟩))
    have h5 : ¬ (j = i) := fun z => q z.symm
    have h8 : ¬ (j = i + 1) := fun z => q0 z.symm
    by_cases h6 : j + 1 = i
    · have h7 := lvok_spec hp hj h6
      simp [h5, h7, h8]
    · simp [h5, h6, h8]
def lvm : List Bool → List (Option Value) → List (Option Value)
  | true :: bs, v :: vs => v :: lvm bs vs
  | false :: bs, _ :: vs => none :: lvm bs vs
  | _, _ => []
theorem lvm_spec : ∀ (bs : List Bool) (lv : List (Option Value)) (i : Nat) (v : Value), (lvm bs lv)[i]? = some (some v) → lv[i]? = some (some v)
  | true :: bs, x :: vs, 0, v, h => h
  | true :: bs, x :: vs, i + 1, v, h => lvm_spec bs vs i v h
  | false :: bs, x :: vs, 0, v, h => by cases h
  | false :: bs, x :: vs, i + 1, v, h => lvm_spec bs vs i v h
  | [], _, i, v, h => by simp [lvm] at h
  | true :: _, [], i, v, h => by simp [lvm] at h
  | false :: _, [], i, v, h => by simp [lvm] at h
/-- the locals with which a frame begins -/
def lvE (av : List Value) : List (Option Value) := av.flatMap (fun v => if v.category = 2 then [some v, none] else [some v])
theorem lvE_args : ∀ (av : List Value) (o i : Nat) (v : Value), (lvE av)[i]? = some (some v) → (o + i, v) ∈ lv_args o av
  | [], o, i, v, h => by simp [lvE] at h
  | a :: av, o, i, v, h => by
    have e : lvE (a :: av) = (if a.category = 2 then [some a, none] else [some a]) ++ lvE av := rfl
    rw [e] at h
    by_cases q : a.category = 2
    · rw [if_pos q] at h
      show (o + i, v) ∈ (o, a) :: lv_args (if a.category = 2 then o + 2 else o + 1) av
      rw [if_pos q]
      match i, h with
      | 0, h => cases h; exact List.mem_cons_self
      | 1, h => cases h
      | i + 2, h =>
        have := lvE_args av (o + 2) i v h
        rw [show o + (i + 2) = o + 2 + i by omega]
        exact List.mem_cons_of_mem _ this
    · rw [if_neg q] at h
      show (o + i, v) ∈ (o, a) :: lv_args (if a.category = 2 then o + 2 else o + 1) av
      rw [if_neg q]
      match i, h with
      | 0, h => cases h; exact List.mem_cons_self
      | i + 1, h =>
        have := lvE_args av (o + 1) i v h
        rw [show o + (i + 1) = o + 1 + i by omega]
        exact List.mem_cons_of_mem _ this
theorem lvE_pad {av : List Value} {r i : Nat} {v : Value} (h : (lvE av ++ List.replicate r none)[i]? = some (some v)) : (lvE av)[i]? = some (some v) := by
  by_cases q : i < (lvE av).length
  · rw [List.getElem?_append_left q] at h
    exact h
  · rw [List.getElem?_append_right (by omega), List.getElem?_replicate] at h
    split at h
    · cases h
    · cases h
theorem lh_entry {av : List Value} {n r : Nat} {lv : List (Option Value)} (hl : (lg_sl av).length ≤ n) (hv : lvE av ++ List.replicate r none = lv) : lh ((lg_sl av ++ List.replicate (n - (lg_sl av).length) Slot.unset).toArray) n lv := by
  obtain ⟨h1, h2, h3⟩ := lv_entry av hl
  refine ⟨h1, h2, fun i v h => ?_⟩
  have h4 := lvE_args av 0 i v (lvE_pad (by rw [hv]; exact h))
  rw [Nat.zero_add] at h4
  exact h3 _ h4
def G (p : Program) (l : Launch) (e : Env) (R : Room) (s : State) (m : MethodId) (args : Array Value) (below : List Frame) (meth : Method) (c : Code) (D : va_G) (A : Nat → Prop) (nL : Nat) (Q : State → Prop) (k n : Nat) (ws : va_W) (lv : List (Option Value)) (pc : Nat) (st : List Value) : Prop :=
  ∀ (H : Heap) (locs : List Loc) (ls : Array Slot), va_P D vwCl ws H → va_D A ws → va_S A s.heap H locs → lh ls nL lv → W p l e R s m args below meth c H locs k n Q (F0 m pc ls st)
def CX (p : Program) (s : State) (m : MethodId) (args : Array Value) (meth : Method) (c : Code) (cc : ByteArray) (own : String) (Ts : List Cond) (D : va_G) (tys : List (ClassId × FieldType)) (A : Nat → Prop) (nL : Nat) : Prop :=
  p.tables.exec = Jvm.exec ∧ c.code = cc ∧ c.maxLocals = nL ∧ s.vm.findClass own = some m.cls ∧ (∀ w ∈ Ts, w.before args s = true) ∧ va_K D vwCl tys s ∧ (∀ q, s.heap.size ≤ q → A q) ∧ meth.locks = false
variable {cc : ByteArray} {own : String} {Ts : List Cond} {D : va_G} {tys : List (ClassId × FieldType)} {A : Nat → Prop} {nL : Nat} {ws : va_W} {lv : List (Option Value)} {pc : Nat} {st : List Value}
theorem CX.fix (C : CX p s m args meth c cc own Ts D tys A nL) : CallFix p m c cc nL s args Ts own := ⟨C.1, C.2.1, C.2.2.1, C.2.2.2.1, C.2.2.2.2.1⟩
theorem CX.ts (C : CX p s m args meth c cc own Ts D tys A nL) : ∀ w ∈ Ts, w.before args s = true := C.2.2.2.2.1
theorem CX.hK (C : CX p s m args meth c cc own Ts D tys A nL) : va_K D vwCl tys s := C.2.2.2.2.2.1
theorem CX.hA (C : CX p s m args meth c cc own Ts D tys A nL) : ∀ q, s.heap.size ≤ q → A q := C.2.2.2.2.2.2.1
theorem CX.lk (C : CX p s m args meth c cc own Ts D tys A nL) : meth.locks = false := C.2.2.2.2.2.2.2
/-- the same, the world or the place of the program counter said otherwise -/
theorem g_w {ws' : va_W} (h : ws = ws') (kk : G p l e R s m args below meth c D A nL Q k n ws' lv pc st) : G p l e R s m args below meth c D A nL Q k n ws lv pc st := h ▸ kk
theorem g_st {st' : List Value} (h : st = st') (kk : G p l e R s m args below meth c D A nL Q k n ws lv pc st') : G p l e R s m args below meth c D A nL Q k n ws lv pc st := h ▸ kk
theorem g_lv {lv' : List (Option Value)} (h : lv = lv') (kk : G p l e R s m args below meth c D A nL Q k n ws lv' pc st) : G p l e R s m args below meth c D A nL Q k n ws lv pc st := h ▸ kk
theorem g_mask {lv' : List (Option Value)} (bs : List Bool) (h : lvm bs lv = lv') (kk : G p l e R s m args below meth c D A nL Q k n ws lv' pc st) : G p l e R s m args below meth c D A nL Q k n ws lv pc st :=
  fun H locs ls hP hD hS hl => kk H locs ls hP hD hS ⟨hl.1, hl.2.1, fun i v hi => hl.2.2 i v (lvm_spec bs lv i v (by rw [h]; exact hi))⟩
theorem g_widen {k' n' : Nat} (h1 : k ≤ k') (h2 : n ≤ n') (kk : G p l e R s m args below meth c D A nL Q k' n' ws lv pc st) : G p l e R s m args below meth c D A nL Q k n ws lv pc st :=
  fun H locs ls hP hD hS hl => W.widen h1 h2 (kk H locs ls hP hD hS hl)
theorem g_swap {w1 w2 : va_W} (kk : G p l e R s m args below meth c D A nL Q k n (w2 ++ w1) lv pc st) : G p l e R s m args below meth c D A nL Q k n (w1 ++ w2) lv pc st :=
  fun H locs ls hP hD hS hl => kk H locs ls (va_P.swap (a := []) hP) (va_D.swap (a := []) hD) hS hl
/-- a place where ways meet -/
theorem g_join {σ : Type} (I : σ → Prop) (wf : σ → va_W) (lf : σ → List (Option Value)) (sf : σ → List Value) (pc' k' n' : Nat) (hJ : ∀ x, I x → G p l e R s m args below meth c D A nL Q k' n' (wf x) (lf x) pc' (sf x))
    (kk : (∀ x, I x → G p l e R s m args below meth c D A nL Q k' n' (wf x) (lf x) pc' (sf x)) → G p l e R s m args below meth c D A nL Q k n ws lv pc st) : G p l e R s m args below meth c D A nL Q k n ws lv pc st := kk hJ
/-- a loop: a state x, what holds of it, world and locals at the head, a measure that falls -/
theorem g_loop {σ : Type} (x0 : σ) (I : σ → Prop) (wf : σ → va_W) (lf : σ → List (Option Value)) (μ : σ → Nat) (hI : I x0) (hw : ws = wf x0) (hl : lv = lf x0)
    (step : ∀ x, I x → (∀ y, I y → μ y < μ x → G p l e R s m args below meth c D A nL Q k n (wf y) (lf y) pc st) → G p l e R s m args below meth c D A nL Q k n (wf x) (lf x) pc st) : G p l e R s m args below meth c D A nL Q k n ws lv pc st := by
  have key : ∀ (N : Nat) (x : σ), μ x < N → I x → G p l e R s m args below meth c D A nL Q k n (wf x) (lf x) pc st := by
    intro N
    induction N with
    | zero => intro x h; exact absurd h (Nat.not_lt_zero _)
    | succ N ih => intro x h hx; exact step x hx (fun y hy hm => ih y (by omega) hy)
  subst hw
  subst hl
  exact key _ x0 (Nat.lt_succ_self _) hI

theorem g_iconst (C : CX p s m args meth c cc own Ts D tys A nL) {i : Int} (v : Int32) (hdg : decode cc pc = .ok (.iconst i, 1)) (hv : Int32.ofInt i = v) (kk : G p l e R s m args below meth c D A nL Q k n ws lv (pc + 1) (.int v :: st)) : G p l e R s m args below meth c D A nL Q k n ws lv pc (st) :=
  fun H locs ls hP hD hS hl => lv_iconst C.1 C.2.1 hdg hv (kk H locs ls hP hD hS hl)
theorem g_bipush (C : CX p s m args meth c cc own Ts D tys A nL) {i : Int} (v : Int32) (hdg : decode cc pc = .ok (.bipush i, 2)) (hv : (Int8.ofInt i).toInt32 = v) (kk : G p l e R s m args below meth c D A nL Q k n ws lv (pc + 2) (.int v :: st)) : G p l e R s m args below meth c D A nL Q k n ws lv pc (st) :=
  fun H locs ls hP hD hS hl => lv_bipush C.1 C.2.1 hdg hv (kk H locs ls hP hD hS hl)
theorem g_sipush (C : CX p s m args meth c cc own Ts D tys A nL) {i : Int} (v : Int32) (hdg : decode cc pc = .ok (.sipush i, 3)) (hv : (Int16.ofInt i).toInt32 = v) (kk : G p l e R s m args below meth c D A nL Q k n ws lv (pc + 3) (.int v :: st)) : G p l e R s m args below meth c D A nL Q k n ws lv pc (st) :=
  fun H locs ls hP hD hS hl => lv_sipush C.1 C.2.1 hdg hv (kk H locs ls hP hD hS hl)
theorem g_lconst (C : CX p s m args meth c cc own Ts D tys A nL) {i : Fin 2} (v : Int64) (hdg : decode cc pc = .ok (.lconst i, 1)) (hv : Int64.ofNat (i : Nat) = v) (kk : G p l e R s m args below meth c D A nL Q k n ws lv (pc + 1) (.long v :: st)) : G p l e R s m args below meth c D A nL Q k n ws lv pc (st) :=
  fun H locs ls hP hD hS hl => lv_lconst C.1 C.2.1 hdg hv (kk H locs ls hP hD hS hl)
theorem g_ldc (C : CX p s m args meth c cc own Ts D tys A nL) {index : Nat} {v : Int32} (hc : (Jvm.Cond.constant own index v).before args s = true) (hdg : decode cc pc = .ok (.ldc index, 2)) (kk : G p l e R s m args below meth c D A nL Q k n ws lv (pc + 2) (.int v :: st)) : G p l e R s m args below meth c D A nL Q k n ws lv pc (st) :=
  fun H locs ls hP hD hS hl => lv_ldc C.1 C.2.1 C.2.2.2.1 hc hdg (kk H locs ls hP hD hS hl)
theorem g_ldc2 (C : CX p s m args meth c cc own Ts D tys A nL) {index : Nat} {v : Int64} (hc : (Jvm.Cond.constantLong own index v).before args s = true) (hdg : decode cc pc = .ok (.ldc2_w index, 3)) (kk : G p l e R s m args below meth c D A nL Q k n ws lv (pc + 3) (.long v :: st)) : G p l e R s m args below meth c D A nL Q k n ws lv pc (st) :=
  fun H locs ls hP hD hS hl => lv_ldc2 C.1 C.2.1 C.2.2.2.1 hc hdg (kk H locs ls hP hD hS hl)
theorem g_iload_n (C : CX p s m args meth c cc own Ts D tys A nL) {i : Fin 4} {x : Int32} (hdg : decode cc pc = .ok (.iload_n i, 1)) (hx : lv[(i : Nat)]? = some (some (.int x))) (kk : G p l e R s m args below meth c D A nL Q k n ws lv (pc + 1) (.int x :: st)) : G p l e R s m args below meth c D A nL Q k n ws lv pc (st) :=
  fun H locs ls hP hD hS hl => lv_iload_n C.1 C.2.1 hdg rfl (hl.2.2 _ _ hx) (kk H locs ls hP hD hS hl)
theorem g_iload (C : CX p s m args meth c cc own Ts D tys A nL) {i : Nat} {x : Int32} (hdg : decode cc pc = .ok (.iload i, 2)) (hx : lv[i]? = some (some (.int x))) (kk : G p l e R s m args below meth c D A nL Q k n ws lv (pc + 2) (.int x :: st)) : G p l e R s m args below meth c D A nL Q k n ws lv pc (st) :=
  fun H locs ls hP hD hS hl => lv_iload C.1 C.2.1 hdg (hl.2.2 _ _ hx) (kk H locs ls hP hD hS hl)
theorem g_lload_n (C : CX p s m args meth c cc own Ts D tys A nL) {i : Fin 4} {x : Int64} (hdg : decode cc pc = .ok (.lload_n i, 1)) (hx : lv[(i : Nat)]? = some (some (.long x))) (kk : G p l e R s m args below meth c D A nL Q k n ws lv (pc + 1) (.long x :: st)) : G p l e R s m args below meth c D A nL Q k n ws lv pc (st) :=
  fun H locs ls hP hD hS hl => lv_lload_n C.1 C.2.1 hdg rfl (hl.2.2 _ _ hx) (kk H locs ls hP hD hS hl)
theorem g_lload (C : CX p s m args meth c cc own Ts D tys A nL) {i : Nat} {x : Int64} (hdg : decode cc pc = .ok (.lload i, 2)) (hx : lv[i]? = some (some (.long x))) (kk : G p l e R s m args below meth c D A nL Q k n ws lv (pc + 2) (.long x :: st)) : G p l e R s m args below meth c D A nL Q k n ws lv pc (st) :=
  fun H locs ls hP hD hS hl => lv_lload C.1 C.2.1 hdg (hl.2.2 _ _ hx) (kk H locs ls hP hD hS hl)
theorem g_aload_n (C : CX p s m args meth c cc own Ts D tys A nL) {i : Fin 4} {x : Nat} (hdg : decode cc pc = .ok (.aload_n i, 1)) (hx : lv[(i : Nat)]? = some (some (.ref x))) (kk : G p l e R s m args below meth c D A nL Q k n ws lv (pc + 1) (.ref x :: st)) : G p l e R s m args below meth c D A nL Q k n ws lv pc (st) :=
  fun H locs ls hP hD hS hl => lv_aload_n C.1 C.2.1 hdg rfl (hl.2.2 _ _ hx) (kk H locs ls hP hD hS hl)
theorem g_aload (C : CX p s m args meth c cc own Ts D tys A nL) {i : Nat} {x : Nat} (hdg : decode cc pc = .ok (.aload i, 2)) (hx : lv[i]? = some (some (.ref x))) (kk : G p l e R s m args below meth c D A nL Q k n ws lv (pc + 2) (.ref x :: st)) : G p l e R s m args below meth c D A nL Q k n ws lv pc (st) :=
  fun H locs ls hP hD hS hl => lv_aload C.1 C.2.1 hdg (hl.2.2 _ _ hx) (kk H locs ls hP hD hS hl)
theorem g_istore_n (C : CX p s m args meth c cc own Ts D tys A nL) {i : Fin 4} {x : Int32} (lv' : List (Option Value)) (hdg : decode cc pc = .ok (.istore_n i, 1)) (hi : (i : Nat) < nL) (hp : lvok lv (i : Nat) = true) (hl' : (lv.set (i : Nat) (some (.int x))) = lv') (kk : G p l e R s m args below meth c D A nL Q k n ws lv' (pc + 1) (st)) : G p l e R s m args below meth c D A nL Q k n ws lv pc (.int x :: st) := by
  intro H locs ls hP hD hS hl
  obtain ⟨ls', e', h'⟩ := lh_set1 (v := .int x) hl hi rfl hp
  have hexec := C.1
  have hb := C.2.1
  intro T hT X
  obtain ⟨t, a, b⟩ := kk H locs ls' hP hD hS (hl' ▸ h') T hT X
  refine ⟨t, ?_, b⟩
  jvm_step X.here [X.here.top, ↓top_set X.here.top, hexec, hb, hdg, e']
  exact a
theorem g_istore (C : CX p s m args meth c cc own Ts D tys A nL) {i : Nat} {x : Int32} (lv' : List (Option Value)) (hdg : decode cc pc = .ok (.istore i, 2)) (hi : i < nL) (hp : lvok lv i = true) (hl' : (lv.set i (some (.int x))) = lv') (kk : G p l e R s m args below meth c D A nL Q k n ws lv' (pc + 2) (st)) : G p l e R s m args below meth c D A nL Q k n ws lv pc (.int x :: st) := by
  intro H locs ls hP hD hS hl
  obtain ⟨ls', e', h'⟩ := lh_set1 (v := .int x) hl hi rfl hp
  have hexec := C.1
  have hb := C.2.1
  intro T hT X
  obtain ⟨t, a, b⟩ := kk H locs ls' hP hD hS (hl' ▸ h') T hT X
  refine ⟨t, ?_, b⟩
  jvm_step X.here [X.here.top, ↓top_set X.here.top, hexec, hb, hdg, e']
  exact a
theorem g_astore_n (C : CX p s m args meth c cc own Ts D tys A nL) {i : Fin 4} {x : Nat} (lv' : List (Option Value)) (hdg : decode cc pc = .ok (.astore_n i, 1)) (hi : (i : Nat) < nL) (hp : lvok lv (i : Nat) = true) (hl' : (lv.set (i : Nat) (some (.ref x))) = lv') (kk : G p l e R s m args below meth c D A nL Q k n ws lv' (pc + 1) (st)) : G p l e R s m args below meth c D A nL Q k n ws lv pc (.ref x :: st) := by
  intro H locs ls hP hD hS hl
  obtain ⟨ls', e', h'⟩ := lh_set1 (v := .ref x) hl hi rfl hp
  have hexec := C.1
  have hb := C.2.1
  intro T hT X
  obtain ⟨t, a, b⟩ := kk H locs ls' hP hD hS (hl' ▸ h') T hT X
  refine ⟨t, ?_, b⟩
  jvm_step X.here [X.here.top, ↓top_set X.here.top, hexec, hb, hdg, e']
  exact ⟨rfl, a⟩
theorem g_astore (C : CX p s m args meth c cc own Ts D tys A nL) {i : Nat} {x : Nat} (lv' : List (Option Value)) (hdg : decode cc pc = .ok (.astore i, 2)) (hi : i < nL) (hp : lvok lv i = true) (hl' : (lv.set i (some (.ref x))) = lv') (kk : G p l e R s m args below meth c D A nL Q k n ws lv' (pc + 2) (st)) : G p l e R s m args below meth c D A nL Q k n ws lv pc (.ref x :: st) := by
  intro H locs ls hP hD hS hl
  obtain ⟨ls', e', h'⟩ := lh_set1 (v := .ref x) hl hi rfl hp
  have hexec := C.1
  have hb := C.2.1
  intro T hT X
  obtain ⟨t, a, b⟩ := kk H locs ls' hP hD hS (hl' ▸ h') T hT X
  refine ⟨t, ?_, b⟩
  jvm_step X.here [X.here.top, ↓top_set X.here.top, hexec, hb, hdg, e']
  exact ⟨rfl, a⟩
theorem g_lstore_n (C : CX p s m args meth c cc own Ts D tys A nL) {i : Fin 4} {x : Int64} (lv' : List (Option Value)) (hdg : decode cc pc = .ok (.lstore_n i, 1)) (hi : (i : Nat) + 1 < nL) (hp : lvok lv (i : Nat) = true) (hl' : ((lv.set (i : Nat) (some (.long x))).set ((i : Nat) + 1) none) = lv') (kk : G p l e R s m args below meth c D A nL Q k n ws lv' (pc + 1) (st)) : G p l e R s m args below meth c D A nL Q k n ws lv pc (.long x :: st) := by
  intro H locs ls hP hD hS hl
  obtain ⟨ls', e', h'⟩ := lh_set2 (v := .long x) hl hi rfl hp
  have hexec := C.1
  have hb := C.2.1
  intro T hT X
  obtain ⟨t, a, b⟩ := kk H locs ls' hP hD hS (hl' ▸ h') T hT X
  refine ⟨t, ?_, b⟩
  jvm_step X.here [X.here.top, ↓top_set X.here.top, hexec, hb, hdg, e']
  exact a
theorem g_lstore (C : CX p s m args meth c cc own Ts D tys A nL) {i : Nat} {x : Int64} (lv' : List (Option Value)) (hdg : decode cc pc = .ok (.lstore i, 2)) (hi : i + 1 < nL) (hp : lvok lv i = true) (hl' : ((lv.set i (some (.long x))).set (i + 1) none) = lv') (kk : G p l e R s m args below meth c D A nL Q k n ws lv' (pc + 2) (st)) : G p l e R s m args below meth c D A nL Q k n ws lv pc (.long x :: st) := by
  intro H locs ls hP hD hS hl
  obtain ⟨ls', e', h'⟩ := lh_set2 (v := .long x) hl hi rfl hp
  have hexec := C.1
  have hb := C.2.1
  intro T hT X
  obtain ⟨t, a, b⟩ := kk H locs ls' hP hD hS (hl' ▸ h') T hT X
  refine ⟨t, ?_, b⟩
  jvm_step X.here [X.here.top, ↓top_set X.here.top, hexec, hb, hdg, e']
  exact a
theorem g_iinc (C : CX p s m args meth c cc own Ts D tys A nL) {i : Nat} {j : Int} {x : Int32} (v : Int32) (lv' : List (Option Value)) (hdg : decode cc pc = .ok (.iinc i j, 3)) (hx : lv[i]? = some (some (.int x))) (hv : x + Int32.ofInt j = v) (hi : i < nL) (hp : lvok lv i = true) (hl' : lv.set i (some (.int v)) = lv') (kk : G p l e R s m args below meth c D A nL Q k n ws lv' (pc + 3) (st)) : G p l e R s m args below meth c D A nL Q k n ws lv pc (st) := by
  intro H locs ls hP hD hS hl
  subst hv
  obtain ⟨ls', e', h'⟩ := lh_set1 (v := .int (x + Int32.ofInt j)) hl hi rfl hp
  have hexec := C.1
  have hb := C.2.1
  have hx' := hl.2.2 _ _ hx
  intro T hT X
  obtain ⟨t, a, b⟩ := kk H locs ls' hP hD hS (hl' ▸ h') T hT X
  refine ⟨t, ?_, b⟩
  jvm_step X.here [X.here.top, ↓top_set X.here.top, hexec, hb, hdg, hx', e']
  exact a
theorem g_iadd (C : CX p s m args meth c cc own Ts D tys A nL) {x y : Int32} (v : Int32) (hdg : decode cc pc = .ok (.iadd, 1)) (hv : x + y = v) (kk : G p l e R s m args below meth c D A nL Q k n ws lv (pc + 1) (.int v :: st)) : G p l e R s m args below meth c D A nL Q k n ws lv pc (.int y :: .int x :: st) :=
  fun H locs ls hP hD hS hl => lv_iadd C.1 C.2.1 hdg (hv ▸ (kk H locs ls hP hD hS hl))
theorem g_isub (C : CX p s m args meth c cc own Ts D tys A nL) {x y : Int32} (v : Int32) (hdg : decode cc pc = .ok (.isub, 1)) (hv : x - y = v) (kk : G p l e R s m args below meth c D A nL Q k n ws lv (pc + 1) (.int v :: st)) : G p l e R s m args below meth c D A nL Q k n ws lv pc (.int y :: .int x :: st) :=
  fun H locs ls hP hD hS hl => lv_isub C.1 C.2.1 hdg (hv ▸ (kk H locs ls hP hD hS hl))
theorem g_imul (C : CX p s m args meth c cc own Ts D tys A nL) {x y : Int32} (v : Int32) (hdg : decode cc pc = .ok (.imul, 1)) (hv : x * y = v) (kk : G p l e R s m args below meth c D A nL Q k n ws lv (pc + 1) (.int v :: st)) : G p l e R s m args below meth c D A nL Q k n ws lv pc (.int y :: .int x :: st) :=
  fun H locs ls hP hD hS hl => lv_imul C.1 C.2.1 hdg (hv ▸ (kk H locs ls hP hD hS hl))
theorem g_iand (C : CX p s m args meth c cc own Ts D tys A nL) {x y : Int32} (v : Int32) (hdg : decode cc pc = .ok (.iand, 1)) (hv : x &&& y = v) (kk : G p l e R s m args below meth c D A nL Q k n ws lv (pc + 1) (.int v :: st)) : G p l e R s m args below meth c D A nL Q k n ws lv pc (.int y :: .int x :: st) :=
  fun H locs ls hP hD hS hl => lv_iand C.1 C.2.1 hdg (hv ▸ (kk H locs ls hP hD hS hl))
theorem g_ior (C : CX p s m args meth c cc own Ts D tys A nL) {x y : Int32} (v : Int32) (hdg : decode cc pc = .ok (.ior, 1)) (hv : x ||| y = v) (kk : G p l e R s m args below meth c D A nL Q k n ws lv (pc + 1) (.int v :: st)) : G p l e R s m args below meth c D A nL Q k n ws lv pc (.int y :: .int x :: st) :=
  fun H locs ls hP hD hS hl => lv_ior C.1 C.2.1 hdg (hv ▸ (kk H locs ls hP hD hS hl))
theorem g_idiv (C : CX p s m args meth c cc own Ts D tys A nL) {x y : Int32} (v : Int32) (hdg : decode cc pc = .ok (.idiv, 1)) (hne : ¬ y = 0) (hv : x / y = v) (kk : G p l e R s m args below meth c D A nL Q k n ws lv (pc + 1) (.int v :: st)) : G p l e R s m args below meth c D A nL Q k n ws lv pc (.int y :: .int x :: st) :=
  fun H locs ls hP hD hS hl => lv_idiv C.1 C.2.1 hdg hne (hv ▸ (kk H locs ls hP hD hS hl))
theorem g_ineg (C : CX p s m args meth c cc own Ts D tys A nL) {x : Int32} (v : Int32) (hdg : decode cc pc = .ok (.ineg, 1)) (hv : -x = v) (kk : G p l e R s m args below meth c D A nL Q k n ws lv (pc + 1) (.int v :: st)) : G p l e R s m args below meth c D A nL Q k n ws lv pc (.int x :: st) :=
  fun H locs ls hP hD hS hl => lv_ineg C.1 C.2.1 hdg (hv ▸ (kk H locs ls hP hD hS hl))
theorem g_ishl (C : CX p s m args meth c cc own Ts D tys A nL) {x y : Int32} (v : Int32) (hdg : decode cc pc = .ok (.ishl, 1)) (hv : x <<< (y &&& 31) = v) (kk : G p l e R s m args below meth c D A nL Q k n ws lv (pc + 1) (.int v :: st)) : G p l e R s m args below meth c D A nL Q k n ws lv pc (.int y :: .int x :: st) :=
  fun H locs ls hP hD hS hl => lv_ishl C.1 C.2.1 hdg (hv ▸ (kk H locs ls hP hD hS hl))
theorem g_ladd (C : CX p s m args meth c cc own Ts D tys A nL) {x y : Int64} (v : Int64) (hdg : decode cc pc = .ok (.ladd, 1)) (hv : x + y = v) (kk : G p l e R s m args below meth c D A nL Q k n ws lv (pc + 1) (.long v :: st)) : G p l e R s m args below meth c D A nL Q k n ws lv pc (.long y :: .long x :: st) :=
  fun H locs ls hP hD hS hl => lv_ladd C.1 C.2.1 hdg (hv ▸ (kk H locs ls hP hD hS hl))
theorem g_i2l (C : CX p s m args meth c cc own Ts D tys A nL) {x : Int32} (v : Int64) (hdg : decode cc pc = .ok (.i2l, 1)) (hv : x.toInt64 = v) (kk : G p l e R s m args below meth c D A nL Q k n ws lv (pc + 1) (.long v :: st)) : G p l e R s m args below meth c D A nL Q k n ws lv pc (.int x :: st) :=
  fun H locs ls hP hD hS hl => lv_i2l C.1 C.2.1 hdg hv (kk H locs ls hP hD hS hl)
theorem g_l2i (C : CX p s m args meth c cc own Ts D tys A nL) {x : Int64} (v : Int32) (hdg : decode cc pc = .ok (.l2i, 1)) (hv : x.toInt32 = v) (kk : G p l e R s m args below meth c D A nL Q k n ws lv (pc + 1) (.int v :: st)) : G p l e R s m args below meth c D A nL Q k n ws lv pc (.long x :: st) :=
  fun H locs ls hP hD hS hl => lv_l2i C.1 C.2.1 hdg hv (kk H locs ls hP hD hS hl)
theorem g_lcmp (C : CX p s m args meth c cc own Ts D tys A nL) {x y : Int64} (hdg : decode cc pc = .ok (.lcmp, 1)) (kk : G p l e R s m args below meth c D A nL Q k n ws lv (pc + 1) (.int (lg_cmp x y) :: st)) : G p l e R s m args below meth c D A nL Q k n ws lv pc (.long y :: .long x :: st) :=
  fun H locs ls hP hD hS hl => W.lcmp C.1 C.2.1 hdg (kk H locs ls hP hD hS hl)
theorem g_dup (C : CX p s m args meth c cc own Ts D tys A nL) {va : Value} (hdg : decode cc pc = .ok (.dup, 1)) (hva : va.category = 1) (kk : G p l e R s m args below meth c D A nL Q k n ws lv (pc + 1) (va :: va :: st)) : G p l e R s m args below meth c D A nL Q k n ws lv pc (va :: st) :=
  fun H locs ls hP hD hS hl => lv_dup C.1 C.2.1 hdg hva (kk H locs ls hP hD hS hl)
theorem g_pop (C : CX p s m args meth c cc own Ts D tys A nL) {va : Value} (hdg : decode cc pc = .ok (.pop, 1)) (hva : va.category = 1) (kk : G p l e R s m args below meth c D A nL Q k n ws lv (pc + 1) (st)) : G p l e R s m args below meth c D A nL Q k n ws lv pc (va :: st) :=
  fun H locs ls hP hD hS hl => lv_pop C.1 C.2.1 hdg hva (kk H locs ls hP hD hS hl)
theorem g_dup_x1 (C : CX p s m args meth c cc own Ts D tys A nL) {va vb : Value} (hdg : decode cc pc = .ok (.dup_x1, 1)) (hva : va.category = 1) (hvb : vb.category = 1) (kk : G p l e R s m args below meth c D A nL Q k n ws lv (pc + 1) (va :: vb :: va :: st)) : G p l e R s m args below meth c D A nL Q k n ws lv pc (va :: vb :: st) :=
  fun H locs ls hP hD hS hl => lv_dup_x1 C.1 C.2.1 hdg hva hvb (kk H locs ls hP hD hS hl)
theorem g_dup_x2 (C : CX p s m args meth c cc own Ts D tys A nL) {va vb vd : Value} (hdg : decode cc pc = .ok (.dup_x2, 1)) (hva : va.category = 1) (hvb : vb.category = 1) (hvd : vd.category = 1) (kk : G p l e R s m args below meth c D A nL Q k n ws lv (pc + 1) (va :: vb :: vd :: va :: st)) : G p l e R s m args below meth c D A nL Q k n ws lv pc (va :: vb :: vd :: st) :=
  fun H locs ls hP hD hS hl => lv_dup_x2 C.1 C.2.1 hdg hva hvb hvd (kk H locs ls hP hD hS hl)
theorem g_dup2 (C : CX p s m args meth c cc own Ts D tys A nL) {va vb : Value} (hdg : decode cc pc = .ok (.dup2, 1)) (hva : va.category = 1) (hvb : vb.category = 1) (kk : G p l e R s m args below meth c D A nL Q k n ws lv (pc + 1) (va :: vb :: va :: vb :: st)) : G p l e R s m args below meth c D A nL Q k n ws lv pc (va :: vb :: st) :=
  fun H locs ls hP hD hS hl => lv_dup2_11 C.1 C.2.1 hdg hva hvb (kk H locs ls hP hD hS hl)
theorem g_goto (C : CX p s m args meth c cc own Ts D tys A nL) {off : Int} (tgt : Nat) (hdg : decode cc pc = .ok (.goto off, 3)) (ht : (pc : Int) + off = (tgt : Int)) (kk : G p l e R s m args below meth c D A nL Q k n ws lv tgt (st)) : G p l e R s m args below meth c D A nL Q k n ws lv pc (st) :=
  fun H locs ls hP hD hS hl => lv_goto C.1 C.2.1 hdg ht (kk H locs ls hP hD hS hl)
-- branches
theorem g_if_eq (C : CX p s m args meth c cc own Ts D tys A nL) {x : Int32} {off : Int} (tgt : Nat) (hdg : decode cc pc = .ok (.ifCond .eq off, 3)) (ht : (pc : Int) + off = (tgt : Int)) (k1 : x = 0 → G p l e R s m args below meth c D A nL Q k n ws lv tgt (st)) (k2 : ¬ x = 0 → G p l e R s m args below meth c D A nL Q k n ws lv (pc + 3) (st)) : G p l e R s m args below meth c D A nL Q k n ws lv pc (.int x :: st) :=
  fun H locs ls hP hD hS hl => lv_if_eq C.1 C.2.1 hdg ht (fun q => k1 q H locs ls hP hD hS hl) (fun q => k2 q H locs ls hP hD hS hl)
theorem g_if_ne (C : CX p s m args meth c cc own Ts D tys A nL) {x : Int32} {off : Int} (tgt : Nat) (hdg : decode cc pc = .ok (.ifCond .ne off, 3)) (ht : (pc : Int) + off = (tgt : Int)) (k1 : ¬ x = 0 → G p l e R s m args below meth c D A nL Q k n ws lv tgt (st)) (k2 : x = 0 → G p l e R s m args below meth c D A nL Q k n ws lv (pc + 3) (st)) : G p l e R s m args below meth c D A nL Q k n ws lv pc (.int x :: st) :=
  fun H locs ls hP hD hS hl => lv_if_ne C.1 C.2.1 hdg ht (fun q => k1 q H locs ls hP hD hS hl) (fun q => k2 q H locs ls hP hD hS hl)
theorem g_if_lt (C : CX p s m args meth c cc own Ts D tys A nL) {x : Int32} {off : Int} (tgt : Nat) (hdg : decode cc pc = .ok (.ifCond .lt off, 3)) (ht : (pc : Int) + off = (tgt : Int)) (k1 : x < 0 → G p l e R s m args below meth c D A nL Q k n ws lv tgt (st)) (k2 : ¬ x < 0 → G p l e R s m args below meth c D A nL Q k n ws lv (pc + 3) (st)) : G p l e R s m args below meth c D A nL Q k n ws lv pc (.int x :: st) :=
  fun H locs ls hP hD hS hl => lv_if_lt C.1 C.2.1 hdg ht (fun q => k1 q H locs ls hP hD hS hl) (fun q => k2 q H locs ls hP hD hS hl)
theorem g_if_ge (C : CX p s m args meth c cc own Ts D tys A nL) {x : Int32} {off : Int} (tgt : Nat) (hdg : decode cc pc = .ok (.ifCond .ge off, 3)) (ht : (pc : Int) + off = (tgt : Int)) (k1 : 0 ≤ x → G p l e R s m args below meth c D A nL Q k n ws lv tgt (st)) (k2 : ¬ 0 ≤ x → G p l e R s m args below meth c D A nL Q k n ws lv (pc + 3) (st)) : G p l e R s m args below meth c D A nL Q k n ws lv pc (.int x :: st) :=
  fun H locs ls hP hD hS hl => lv_if_ge C.1 C.2.1 hdg ht (fun q => k1 q H locs ls hP hD hS hl) (fun q => k2 q H locs ls hP hD hS hl)
theorem g_if_gt (C : CX p s m args meth c cc own Ts D tys A nL) {x : Int32} {off : Int} (tgt : Nat) (hdg : decode cc pc = .ok (.ifCond .gt off, 3)) (ht : (pc : Int) + off = (tgt : Int)) (k1 : 0 < x → G p l e R s m args below meth c D A nL Q k n ws lv tgt (st)) (k2 : ¬ 0 < x → G p l e R s m args below meth c D A nL Q k n ws lv (pc + 3) (st)) : G p l e R s m args below meth c D A nL Q k n ws lv pc (.int x :: st) :=
  fun H locs ls hP hD hS hl => lv_if_gt C.1 C.2.1 hdg ht (fun q => k1 q H locs ls hP hD hS hl) (fun q => k2 q H locs ls hP hD hS hl)
theorem g_if_le (C : CX p s m args meth c cc own Ts D tys A nL) {x : Int32} {off : Int} (tgt : Nat) (hdg : decode cc pc = .ok (.ifCond .le off, 3)) (ht : (pc : Int) + off = (tgt : Int)) (k1 : x ≤ 0 → G p l e R s m args below meth c D A nL Q k n ws lv tgt (st)) (k2 : ¬ x ≤ 0 → G p l e R s m args below meth c D A nL Q k n ws lv (pc + 3) (st)) : G p l e R s m args below meth c D A nL Q k n ws lv pc (.int x :: st) :=
  fun H locs ls hP hD hS hl => lv_if_le C.1 C.2.1 hdg ht (fun q => k1 q H locs ls hP hD hS hl) (fun q => k2 q H locs ls hP hD hS hl)
theorem g_icmp_eq (C : CX p s m args meth c cc own Ts D tys A nL) {x y : Int32} {off : Int} (tgt : Nat) (hdg : decode cc pc = .ok (.if_icmp .eq off, 3)) (ht : (pc : Int) + off = (tgt : Int)) (k1 : x = y → G p l e R s m args below meth c D A nL Q k n ws lv tgt (st)) (k2 : ¬ x = y → G p l e R s m args below meth c D A nL Q k n ws lv (pc + 3) (st)) : G p l e R s m args below meth c D A nL Q k n ws lv pc (.int y :: .int x :: st) :=
  fun H locs ls hP hD hS hl => lv_icmp_eq C.1 C.2.1 hdg ht (fun q => k1 q H locs ls hP hD hS hl) (fun q => k2 q H locs ls hP hD hS hl)
theorem g_icmp_ne (C : CX p s m args meth c cc own Ts D tys A nL) {x y : Int32} {off : Int} (tgt : Nat) (hdg : decode cc pc = .ok (.if_icmp .ne off, 3)) (ht : (pc : Int) + off = (tgt : Int)) (k1 : ¬ x = y → G p l e R s m args below meth c D A nL Q k n ws lv tgt (st)) (k2 : x = y → G p l e R s m args below meth c D A nL Q k n ws lv (pc + 3) (st)) : G p l e R s m args below meth c D A nL Q k n ws lv pc (.int y :: .int x :: st) :=
  fun H locs ls hP hD hS hl => lv_icmp_ne C.1 C.2.1 hdg ht (fun q => k1 q H locs ls hP hD hS hl) (fun q => k2 q H locs ls hP hD hS hl)
theorem g_icmp_lt (C : CX p s m args meth c cc own Ts D tys A nL) {x y : Int32} {off : Int} (tgt : Nat) (hdg : decode cc pc = .ok (.if_icmp .lt off, 3)) (ht : (pc : Int) + off = (tgt : Int)) (k1 : x < y → G p l e R s m args below meth c D A nL Q k n ws lv tgt (st)) (k2 : ¬ x < y → G p l e R s m args below meth c D A nL Q k n ws lv (pc + 3) (st)) : G p l e R s m args below meth c D A nL Q k n ws lv pc (.int y :: .int x :: st) :=
  fun H locs ls hP hD hS hl => lv_icmp_lt C.1 C.2.1 hdg ht (fun q => k1 q H locs ls hP hD hS hl) (fun q => k2 q H locs ls hP hD hS hl)
theorem g_icmp_ge (C : CX p s m args meth c cc own Ts D tys A nL) {x y : Int32} {off : Int} (tgt : Nat) (hdg : decode cc pc = .ok (.if_icmp .ge off, 3)) (ht : (pc : Int) + off = (tgt : Int)) (k1 : y ≤ x → G p l e R s m args below meth c D A nL Q k n ws lv tgt (st)) (k2 : ¬ y ≤ x → G p l e R s m args below meth c D A nL Q k n ws lv (pc + 3) (st)) : G p l e R s m args below meth c D A nL Q k n ws lv pc (.int y :: .int x :: st) :=
  fun H locs ls hP hD hS hl => lv_icmp_ge C.1 C.2.1 hdg ht (fun q => k1 q H locs ls hP hD hS hl) (fun q => k2 q H locs ls hP hD hS hl)
theorem g_icmp_gt (C : CX p s m args meth c cc own Ts D tys A nL) {x y : Int32} {off : Int} (tgt : Nat) (hdg : decode cc pc = .ok (.if_icmp .gt off, 3)) (ht : (pc : Int) + off = (tgt : Int)) (k1 : y < x → G p l e R s m args below meth c D A nL Q k n ws lv tgt (st)) (k2 : ¬ y < x → G p l e R s m args below meth c D A nL Q k n ws lv (pc + 3) (st)) : G p l e R s m args below meth c D A nL Q k n ws lv pc (.int y :: .int x :: st) :=
  fun H locs ls hP hD hS hl => lv_icmp_gt C.1 C.2.1 hdg ht (fun q => k1 q H locs ls hP hD hS hl) (fun q => k2 q H locs ls hP hD hS hl)
theorem g_icmp_le (C : CX p s m args meth c cc own Ts D tys A nL) {x y : Int32} {off : Int} (tgt : Nat) (hdg : decode cc pc = .ok (.if_icmp .le off, 3)) (ht : (pc : Int) + off = (tgt : Int)) (k1 : x ≤ y → G p l e R s m args below meth c D A nL Q k n ws lv tgt (st)) (k2 : ¬ x ≤ y → G p l e R s m args below meth c D A nL Q k n ws lv (pc + 3) (st)) : G p l e R s m args below meth c D A nL Q k n ws lv pc (.int y :: .int x :: st) :=
  fun H locs ls hP hD hS hl => lv_icmp_le C.1 C.2.1 hdg ht (fun q => k1 q H locs ls hP hD hS hl) (fun q => k2 q H locs ls hP hD hS hl)
theorem g_get (C : CX p s m args meth c cc own Ts D tys A nL) {a : Nat} (q0 : Nat) {ci : Nat} {fs : List Value} {Cn : String} {T : u_T} {N index : Nat} (hin : ∀ w ∈ u_ws Cn T N, w ∈ Ts) (he : ws[q0]? = some (a, .inr (ci, fs))) (hc : vwCl[ci]? = some (Cn, T, N)) (kf : Nat) (hk : kf < N) (hlink : (Cond.fieldLink own index (T kf).1 (T kf).2.1 (T kf).2.2.1).before args s = true) {v : Value} (hv : fs[kf]? = some v) (hdg : decode cc pc = .ok (.getfield index, 3)) (kk : G p l e R s m args below meth c D A nL Q k n ws lv (pc + 3) (v :: st)) : G p l e R s m args below meth c D A nL Q k n ws lv pc (.ref a :: st) :=
  fun H locs ls hP hD hS hl => va_get C.1 C.2.1 C.ts hin C.2.2.2.1 C.hK hP q0 he hc kf hk hlink (fun _ h => h) hv hdg (kk H locs ls hP hD hS hl)
theorem g_put (C : CX p s m args meth c cc own Ts D tys A nL) {a : Nat} (q0 : Nat) {ci : Nat} {fs : List Value} {Cn : String} {T : u_T} {N index : Nat} (hin : ∀ w ∈ u_ws Cn T N, w ∈ Ts) (he : ws[q0]? = some (a, .inr (ci, fs))) (hc : vwCl[ci]? = some (Cn, T, N)) (kf : Nat) (hk : kf < N) (hlink : (Cond.fieldLink own index (T kf).1 (T kf).2.1 (T kf).2.2.1).before args s = true) (hfin : (T kf).2.2.2 = false) (ty0 : Nat → FieldType) (hty : ∀ k, k < N → parseFieldDescriptor (T k).2.2.1 = some (ty0 k)) (hnm : ∀ a, a < N → ∀ b, b < N → a ≠ b → (T a).2.1 ≠ (T b).2.1) {ty : FieldType} {v : Value} (hd : parseFieldDescriptor (T kf).2.2.1 = some ty) (hn : narrow ty v = v) (hfit : fits ty v = true) (hlf : kf < fs.length) (ws' : va_W) (hws : ws.set q0 (a, .inr (ci, fs.set kf v)) = ws') (hdg : decode cc pc = .ok (.putfield index, 3)) (kk : G p l e R s m args below meth c D A nL Q k n ws' lv (pc + 3) (st)) : G p l e R s m args below meth c D A nL Q k n ws lv pc (v :: .ref a :: st) :=
  fun H locs ls hP hD hS hl => va_put C.1 C.2.1 C.ts hin ty0 hty hnm C.2.2.2.1 C.hK hP hD hS q0 he hc kf hk hlink (fun _ h => h) hfin hd hn hfit hlf hdg (fun H1 locs1 hP1 hD1 hS1 => kk H1 locs1 ls (hws ▸ hP1) (hws ▸ hD1) hS1 hl)
theorem g_putF (C : CX p s m args meth c cc own Ts D tys A nL) {a : Nat} (q0 : Nat) {ci : Nat} {fs : List Value} {Cn : String} {T : u_T} {N index : Nat} (hin : ∀ w ∈ u_ws Cn T N, w ∈ Ts) (he : ws[q0]? = some (a, .inr (ci, fs))) (hc : vwCl[ci]? = some (Cn, T, N)) (kf : Nat) (hk : kf < N) (hlink : (Cond.fieldLink own index (T kf).1 (T kf).2.1 (T kf).2.2.1).before args s = true) (hfin : (T kf).2.2.2 = true) (hini : meth.name = "<init>") (hdecl : (T kf).1 = own) (ty0 : Nat → FieldType) (hty : ∀ k, k < N → parseFieldDescriptor (T k).2.2.1 = some (ty0 k)) (hnm : ∀ a, a < N → ∀ b, b < N → a ≠ b → (T a).2.1 ≠ (T b).2.1) {ty : FieldType} {v : Value} (hd : parseFieldDescriptor (T kf).2.2.1 = some ty) (hn : narrow ty v = v) (hfit : fits ty v = true) (hlf : kf < fs.length) (ws' : va_W) (hws : ws.set q0 (a, .inr (ci, fs.set kf v)) = ws') (hdg : decode cc pc = .ok (.putfield index, 3)) (kk : G p l e R s m args below meth c D A nL Q k n ws' lv (pc + 3) (st)) : G p l e R s m args below meth c D A nL Q k n ws lv pc (v :: .ref a :: st) :=
  fun H locs ls hP hD hS hl => va_putF C.1 C.2.1 C.ts hin ty0 hty hnm C.2.2.2.1 C.hK hP hD hS q0 he hc kf hk hlink (fun _ h => h) hfin hini hdecl hd hn hfit hlf hdg (fun H1 locs1 hP1 hD1 hS1 => kk H1 locs1 ls (hws ▸ hP1) (hws ▸ hD1) hS1 hl)
theorem vin {i : Int32} {j N : Nat} (e : i = nI j) (h : j < N) (hN : N < 2 ^ 31) : vp_in i N := by rw [e]; exact vp_in_nI h hN
theorem vcl {i : Int32} {j N : Nat} (e : i = nI j) (h : j < N) (hN : N < 2 ^ 31) : i.toNatClampNeg = j := by rw [e]; exact nI_clamp (by omega)
theorem g_iald (C : CX p s m args meth c cc own Ts D tys A nL) {a : Nat} (q0 t0 : Nat) {cA : ClassId} {N : Nat} {f : Nat → Int32} (ha : ws[q0]? = some (a, .inl (cA, N, .inl f))) (ht : tys[t0]? = some (cA, .int)) {i : Int32} (j : Nat) (hj : i = nI j) (hlt : j < N) (hN : N < 2 ^ 31) (v : Int32) (hv : f j = v) (hdg : decode cc pc = .ok (.iaload, 1)) (kk : G p l e R s m args below meth c D A nL Q k n ws lv (pc + 1) (.int v :: st)) : G p l e R s m args below meth c D A nL Q k n ws lv pc (.int i :: .ref a :: st) :=
  fun H locs ls hP hD hS hl => va_iald C.1 C.2.1 C.hK hP q0 t0 ha ht (vin hj hlt hN) hdg (by rw [vcl hj hlt hN, hv]; exact (kk H locs ls hP hD hS hl))
theorem g_zald (C : CX p s m args meth c cc own Ts D tys A nL) {a : Nat} (q0 t0 : Nat) {cA : ClassId} {N : Nat} {f : Nat → Int32} (ha : ws[q0]? = some (a, .inl (cA, N, .inl f))) (ht : tys[t0]? = some (cA, .boolean)) {i : Int32} (j : Nat) (hj : i = nI j) (hlt : j < N) (hN : N < 2 ^ 31) (v : Int32) (hv : f j = v) (hdg : decode cc pc = .ok (.baload, 1)) (kk : G p l e R s m args below meth c D A nL Q k n ws lv (pc + 1) (.int v :: st)) : G p l e R s m args below meth c D A nL Q k n ws lv pc (.int i :: .ref a :: st) :=
  fun H locs ls hP hD hS hl => va_zald C.1 C.2.1 C.hK hP q0 t0 ha ht (vin hj hlt hN) hdg (by rw [vcl hj hlt hN, hv]; exact (kk H locs ls hP hD hS hl))
theorem g_iast (C : CX p s m args meth c cc own Ts D tys A nL) {a : Nat} (q0 t0 : Nat) {cA : ClassId} {N : Nat} {f : Nat → Int32} (ha : ws[q0]? = some (a, .inl (cA, N, .inl f))) (ht : tys[t0]? = some (cA, .int)) {i : Int32} (j : Nat) (hj : i = nI j) (hlt : j < N) (hN : N < 2 ^ 31) {x : Int32} (ws' : va_W) (hws : ws.set q0 (a, .inl (cA, N, .inl (upd f j x))) = ws') (hdg : decode cc pc = .ok (.iastore, 1)) (kk : G p l e R s m args below meth c D A nL Q k n ws' lv (pc + 1) (st)) : G p l e R s m args below meth c D A nL Q k n ws lv pc (.int x :: .int i :: .ref a :: st) :=
  fun H locs ls hP hD hS hl => va_iast C.1 C.2.1 C.hK hP hD hS q0 t0 ha ht (vin hj hlt hN) hdg (fun H1 locs1 hP1 hD1 hS1 => kk H1 locs1 ls (by rw [← hws, ← vcl hj hlt hN]; exact hP1) (by rw [← hws, ← vcl hj hlt hN]; exact hD1) hS1 hl)
theorem g_zast (C : CX p s m args meth c cc own Ts D tys A nL) {a : Nat} (q0 t0 : Nat) {cA : ClassId} {N : Nat} {f : Nat → Int32} (ha : ws[q0]? = some (a, .inl (cA, N, .inl f))) (ht : tys[t0]? = some (cA, .boolean)) {i : Int32} (j : Nat) (hj : i = nI j) (hlt : j < N) (hN : N < 2 ^ 31) {x : Int32} (ws' : va_W) (hws : ws.set q0 (a, .inl (cA, N, .inl (upd f j (vp_nar .boolean x)))) = ws') (hdg : decode cc pc = .ok (.bastore, 1)) (kk : G p l e R s m args below meth c D A nL Q k n ws' lv (pc + 1) (st)) : G p l e R s m args below meth c D A nL Q k n ws lv pc (.int x :: .int i :: .ref a :: st) :=
  fun H locs ls hP hD hS hl => va_zast C.1 C.2.1 C.hK hP hD hS q0 t0 ha ht (vin hj hlt hN) hdg (fun H1 locs1 hP1 hD1 hS1 => kk H1 locs1 ls (by rw [← hws, ← vcl hj hlt hN]; exact hP1) (by rw [← hws, ← vcl hj hlt hN]; exact hD1) hS1 hl)
theorem g_lald (C : CX p s m args meth c cc own Ts D tys A nL) {a : Nat} (q0 t0 : Nat) {cA : ClassId} {N : Nat} {f : Nat → Int64} (ha : ws[q0]? = some (a, .inl (cA, N, .inr (.inl f)))) (ht : tys[t0]? = some (cA, .long)) {i : Int32} (j : Nat) (hj : i = nI j) (hlt : j < N) (hN : N < 2 ^ 31) (v : Int64) (hv : f j = v) (hdg : decode cc pc = .ok (.laload, 1)) (kk : G p l e R s m args below meth c D A nL Q k n ws lv (pc + 1) (.long v :: st)) : G p l e R s m args below meth c D A nL Q k n ws lv pc (.int i :: .ref a :: st) :=
  fun H locs ls hP hD hS hl => va_lald C.1 C.2.1 C.hK hP q0 t0 ha ht (vin hj hlt hN) hdg (by rw [vcl hj hlt hN, hv]; exact (kk H locs ls hP hD hS hl))
theorem g_last (C : CX p s m args meth c cc own Ts D tys A nL) {a : Nat} (q0 t0 : Nat) {cA : ClassId} {N : Nat} {f : Nat → Int64} (ha : ws[q0]? = some (a, .inl (cA, N, .inr (.inl f)))) (ht : tys[t0]? = some (cA, .long)) {i : Int32} (j : Nat) (hj : i = nI j) (hlt : j < N) (hN : N < 2 ^ 31) {x : Int64} (ws' : va_W) (hws : ws.set q0 (a, .inl (cA, N, .inr (.inl (vp_updL f j x)))) = ws') (hdg : decode cc pc = .ok (.lastore, 1)) (kk : G p l e R s m args below meth c D A nL Q k n ws' lv (pc + 1) (st)) : G p l e R s m args below meth c D A nL Q k n ws lv pc (.long x :: .int i :: .ref a :: st) :=
  fun H locs ls hP hD hS hl => va_last C.1 C.2.1 C.hK hP hD hS q0 t0 ha ht (vin hj hlt hN) hdg (fun H1 locs1 hP1 hD1 hS1 => kk H1 locs1 ls (by rw [← hws, ← vcl hj hlt hN]; exact hP1) (by rw [← hws, ← vcl hj hlt hN]; exact hD1) hS1 hl)
theorem g_aald (C : CX p s m args meth c cc own Ts D tys A nL) {a : Nat} (q0 t0 : Nat) {cA : ClassId} {N : Nat} {f : Nat → Option Nat} (ha : ws[q0]? = some (a, .inl (cA, N, .inr (.inr (.inr (.inr f)))))) (ht : tys[t0]? = some (cA, .array .int)) {i : Int32} (j : Nat) (hj : i = nI j) (hlt : j < N) (hN : N < 2 ^ 31) (r : Nat) (hv : f j = some r) (hdg : decode cc pc = .ok (.aaload, 1)) (kk : G p l e R s m args below meth c D A nL Q k n ws lv (pc + 1) (.ref r :: st)) : G p l e R s m args below meth c D A nL Q k n ws lv pc (.int i :: .ref a :: st) := by
  intro H locs ls hP hD hS hl
  have hin := vin hj hlt hN
  have hcl := vcl hj hlt hN
  refine W.aald (v := va_rf (f i.toNatClampNeg)) (ty := .array .int) C.1 C.2.1 (hP q0 _ ha) ((C.hK.2 t0 _ ht).1 N (fun j => va_rf (f j))) rfl (fun q => by cases q) (by show ¬ (i < 0 ∨ (arrV _ _ _).slots.size ≤ _); rw [arrV_size]; exact hin) (by show (arrV _ _ _).slots[_]? = _; rw [arrV_read _ _ (by rw [hcl]; exact hlt)]) rfl rfl hdg ?_
  rw [hcl, hv]
  exact kk H locs ls hP hD hS hl
theorem g_newa (C : CX p s m args meth c cc own Ts D tys A nL) {atype : ArrayType} {cA : ClassId} {ty : FieldType} (hty : newarray.typeOf atype = ty) (hnm : s.vm.findClass ("[" ++ ty.toString) = some cA) (harr : (Cond.arrayClass ty).before args s = true) {i : Int32} (N : Nat) (hi : i = nI N) (hN : N < 64) {z : vp_A} (hz : ∀ cA : ClassId, vp_cell cA z = arrV cA N (fun _ => defaultValue ty)) (hbytes : N * componentBytes ty ≤ 536870912) (hk : k + 1 ≤ R.cells) (hn : n + N ≤ R.slots) (hdg : decode cc pc = .ok (.newarray atype, 2))
    (kk : ∀ q : Nat, G p l e R s m args below meth c D A nL Q (k + 1) (n + N) (ws ++ [(q, .inl (cA, z))]) lv (pc + 2) (.ref q :: st)) : G p l e R s m args below meth c D A nL Q k n ws lv pc (.int i :: st) := by
  intro H locs ls hP hD hS hl
  subst hty
  refine va_newaK C.1 C.2.1 harr rfl hdg rfl (by rw [hi]; exact nI_pos (by omega)) (by rw [hi]; exact nI_clamp (by omega)) hbytes hk hn rfl (fun H1 cB e1 z1 o1 hAr hNm => ?_)
  cases Option.some.inj (hnm.symm.trans hNm)
  have hk9 : ∀ (k : Nat) (x : Nat × va_E), ws[k]? = some x → H1[x.1]? = H[x.1]? := fun k x hx => o1 x.1 ((hP k x hx).lt)
  refine kk H.size H1 locs ls ((hP.kept hk9).app (fun k x hx => ?_)) (hD.push hP rfl (C.hA _ hS.1)) ⟨Nat.le_trans hS.1 (by omega), fun x h1 h2 => (o1 x (Nat.lt_of_lt_of_le h1 hS.1)).trans (hS.2.1 x h1 h2), hS.2.2⟩ hl
  have h0 : k < 1 := (List.getElem?_eq_some_iff.mp hx).1
  rw [show k = 0 by omega] at hx
  cases hx
  show H1[H.size]? = some (vp_cell _ _)
  rw [hz, e1]
theorem g_new (C : CX p s m args meth c cc own Ts D tys A nL) {Cn : String} {T : u_T} {N ci index : Nat} (hin : ∀ w ∈ u_ws Cn T N, w ∈ Ts) (ty : Nat → FieldType) (hty : ∀ k, k < N → parseFieldDescriptor (T k).2.2.1 = some (ty k)) (hcl : (Cond.classLink own index Cn).before args s = true) (hinst : (Cond.instantiable Cn N).before args s = true) (hini : (Cond.initialized Cn).before args s = true) (hc : vwCl[ci]? = some (Cn, T, N)) (fs : List Value) (hfs : ∀ j, j < N → defaultValue (ty j) = vp_V fs j) (hk : k + 1 ≤ R.cells) (hn : n + N ≤ R.slots) (hdg : decode cc pc = .ok (.new index, 3))
    (kk : ∀ q : Nat, G p l e R s m args below meth c D A nL Q (k + 1) (n + N) (ws ++ [(q, .inr (ci, fs))]) lv (pc + 3) (.ref q :: st)) : G p l e R s m args below meth c D A nL Q k n ws lv pc (st) :=
  fun H locs ls hP hD hS hl => va_new C.1 C.2.1 C.ts hin ty hty C.2.2.2.1 hcl hinst hini C.hK hP hD hS C.hA hc hfs hk hn hdg (fun q H1 hP1 hD1 hS1 => kk q H1 locs ls hP1 hD1 hS1 hl)
theorem g_objInit (C : CX p s m args meth c cc own Ts D tys A nL) {a idx : Nat} (hlink : (Cond.methodLink own idx Lib.objectInit).before args s = true) (hinst : (Cond.instanceMethod Lib.objectInit).before args s = true) (hcode : (Cond.code Lib.objectInit ⟨#[0xb1]⟩ 1 none).before args s = true) (hdg : decode cc pc = .ok (.invokespecial idx, 3)) (hf : 1 ≤ R.frames) (hlo : (st.map fun v => v.category).sum + 12 ≤ R.locals) (kk : G p l e R s m args below meth c D A nL Q k n ws lv (pc + 3) (st)) : G p l e R s m args below meth c D A nL Q k n ws lv pc (.ref a :: st) :=
  fun H locs ls hP hD hS hl => W.objInit C.1 C.2.1 C.2.2.2.1 hlink hinst hcode rfl (hl.1.trans C.2.2.1.symm) rfl hdg hf (by show 2 * 0 + _ + 12 ≤ _; omega) (kk H locs ls hP hD hS hl)
theorem g_mabs (C : CX p s m args meth c cc own Ts D tys A nL) {index : Nat} {x : Int32} (v : Int32) (hlink : (Cond.methodLink own index Lib.Math.abs.name).before args s = true) (hstat : (Cond.static Lib.Math.abs.name).before args s = true) (hini : (Cond.initialized "java/lang/Math").before args s = true) (hcode : (Cond.code Lib.Math.abs.name Lib.Math.abs.code 1 (some .int)).before args s = true) (hf : 1 ≤ R.frames) (hlo : (st.map fun v => v.category).sum + 13 ≤ R.locals) (hk : k ≤ R.cells) (hn : n ≤ R.slots) (hv : (if 0 ≤ x then x else 0 - x) = v) (hdg : decode cc pc = .ok (.invokestatic index, 3)) (kk : G p l e R s m args below meth c D A nL Q k n ws lv (pc + 3) (.int v :: st)) : G p l e R s m args below meth c D A nL Q k n ws lv pc (.int x :: st) :=
  fun H locs ls hP hD hS hl => va_mabs C.1 C.2.1 (C.2.2.1.trans hl.1.symm) C.2.2.2.1 hlink hstat hini hcode hf hlo hk hn hdg (by rw [hv]; exact kk H locs ls hP hD hS hl)
theorem g_mmax (C : CX p s m args meth c cc own Ts D tys A nL) {index : Nat} {x y : Int32} (v : Int32) (hlink : (Cond.methodLink own index Lib.Math.max.name).before args s = true) (hstat : (Cond.static Lib.Math.max.name).before args s = true) (hini : (Cond.initialized "java/lang/Math").before args s = true) (hcode : (Cond.code Lib.Math.max.name Lib.Math.max.code 2 (some .int)).before args s = true) (hf : 1 ≤ R.frames) (hlo : (st.map fun v => v.category).sum + 13 ≤ R.locals) (hk : k ≤ R.cells) (hn : n ≤ R.slots) (hv : (if x < y then y else x) = v) (hdg : decode cc pc = .ok (.invokestatic index, 3)) (kk : G p l e R s m args below meth c D A nL Q k n ws lv (pc + 3) (.int v :: st)) : G p l e R s m args below meth c D A nL Q k n ws lv pc (.int y :: .int x :: st) :=
  fun H locs ls hP hD hS hl => va_mmax C.1 C.2.1 (C.2.2.1.trans hl.1.symm) C.2.2.2.1 hlink hstat hini hcode hf hlo hk hn hdg (by rw [hv]; exact kk H locs ls hP hD hS hl)
theorem g_copy (C : CX p s m args meth c cc own Ts D tys A nL) {index : Nat} (hlink : (Cond.methodLink own index arraycopyName).before args s = true) (hnat : (Cond.native arraycopyName).before args s = true) (hstat : (Cond.static arraycopyName).before args s = true) (hini : (Cond.initialized "java/lang/System").before args s = true) (q0 q1 : Nat) {a0 a1 : Nat} {c0 : ClassId} {n0 n1 : Nat} {f g : Nat → Int32} (ha0 : ws[q0]? = some (a0, .inl (c0, n0, .inl f))) (ha1 : ws[q1]? = some (a1, .inl (c0, n1, .inl g))) (ht0 : tys[0]? = some (c0, .int)) {i : Int32} (N : Nat) (hi : i = nI N) (hN : N < 64) (h4 : N ≤ n0) (h5 : N ≤ n1) (hf : 1 ≤ R.frames) (hlo : (st.map fun v => v.category).sum + (nativeFrameWords "java/lang/System" "arraycopy" 5 + 11) ≤ R.locals) (ws' : va_W) (hws : ws.set q1 (a1, .inl (c0, n1, .inl (va_cpy f g 0 0 N))) = ws') (hdg : decode cc pc = .ok (.invokestatic index, 3)) (kk : G p l e R s m args below meth c D A nL Q k n ws' lv (pc + 3) (st)) : G p l e R s m args below meth c D A nL Q k n ws lv pc (.int i :: .int 0 :: .ref a1 :: .int 0 :: .ref a0 :: st) := by
  intro H locs ls hP hD hS hl
  have e0 : (0 : Int32).toNatClampNeg = 0 := by decide +kernel
  have e1 : i.toNatClampNeg = N := by rw [hi]; exact nI_clamp (by omega)
  refine va_copyi C.1 C.2.1 (C.2.2.1.trans hl.1.symm) C.2.2.2.1 hlink hnat hstat hini C.hK hP hD hS q0 q1 0 0 ha0 ha1 ht0 ht0 rfl (by decide +kernel) (by decide +kernel) (by rw [hi]; exact nI_pos (by omega)) (by rw [e0, e1]; omega) (by rw [e0, e1]; omega) (fun _ _ => rfl) hf hlo hdg (fun H1 locs1 hP1 hD1 hS1 => ?_)
  rw [e0, e1, hws] at hP1 hD1
  exact kk H1 locs1 ls hP1 hD1 hS1 hl
theorem g_loop1 {α1 : Type} (x1 : α1) (I : α1 → Prop) (wf : α1 → va_W) (lf : α1 → List (Option Value)) (μ : α1 → Nat) (hI : I x1) (hw : ws = wf x1) (hl : lv = lf x1)
    (step : ∀ x1, I x1 → (∀ y1, I y1 → μ y1 < μ x1 → G p l e R s m args below meth c D A nL Q k n (wf y1) (lf y1) pc st) → G p l e R s m args below meth c D A nL Q k n (wf x1) (lf x1) pc st) : G p l e R s m args below meth c D A nL Q k n ws lv pc st :=
  g_loop x1 (fun z => I z) (fun z => wf z) (fun z => lf z) (fun z => μ z) hI hw hl (fun z hz ih => step z hz (fun y1 h1 h2 => ih y1 h1 h2))
theorem g_loop2 {α1 α2 : Type} (x1 : α1) (x2 : α2) (I : α1 → α2 → Prop) (wf : α1 → α2 → va_W) (lf : α1 → α2 → List (Option Value)) (μ : α1 → α2 → Nat) (hI : I x1 x2) (hw : ws = wf x1 x2) (hl : lv = lf x1 x2)
    (step : ∀ x1 x2, I x1 x2 → (∀ y1 y2, I y1 y2 → μ y1 y2 < μ x1 x2 → G p l e R s m args below meth c D A nL Q k n (wf y1 y2) (lf y1 y2) pc st) → G p l e R s m args below meth c D A nL Q k n (wf x1 x2) (lf x1 x2) pc st) : G p l e R s m args below meth c D A nL Q k n ws lv pc st :=
  g_loop (x1, x2) (fun z => I z.1 z.2) (fun z => wf z.1 z.2) (fun z => lf z.1 z.2) (fun z => μ z.1 z.2) hI hw hl (fun z hz ih => step z.1 z.2 hz (fun y1 y2 h1 h2 => ih (y1, y2) h1 h2))
theorem g_loop3 {α1 α2 α3 : Type} (x1 : α1) (x2 : α2) (x3 : α3) (I : α1 → α2 → α3 → Prop) (wf : α1 → α2 → α3 → va_W) (lf : α1 → α2 → α3 → List (Option Value)) (μ : α1 → α2 → α3 → Nat) (hI : I x1 x2 x3) (hw : ws = wf x1 x2 x3) (hl : lv = lf x1 x2 x3)
    (step : ∀ x1 x2 x3, I x1 x2 x3 → (∀ y1 y2 y3, I y1 y2 y3 → μ y1 y2 y3 < μ x1 x2 x3 → G p l e R s m args below meth c D A nL Q k n (wf y1 y2 y3) (lf y1 y2 y3) pc st) → G p l e R s m args below meth c D A nL Q k n (wf x1 x2 x3) (lf x1 x2 x3) pc st) : G p l e R s m args below meth c D A nL Q k n ws lv pc st :=
  g_loop (x1, x2, x3) (fun z => I z.1 z.2.1 z.2.2) (fun z => wf z.1 z.2.1 z.2.2) (fun z => lf z.1 z.2.1 z.2.2) (fun z => μ z.1 z.2.1 z.2.2) hI hw hl (fun z hz ih => step z.1 z.2.1 z.2.2 hz (fun y1 y2 y3 h1 h2 => ih (y1, y2, y3) h1 h2))
theorem g_loop4 {α1 α2 α3 α4 : Type} (x1 : α1) (x2 : α2) (x3 : α3) (x4 : α4) (I : α1 → α2 → α3 → α4 → Prop) (wf : α1 → α2 → α3 → α4 → va_W) (lf : α1 → α2 → α3 → α4 → List (Option Value)) (μ : α1 → α2 → α3 → α4 → Nat) (hI : I x1 x2 x3 x4) (hw : ws = wf x1 x2 x3 x4) (hl : lv = lf x1 x2 x3 x4)
    (step : ∀ x1 x2 x3 x4, I x1 x2 x3 x4 → (∀ y1 y2 y3 y4, I y1 y2 y3 y4 → μ y1 y2 y3 y4 < μ x1 x2 x3 x4 → G p l e R s m args below meth c D A nL Q k n (wf y1 y2 y3 y4) (lf y1 y2 y3 y4) pc st) → G p l e R s m args below meth c D A nL Q k n (wf x1 x2 x3 x4) (lf x1 x2 x3 x4) pc st) : G p l e R s m args below meth c D A nL Q k n ws lv pc st :=
  g_loop (x1, x2, x3, x4) (fun z => I z.1 z.2.1 z.2.2.1 z.2.2.2) (fun z => wf z.1 z.2.1 z.2.2.1 z.2.2.2) (fun z => lf z.1 z.2.1 z.2.2.1 z.2.2.2) (fun z => μ z.1 z.2.1 z.2.2.1 z.2.2.2) hI hw hl (fun z hz ih => step z.1 z.2.1 z.2.2.1 z.2.2.2 hz (fun y1 y2 y3 y4 h1 h2 => ih (y1, y2, y3, y4) h1 h2))
theorem g_loop5 {α1 α2 α3 α4 α5 : Type} (x1 : α1) (x2 : α2) (x3 : α3) (x4 : α4) (x5 : α5) (I : α1 → α2 → α3 → α4 → α5 → Prop) (wf : α1 → α2 → α3 → α4 → α5 → va_W) (lf : α1 → α2 → α3 → α4 → α5 → List (Option Value)) (μ : α1 → α2 → α3 → α4 → α5 → Nat) (hI : I x1 x2 x3 x4 x5) (hw : ws = wf x1 x2 x3 x4 x5) (hl : lv = lf x1 x2 x3 x4 x5)
    (step : ∀ x1 x2 x3 x4 x5, I x1 x2 x3 x4 x5 → (∀ y1 y2 y3 y4 y5, I y1 y2 y3 y4 y5 → μ y1 y2 y3 y4 y5 < μ x1 x2 x3 x4 x5 → G p l e R s m args below meth c D A nL Q k n (wf y1 y2 y3 y4 y5) (lf y1 y2 y3 y4 y5) pc st) → G p l e R s m args below meth c D A nL Q k n (wf x1 x2 x3 x4 x5) (lf x1 x2 x3 x4 x5) pc st) : G p l e R s m args below meth c D A nL Q k n ws lv pc st :=
  g_loop (x1, x2, x3, x4, x5) (fun z => I z.1 z.2.1 z.2.2.1 z.2.2.2.1 z.2.2.2.2) (fun z => wf z.1 z.2.1 z.2.2.1 z.2.2.2.1 z.2.2.2.2) (fun z => lf z.1 z.2.1 z.2.2.1 z.2.2.2.1 z.2.2.2.2) (fun z => μ z.1 z.2.1 z.2.2.1 z.2.2.2.1 z.2.2.2.2) hI hw hl (fun z hz ih => step z.1 z.2.1 z.2.2.1 z.2.2.2.1 z.2.2.2.2 hz (fun y1 y2 y3 y4 y5 h1 h2 => ih (y1, y2, y3, y4, y5) h1 h2))
theorem g_loop6 {α1 α2 α3 α4 α5 α6 : Type} (x1 : α1) (x2 : α2) (x3 : α3) (x4 : α4) (x5 : α5) (x6 : α6) (I : α1 → α2 → α3 → α4 → α5 → α6 → Prop) (wf : α1 → α2 → α3 → α4 → α5 → α6 → va_W) (lf : α1 → α2 → α3 → α4 → α5 → α6 → List (Option Value)) (μ : α1 → α2 → α3 → α4 → α5 → α6 → Nat) (hI : I x1 x2 x3 x4 x5 x6) (hw : ws = wf x1 x2 x3 x4 x5 x6) (hl : lv = lf x1 x2 x3 x4 x5 x6)
    (step : ∀ x1 x2 x3 x4 x5 x6, I x1 x2 x3 x4 x5 x6 → (∀ y1 y2 y3 y4 y5 y6, I y1 y2 y3 y4 y5 y6 → μ y1 y2 y3 y4 y5 y6 < μ x1 x2 x3 x4 x5 x6 → G p l e R s m args below meth c D A nL Q k n (wf y1 y2 y3 y4 y5 y6) (lf y1 y2 y3 y4 y5 y6) pc st) → G p l e R s m args below meth c D A nL Q k n (wf x1 x2 x3 x4 x5 x6) (lf x1 x2 x3 x4 x5 x6) pc st) : G p l e R s m args below meth c D A nL Q k n ws lv pc st :=
  g_loop (x1, x2, x3, x4, x5, x6) (fun z => I z.1 z.2.1 z.2.2.1 z.2.2.2.1 z.2.2.2.2.1 z.2.2.2.2.2) (fun z => wf z.1 z.2.1 z.2.2.1 z.2.2.2.1 z.2.2.2.2.1 z.2.2.2.2.2) (fun z => lf z.1 z.2.1 z.2.2.1 z.2.2.2.1 z.2.2.2.2.1 z.2.2.2.2.2) (fun z => μ z.1 z.2.1 z.2.2.1 z.2.2.2.1 z.2.2.2.2.1 z.2.2.2.2.2) hI hw hl (fun z hz ih => step z.1 z.2.1 z.2.2.1 z.2.2.2.1 z.2.2.2.2.1 z.2.2.2.2.2 hz (fun y1 y2 y3 y4 y5 y6 h1 h2 => ih (y1, y2, y3, y4, y5, y6) h1 h2))
theorem g_loop7 {α1 α2 α3 α4 α5 α6 α7 : Type} (x1 : α1) (x2 : α2) (x3 : α3) (x4 : α4) (x5 : α5) (x6 : α6) (x7 : α7) (I : α1 → α2 → α3 → α4 → α5 → α6 → α7 → Prop) (wf : α1 → α2 → α3 → α4 → α5 → α6 → α7 → va_W) (lf : α1 → α2 → α3 → α4 → α5 → α6 → α7 → List (Option Value)) (μ : α1 → α2 → α3 → α4 → α5 → α6 → α7 → Nat) (hI : I x1 x2 x3 x4 x5 x6 x7) (hw : ws = wf x1 x2 x3 x4 x5 x6 x7) (hl : lv = lf x1 x2 x3 x4 x5 x6 x7)
    (step : ∀ x1 x2 x3 x4 x5 x6 x7, I x1 x2 x3 x4 x5 x6 x7 → (∀ y1 y2 y3 y4 y5 y6 y7, I y1 y2 y3 y4 y5 y6 y7 → μ y1 y2 y3 y4 y5 y6 y7 < μ x1 x2 x3 x4 x5 x6 x7 → G p l e R s m args below meth c D A nL Q k n (wf y1 y2 y3 y4 y5 y6 y7) (lf y1 y2 y3 y4 y5 y6 y7) pc st) → G p l e R s m args below meth c D A nL Q k n (wf x1 x2 x3 x4 x5 x6 x7) (lf x1 x2 x3 x4 x5 x6 x7) pc st) : G p l e R s m args below meth c D A nL Q k n ws lv pc st :=
  g_loop (x1, x2, x3, x4, x5, x6, x7) (fun z => I z.1 z.2.1 z.2.2.1 z.2.2.2.1 z.2.2.2.2.1 z.2.2.2.2.2.1 z.2.2.2.2.2.2) (fun z => wf z.1 z.2.1 z.2.2.1 z.2.2.2.1 z.2.2.2.2.1 z.2.2.2.2.2.1 z.2.2.2.2.2.2) (fun z => lf z.1 z.2.1 z.2.2.1 z.2.2.2.1 z.2.2.2.2.1 z.2.2.2.2.2.1 z.2.2.2.2.2.2) (fun z => μ z.1 z.2.1 z.2.2.1 z.2.2.2.1 z.2.2.2.2.1 z.2.2.2.2.2.1 z.2.2.2.2.2.2) hI hw hl (fun z hz ih => step z.1 z.2.1 z.2.2.1 z.2.2.2.1 z.2.2.2.2.1 z.2.2.2.2.2.1 z.2.2.2.2.2.2 hz (fun y1 y2 y3 y4 y5 y6 y7 h1 h2 => ih (y1, y2, y3, y4, y5, y6, y7) h1 h2))
theorem g_loop8 {α1 α2 α3 α4 α5 α6 α7 α8 : Type} (x1 : α1) (x2 : α2) (x3 : α3) (x4 : α4) (x5 : α5) (x6 : α6) (x7 : α7) (x8 : α8) (I : α1 → α2 → α3 → α4 → α5 → α6 → α7 → α8 → Prop) (wf : α1 → α2 → α3 → α4 → α5 → α6 → α7 → α8 → va_W) (lf : α1 → α2 → α3 → α4 → α5 → α6 → α7 → α8 → List (Option Value)) (μ : α1 → α2 → α3 → α4 → α5 → α6 → α7 → α8 → Nat) (hI : I x1 x2 x3 x4 x5 x6 x7 x8) (hw : ws = wf x1 x2 x3 x4 x5 x6 x7 x8) (hl : lv = lf x1 x2 x3 x4 x5 x6 x7 x8)
    (step : ∀ x1 x2 x3 x4 x5 x6 x7 x8, I x1 x2 x3 x4 x5 x6 x7 x8 → (∀ y1 y2 y3 y4 y5 y6 y7 y8, I y1 y2 y3 y4 y5 y6 y7 y8 → μ y1 y2 y3 y4 y5 y6 y7 y8 < μ x1 x2 x3 x4 x5 x6 x7 x8 → G p l e R s m args below meth c D A nL Q k n (wf y1 y2 y3 y4 y5 y6 y7 y8) (lf y1 y2 y3 y4 y5 y6 y7 y8) pc st) → G p l e R s m args below meth c D A nL Q k n (wf x1 x2 x3 x4 x5 x6 x7 x8) (lf x1 x2 x3 x4 x5 x6 x7 x8) pc st) : G p l e R s m args below meth c D A nL Q k n ws lv pc st :=
  g_loop (x1, x2, x3, x4, x5, x6, x7, x8) (fun z => I z.1 z.2.1 z.2.2.1 z.2.2.2.1 z.2.2.2.2.1 z.2.2.2.2.2.1 z.2.2.2.2.2.2.1 z.2.2.2.2.2.2.2) (fun z => wf z.1 z.2.1 z.2.2.1 z.2.2.2.1 z.2.2.2.2.1 z.2.2.2.2.2.1 z.2.2.2.2.2.2.1 z.2.2.2.2.2.2.2) (fun z => lf z.1 z.2.1 z.2.2.1 z.2.2.2.1 z.2.2.2.2.1 z.2.2.2.2.2.1 z.2.2.2.2.2.2.1 z.2.2.2.2.2.2.2) (fun z => μ z.1 z.2.1 z.2.2.1 z.2.2.2.1 z.2.2.2.2.1 z.2.2.2.2.2.1 z.2.2.2.2.2.2.1 z.2.2.2.2.2.2.2) hI hw hl (fun z hz ih => step z.1 z.2.1 z.2.2.1 z.2.2.2.1 z.2.2.2.2.1 z.2.2.2.2.2.1 z.2.2.2.2.2.2.1 z.2.2.2.2.2.2.2 hz (fun y1 y2 y3 y4 y5 y6 y7 y8 h1 h2 => ih (y1, y2, y3, y4, y5, y6, y7, y8) h1 h2))
end GG
section GC
variable {l : Launch} {D : va_G} {tys : List (ClassId × FieldType)}
/-- what a contract says ahead of the call: the world w at a heap of sz cells -/
def Bf (D : va_G) (tys : List (ClassId × FieldType)) (w : va_W) (sz : Nat) : State → Prop := fun U => U.heap.size = sz ∧ va_P D vwCl w U.heap ∧ va_K D vwCl tys U ∧ va_D (fun _ => True) w
/-- .. and behind it -/
def Af (D : va_G) (w : va_W) (sz : Nat) : (va_W × List (ClassId × FieldType)) → State → Prop := fun u t => va_P D vwCl u.1 t.heap ∧ va_K D vwCl u.2 t ∧ va_D (va_A w sz) u.1
def QI (below : List Frame) (post : Int32 → va_W → Prop) (D : va_G) (tys : List (ClassId × FieldType)) (w : va_W) (args : Array Value) (s : State) (mc ms : Nat) : State → Prop := MQ below (va_Qi (fun r u => post r u.1 ∧ u.2 = tys) (Af D w s.heap.size) (va_A w s.heap.size)) args s mc ms (va_A w s.heap.size)
def QV (below : List Frame) (post : va_W → List (ClassId × FieldType) → Prop) (D : va_G) (w : va_W) (args : Array Value) (s : State) (mc ms : Nat) : State → Prop := MQ below (va_Qv (fun u => post u.1 u.2) (Af D w s.heap.size) (va_A w s.heap.size)) args s mc ms (va_A w s.heap.size)
/-- contracts: an int (or boolean) answer; no answer -/
def CtI (l : Launch) (y : MethodName) (wds : List Cond) (fr lo mc ms : Nat) (D : va_G) (tys : List (ClassId × FieldType)) (av : List Value) (w : va_W) (post : Int32 → va_W → Prop) : Prop :=
  ∀ sz : Nat, Met l y wds { frames := fr, cells := mc, slots := ms, locals := lo } (va_Pc av (Bf D tys w sz)) (va_Qi (fun r u => post r u.1 ∧ u.2 = tys) (Af D w sz) (va_A w sz)) mc ms (va_A w sz)
def CtV (l : Launch) (y : MethodName) (wds : List Cond) (fr lo mc ms : Nat) (D : va_G) (tys : List (ClassId × FieldType)) (av : List Value) (w : va_W) (post : va_W → List (ClassId × FieldType) → Prop) : Prop :=
  ∀ sz : Nat, Met l y wds { frames := fr, cells := mc, slots := ms, locals := lo } (va_Pc av (Bf D tys w sz)) (va_Qv (fun u => post u.1 u.2) (Af D w sz) (va_A w sz)) mc ms (va_A w sz)
theorem Bf_blind {av : List Value} {w : va_W} {sz : Nat} : FrameBlind (va_Pc av (Bf D tys w sz)) := fun a U g mk q => by
  obtain ⟨q0, q1, qP, qK, qD⟩ := q
  exact ⟨q0, q1, qP, va_K.moved (u := U) (U := U.calling g mk a) (Vm.Alike.refl U.vm) qK, qD⟩
theorem ctI_of {y : MethodName} {wds wds' : List Cond} {fr lo mc ms : Nat} {av : List Value} {w : va_W} {post : Int32 → va_W → Prop} {cc : ByteArray} {maxL : Nat} {ret : Option FieldType} (own : String) (r : Nat) (lv0 : List (Option Value)) (hy : plainName y.cls = true) (hw : wds = Cond.code y cc maxL ret :: wds') (hown : y.cls = own) (hlen : (lg_sl av).length ≤ maxL) (hlv : lvE av ++ List.replicate r none = lv0)
    (body : ∀ (p : Program) (e : Env) (s : State) (m : MethodId) (args : Array Value) (below : List Frame) (meth : Method) (c : Code), CX p s m args meth c cc own wds D tys (va_A w s.heap.size) maxL → meth.sig.returnType = ret →
      G p l e { frames := fr, cells := mc, slots := ms, locals := lo } s m args below meth c D (va_A w s.heap.size) maxL (QI below post D tys w args s mc ms) 0 0 w lv0 0 []) : CtI l y wds fr lo mc ms D tys av w post := by
  intro sz
  refine Met.ofW (cc := cc) (maxL := maxL) (ret := ret) hy hw ?_
  intro p e s m args below meth c s₁ B hml hv
  obtain ⟨rfl, hsz, hP, hK, hD0⟩ := hv
  subst hsz
  rw [lg_entry_eq]
  exact body p e s m av.toArray below meth c ⟨B.exec, B.bytes, hml, by rw [← hown]; exact findClass_of_methodNamed B.named, atoms_spec (ws := wds) B.pre, hK, fun q h => Or.inr h, B.notSynchronized⟩ B.returns s.heap [] _ hP (hD0.self) va_S.rf (lh_entry hlen hlv)
theorem ctV_of {y : MethodName} {wds wds' : List Cond} {fr lo mc ms : Nat} {av : List Value} {w : va_W} {post : va_W → List (ClassId × FieldType) → Prop} {cc : ByteArray} {maxL : Nat} (own : String) (r : Nat) (lv0 : List (Option Value)) (hy : plainName y.cls = true) (hw : wds = Cond.code y cc maxL none :: wds') (hown : y.cls = own) (hlen : (lg_sl av).length ≤ maxL) (hlv : lvE av ++ List.replicate r none = lv0)
    (body : ∀ (p : Program) (e : Env) (s : State) (m : MethodId) (args : Array Value) (below : List Frame) (meth : Method) (c : Code), CX p s m args meth c cc own wds D tys (va_A w s.heap.size) maxL → meth.sig.returnType = none → (y.name = "<init>" → meth.name = "<init>") →
      G p l e { frames := fr, cells := mc, slots := ms, locals := lo } s m args below meth c D (va_A w s.heap.size) maxL (QV below post D w args s mc ms) 0 0 w lv0 0 []) : CtV l y wds fr lo mc ms D tys av w post := by
  intro sz
  refine Met.ofW (cc := cc) (maxL := maxL) (ret := none) hy hw ?_
  intro p e s m args below meth c s₁ B hml hv
  obtain ⟨rfl, hsz, hP, hK, hD0⟩ := hv
  subst hsz
  rw [lg_entry_eq]
  exact body p e s m av.toArray below meth c ⟨B.exec, B.bytes, hml, by rw [← hown]; exact findClass_of_methodNamed B.named, atoms_spec (ws := wds) B.pre, hK, fun q h => Or.inr h, B.notSynchronized⟩ B.returns (fun h => (name_of_methodNamed B.named B.method).1.trans h) s.heap [] _ hP (hD0.self) va_S.rf (lh_entry hlen hlv)
end GC
section GR
variable {p : Program} {l : Launch} {e : Env} {R : Room} {s : State} {m : MethodId} {args : Array Value} {below : List Frame} {meth : Method} {c : Code} {Q : State → Prop} {k n : Nat}
variable {cc : ByteArray} {own : String} {Ts : List Cond} {D : va_G} {tys : List (ClassId × FieldType)} {A : Nat → Prop} {nL : Nat} {ws : va_W} {lv : List (Option Value)} {pc : Nat} {st : List Value}
variable {w0 : va_W} {mc ms : Nat}

theorem g_iret (C : CX p s m args meth c cc own Ts D tys (va_A w0 s.heap.size) nL) (hr : meth.sig.returnType = some .int) {post : Int32 → va_W → Prop} {v : Int32} (hdg : decode cc pc = .ok (.ireturn, 1)) (h1 : k ≤ mc) (h2 : n ≤ ms) (hp : post v ws) : G p l e R s m args below meth c D (va_A w0 s.heap.size) nL (QI below post D tys w0 args s mc ms) k n ws lv pc [.int v] :=
  fun H locs ls hP hD hS hl => W.widen h1 h2 (W.iret (v := v) C.1 C.2.1 hr (fun t ht hW => ⟨⟨v, (ws, tys), rfl, ⟨hp, rfl⟩, by rw [ht]; exact hP, va_K.moved hW.alike C.hK, hD⟩, hS.F ht⟩) hS.2.2 hdg C.lk)
theorem g_zret (C : CX p s m args meth c cc own Ts D tys (va_A w0 s.heap.size) nL) (hr : meth.sig.returnType = some .boolean) {post : Int32 → va_W → Prop} {v : Int32} (hnar : narrow .boolean (.int v) = .int v) (hdg : decode cc pc = .ok (.ireturn, 1)) (h1 : k ≤ mc) (h2 : n ≤ ms) (hp : post v ws) : G p l e R s m args below meth c D (va_A w0 s.heap.size) nL (QI below post D tys w0 args s mc ms) k n ws lv pc [.int v] :=
  fun H locs ls hP hD hS hl => W.widen h1 h2 (W.zret (v := v) C.1 C.2.1 hr hnar (fun t ht hW => ⟨⟨v, (ws, tys), rfl, ⟨hp, rfl⟩, by rw [ht]; exact hP, va_K.moved hW.alike C.hK, hD⟩, hS.F ht⟩) hS.2.2 hdg C.lk)
theorem g_vret (C : CX p s m args meth c cc own Ts D tys (va_A w0 s.heap.size) nL) (hr : meth.sig.returnType = none) {post : va_W → List (ClassId × FieldType) → Prop} (hdg : decode cc pc = .ok (.return_, 1)) (h1 : k ≤ mc) (h2 : n ≤ ms) (hp : post ws tys) : G p l e R s m args below meth c D (va_A w0 s.heap.size) nL (QV below post D w0 args s mc ms) k n ws lv pc [] :=
  fun H locs ls hP hD hS hl => W.widen h1 h2 (W.vret C.1 C.2.1 hr (fun t ht hW => ⟨⟨(ws, tys), rfl, hp, by rw [ht]; exact hP, va_K.moved hW.alike C.hK, hD⟩, hS.F ht⟩) hS.2.2 hdg C.lk)
theorem ap_C {wr wc : va_W} : ((List.range wc.length).map (fun j => wr.length + j)).map (fun i => (wr ++ wc)[i]?) = wc.map some := by
  apply List.ext_getElem?
  intro i
  rw [List.getElem?_map, List.getElem?_map, List.getElem?_map]
  by_cases h : i < wc.length
  · rw [List.getElem?_range h]
    show some ((wr ++ wc)[wr.length + i]?) = _
    rw [List.getElem?_append_right (by omega), show wr.length + i - wr.length = i by omega, List.getElem?_eq_getElem h]
    rfl
  · rw [List.getElem?_eq_none (by rw [List.length_range]; omega), List.getElem?_eq_none (by omega)]
    rfl
theorem ap_R {wr wc : va_W} : (List.range wr.length).map (fun i => (wr ++ wc)[i]?) = wr.map some := by
  apply List.ext_getElem?
  intro i
  rw [List.getElem?_map, List.getElem?_map]
  by_cases h : i < wr.length
  · rw [List.getElem?_range h]
    show some ((wr ++ wc)[i]?) = _
    rw [List.getElem?_append_left h, List.getElem?_eq_getElem h]
    rfl
  · rw [List.getElem?_eq_none (by rw [List.length_range]; omega), List.getElem?_eq_none (by omega)]
    rfl
theorem va_nd_range : ∀ (N b : Nat), va_nd ((List.range N).map (fun j => b + j)) = true := by
  intro N
  have key : ∀ (l : List Nat), l.Nodup → va_nd l = true := by
    intro l
    induction l with
    | nil => intro _; rfl
    | cons a t ih =>
      intro h
      have h2 := List.nodup_cons.mp h
      simp only [va_nd, Bool.and_eq_true]
      refine ⟨?_, ih h2.2⟩
      first | (simp; exact h2.1) | (simpa using h2.1)
  intro b
  apply key
  rw [List.nodup_iff_pairwise_ne, List.pairwise_map]
  exact (List.nodup_iff_pairwise_ne.mp List.nodup_range).imp (fun h h2 => h (by omega))
theorem ap_join {A0 : Nat → Prop} {cl : List vw_C} {wc wr w1 : va_W} {H H1 : Heap} (hP : va_P D cl (wr ++ wc) H) (hD : va_D A0 (wr ++ wc))
    (hk : ∀ q : Nat, q < H.size → ¬ va_A wc H.size q → H1[q]? = H[q]?) (hF : ∀ q, va_A wc H.size q → A0 q) (hP1 : va_P D cl w1 H1) (hD1 : va_D (va_A wc H.size) w1) : va_P D cl (wr ++ w1) H1 ∧ va_D A0 (wr ++ w1) :=
  va_join hP hD ((List.range wc.length).map (fun j => wr.length + j)) (List.range wr.length) ap_C ap_R (by have h := va_nd_range wr.length 0; simpa using h) (fun i hi hj => by
    obtain ⟨j, -, rfl⟩ := List.mem_map.mp hj
    have := List.mem_range.mp hi
    omega) hk hF hP1 hD1
theorem ap_P {cl : List vw_C} {wc wr : va_W} {H : Heap} (hP : va_P D cl (wr ++ wc) H) : va_P D cl wc H := fun k q hq => hP (wr.length + k) q (by rw [List.getElem?_append_right (by omega), show wr.length + k - wr.length = k by omega]; exact hq)
theorem ap_D {A0 : Nat → Prop} {wc wr : va_W} (hD : va_D A0 (wr ++ wc)) : va_D A0 wc := by
  have g : ∀ (k : Nat) (q : Nat × va_E), wc[k]? = some q → (wr ++ wc)[wr.length + k]? = some q := fun k q hq => by
    rw [List.getElem?_append_right (by omega), show wr.length + k - wr.length = k by omega]; exact hq
  exact ⟨fun i j x y hx hy hxy => by have := hD.1 _ _ x y (g i x hx) (g j y hy) hxy; omega, fun k q hq => hD.2 _ q (g k q hq)⟩
theorem ap_F {A0 : Nat → Prop} {wc wr : va_W} {H0 H : Heap} {locs : List Loc} (hD : va_D A0 (wr ++ wc)) (hS : va_S A0 H0 H locs) (hA : ∀ q, H0.size ≤ q → A0 q) : ∀ q, va_A wc H.size q → A0 q :=
  va_free hD hS hA ((List.range wc.length).map (fun j => wr.length + j)) ap_C

theorem g_callVi (C : CX p s m args meth c cc own Ts D tys A nL) {y : MethodName} {wds : List Cond} {fr lo mc ms index maxL nA : Nat} {bytes : ByteArray} {ret : Option FieldType} (wr wc : va_W) {b : Nat} (As : List Value) {stk : List Value} {post : Int32 → va_W → Prop} (hM : CtI l y wds fr lo mc ms D tys (.ref b :: As) wc post) {Cn : String} {ci N : Nat} {T : u_T} {fs : List Value} (hq : vwCl[ci]? = some (Cn, T, N)) (he : wc[0]? = some (b, .inr (ci, fs))) (cw : CallW R s args own Cn index y bytes maxL ret wds { frames := fr, cells := mc, slots := ms, locals := lo } mc ms nA) (hnA : As.length = nA) (hws : ws = wr ++ wc) (hst : stk = As.reverse ++ .ref b :: st) (hcat : (st.map fun v => v.category).sum ≤ 8) (hdg : decode cc pc = .ok (.invokevirtual index, 3)) (hkn : k + mc ≤ R.cells ∧ n + ms ≤ R.slots)
    (kk : ∀ (r : Int32) (w1 : va_W), post r w1 → G p l e R s m args below meth c D A nL Q (k + mc) (n + ms) (wr ++ w1) lv (pc + 3) (.int r :: st)) : G p l e R s m args below meth c D A nL Q k n ws lv pc (stk) := by
  subst hws
  intro H locs ls hP hD hS hl
  exact va_calli (A1 := va_A wc H.size) (va_runV (As := As) (rest := st) C.fix (hM H.size) cw ⟨Bf_blind, va_recv C.hK (ap_P hP) hq he, fun U hU hW => ⟨rfl, by rw [hU], by rw [hU]; exact ap_P hP, va_K.moved hW.alike C.hK, (ap_D hD).weaken (fun _ _ _ _ => trivial)⟩⟩ rfl hnA hl.1 hst (lv_room hcat) hdg hkn) hS (fun q _ h => ap_F hD hS C.hA q h) (ap_F hD hS C.hA) (fun r u t H1 locs1 ht hvm hw hB hz1 hk1 hS1 => kk r u.1 hw.1 H1 locs1 ls (ap_join hP hD hk1 (ap_F hD hS C.hA) (ht ▸ hB.1) hB.2.2).1 (ap_join hP hD hk1 (ap_F hD hS C.hA) (ht ▸ hB.1) hB.2.2).2 hS1 hl)
theorem g_callVv (C : CX p s m args meth c cc own Ts D tys A nL) {y : MethodName} {wds : List Cond} {fr lo mc ms index maxL nA : Nat} {bytes : ByteArray} {ret : Option FieldType} (wr wc : va_W) {b : Nat} (As : List Value) {stk : List Value} {post : va_W → List (ClassId × FieldType) → Prop} (hM : CtV l y wds fr lo mc ms D tys (.ref b :: As) wc post) {Cn : String} {ci N : Nat} {T : u_T} {fs : List Value} (hq : vwCl[ci]? = some (Cn, T, N)) (he : wc[0]? = some (b, .inr (ci, fs))) (cw : CallW R s args own Cn index y bytes maxL ret wds { frames := fr, cells := mc, slots := ms, locals := lo } mc ms nA) (hnA : As.length = nA) (hws : ws = wr ++ wc) (hst : stk = As.reverse ++ .ref b :: st) (hcat : (st.map fun v => v.category).sum ≤ 8) (hdg : decode cc pc = .ok (.invokevirtual index, 3)) (hkn : k + mc ≤ R.cells ∧ n + ms ≤ R.slots)
    (kk : ∀ (w1 : va_W) (t1 : List (ClassId × FieldType)), post w1 t1 → G p l e R s m args below meth c D A nL Q (k + mc) (n + ms) (wr ++ w1) lv (pc + 3) (st)) : G p l e R s m args below meth c D A nL Q k n ws lv pc (stk) := by
  subst hws
  intro H locs ls hP hD hS hl
  exact va_callv (A1 := va_A wc H.size) (va_runV (As := As) (rest := st) C.fix (hM H.size) cw ⟨Bf_blind, va_recv C.hK (ap_P hP) hq he, fun U hU hW => ⟨rfl, by rw [hU], by rw [hU]; exact ap_P hP, va_K.moved hW.alike C.hK, (ap_D hD).weaken (fun _ _ _ _ => trivial)⟩⟩ rfl hnA hl.1 hst (lv_room hcat) hdg hkn) hS (fun q _ h => ap_F hD hS C.hA q h) (ap_F hD hS C.hA) (fun u t H1 locs1 ht hvm hw hB hz1 hk1 hS1 => kk u.1 u.2 hw H1 locs1 ls (ap_join hP hD hk1 (ap_F hD hS C.hA) (ht ▸ hB.1) hB.2.2).1 (ap_join hP hD hk1 (ap_F hD hS C.hA) (ht ▸ hB.1) hB.2.2).2 hS1 hl)
theorem g_callSi (C : CX p s m args meth c cc own Ts D tys A nL) {y : MethodName} {wds : List Cond} {fr lo mc ms index maxL nA : Nat} {bytes : ByteArray} {ret : Option FieldType} (wr wc : va_W) (As : List Value) {stk : List Value} {post : Int32 → va_W → Prop} (hM : CtI l y wds fr lo mc ms D tys (As) wc post)  (cw : CallB R s args own index y bytes maxL ret wds { frames := fr, cells := mc, slots := ms, locals := lo } mc ms nA ∧ (Cond.static y).before args s = true) (hnA : As.length = nA) (hws : ws = wr ++ wc) (hst : stk = As.reverse ++ st) (hcat : (st.map fun v => v.category).sum ≤ 8) (hdg : decode cc pc = .ok (.invokestatic index, 3)) (hkn : k + mc ≤ R.cells ∧ n + ms ≤ R.slots)
    (kk : ∀ (r : Int32) (w1 : va_W), post r w1 → G p l e R s m args below meth c D A nL Q (k + mc) (n + ms) (wr ++ w1) lv (pc + 3) (.int r :: st)) : G p l e R s m args below meth c D A nL Q k n ws lv pc (stk) := by
  subst hws
  intro H locs ls hP hD hS hl
  exact va_calli (A1 := va_A wc H.size) (va_runS (As := As) (rest := st) C.fix (hM H.size) cw ⟨Bf_blind, fun U hU hW => ⟨rfl, by rw [hU], by rw [hU]; exact ap_P hP, va_K.moved hW.alike C.hK, (ap_D hD).weaken (fun _ _ _ _ => trivial)⟩⟩ rfl hnA hl.1 hst (lv_room hcat) hdg hkn) hS (fun q _ h => ap_F hD hS C.hA q h) (ap_F hD hS C.hA) (fun r u t H1 locs1 ht hvm hw hB hz1 hk1 hS1 => kk r u.1 hw.1 H1 locs1 ls (ap_join hP hD hk1 (ap_F hD hS C.hA) (ht ▸ hB.1) hB.2.2).1 (ap_join hP hD hk1 (ap_F hD hS C.hA) (ht ▸ hB.1) hB.2.2).2 hS1 hl)
theorem g_callSv (C : CX p s m args meth c cc own Ts D tys A nL) {y : MethodName} {wds : List Cond} {fr lo mc ms index maxL nA : Nat} {bytes : ByteArray} {ret : Option FieldType} (wr wc : va_W) (As : List Value) {stk : List Value} {post : va_W → List (ClassId × FieldType) → Prop} (hM : CtV l y wds fr lo mc ms D tys (As) wc post)  (cw : CallB R s args own index y bytes maxL ret wds { frames := fr, cells := mc, slots := ms, locals := lo } mc ms nA ∧ (Cond.static y).before args s = true) (hnA : As.length = nA) (hws : ws = wr ++ wc) (hst : stk = As.reverse ++ st) (hcat : (st.map fun v => v.category).sum ≤ 8) (hdg : decode cc pc = .ok (.invokestatic index, 3)) (hkn : k + mc ≤ R.cells ∧ n + ms ≤ R.slots)
    (kk : ∀ (w1 : va_W) (t1 : List (ClassId × FieldType)), post w1 t1 → G p l e R s m args below meth c D A nL Q (k + mc) (n + ms) (wr ++ w1) lv (pc + 3) (st)) : G p l e R s m args below meth c D A nL Q k n ws lv pc (stk) := by
  subst hws
  intro H locs ls hP hD hS hl
  exact va_callv (A1 := va_A wc H.size) (va_runS (As := As) (rest := st) C.fix (hM H.size) cw ⟨Bf_blind, fun U hU hW => ⟨rfl, by rw [hU], by rw [hU]; exact ap_P hP, va_K.moved hW.alike C.hK, (ap_D hD).weaken (fun _ _ _ _ => trivial)⟩⟩ rfl hnA hl.1 hst (lv_room hcat) hdg hkn) hS (fun q _ h => ap_F hD hS C.hA q h) (ap_F hD hS C.hA) (fun u t H1 locs1 ht hvm hw hB hz1 hk1 hS1 => kk u.1 u.2 hw H1 locs1 ls (ap_join hP hD hk1 (ap_F hD hS C.hA) (ht ▸ hB.1) hB.2.2).1 (ap_join hP hD hk1 (ap_F hD hS C.hA) (ht ▸ hB.1) hB.2.2).2 hS1 hl)
theorem g_callIv (C : CX p s m args meth c cc own Ts D tys A nL) {y : MethodName} {wds : List Cond} {fr lo mc ms index maxL nA : Nat} {bytes : ByteArray} {ret : Option FieldType} (wr wc : va_W) {b : Nat} (As : List Value) {stk : List Value} {post : va_W → List (ClassId × FieldType) → Prop} (hM : CtV l y wds fr lo mc ms D tys (.ref b :: As) wc post)  (cw : CallB R s args own index y bytes maxL none wds { frames := fr, cells := mc, slots := ms, locals := lo } mc ms nA ∧ y.name = "<init>" ∧ (Cond.instanceMethod y).before args s = true) (hnA : As.length = nA) (hws : ws = wr ++ wc) (hst : stk = As.reverse ++ .ref b :: st) (hcat : (st.map fun v => v.category).sum ≤ 8) (hdg : decode cc pc = .ok (.invokespecial index, 3)) (hkn : k + mc ≤ R.cells ∧ n + ms ≤ R.slots)
    (kk : ∀ (w1 : va_W) (t1 : List (ClassId × FieldType)), post w1 t1 → va_K D vwCl t1 s → G p l e R s m args below meth c D A nL Q (k + mc) (n + ms) (wr ++ w1) lv (pc + 3) (st)) : G p l e R s m args below meth c D A nL Q k n ws lv pc (stk) := by
  subst hws
  intro H locs ls hP hD hS hl
  exact va_callv (A1 := va_A wc H.size) (va_runI (As := As) (rest := st) C.fix (hM H.size) cw ⟨Bf_blind, fun U hU hW => ⟨rfl, by rw [hU], by rw [hU]; exact ap_P hP, va_K.moved hW.alike C.hK, (ap_D hD).weaken (fun _ _ _ _ => trivial)⟩⟩ rfl hnA hl.1 hst (lv_room hcat) hdg hkn) hS (fun q _ h => ap_F hD hS C.hA q h) (ap_F hD hS C.hA) (fun u t H1 locs1 ht hvm hw hB hz1 hk1 hS1 => kk u.1 u.2 hw (va_K.moved hvm.symm hB.2.1) H1 locs1 ls (ap_join hP hD hk1 (ap_F hD hS C.hA) (ht ▸ hB.1) hB.2.2).1 (ap_join hP hD hk1 (ap_F hD hS C.hA) (ht ▸ hB.1) hB.2.2).2 hS1 hl)
theorem g_callNv (C : CX p s m args meth c cc own Ts D tys A nL) {y : MethodName} {wds : List Cond} {fr lo mc ms index maxL nA : Nat} {bytes : ByteArray} {ret : Option FieldType} (wr wc : va_W) {b : Nat} (As : List Value) {stk : List Value} {post : va_W → List (ClassId × FieldType) → Prop} (hM : CtV l y wds fr lo mc ms D tys (.ref b :: As) wc post)  {host : String} (cw : va_CN R s args own index y host bytes maxL none wds { frames := fr, cells := mc, slots := ms, locals := lo } mc ms nA ∧ y.name = "<init>" ∧ (Cond.instanceMethod y).before args s = true) (hnA : As.length = nA) (hws : ws = wr ++ wc) (hst : stk = As.reverse ++ .ref b :: st) (hcat : (st.map fun v => v.category).sum ≤ 8) (hdg : decode cc pc = .ok (.invokespecial index, 3)) (hkn : k + mc ≤ R.cells ∧ n + ms ≤ R.slots)
    (kk : ∀ (w1 : va_W) (t1 : List (ClassId × FieldType)), post w1 t1 → va_K D vwCl t1 s → G p l e R s m args below meth c D A nL Q (k + mc) (n + ms) (wr ++ w1) lv (pc + 3) (st)) : G p l e R s m args below meth c D A nL Q k n ws lv pc (stk) := by
  subst hws
  intro H locs ls hP hD hS hl
  exact va_callv (A1 := va_A wc H.size) (va_runIN (As := As) (rest := st) C.fix (hM H.size) cw ⟨Bf_blind, fun U hU hW => ⟨rfl, by rw [hU], by rw [hU]; exact ap_P hP, va_K.moved hW.alike C.hK, (ap_D hD).weaken (fun _ _ _ _ => trivial)⟩⟩ rfl hnA hl.1 hst (lv_room hcat) hdg hkn) hS (fun q _ h => ap_F hD hS C.hA q h) (ap_F hD hS C.hA) (fun u t H1 locs1 ht hvm hw hB hz1 hk1 hS1 => kk u.1 u.2 hw (va_K.moved hvm.symm hB.2.1) H1 locs1 ls (ap_join hP hD hk1 (ap_F hD hS C.hA) (ht ▸ hB.1) hB.2.2).1 (ap_join hP hD hk1 (ap_F hD hS C.hA) (ht ▸ hB.1) hB.2.2).2 hS1 hl)
end GR
end
section
theorem dX0_init_0 : decode cX0_init 0 = .ok (.aload_n 0, 1) := by decide +kernel
theorem dX0_init_1 : decode cX0_init 1 = .ok (.invokespecial 3, 3) := by decide +kernel
theorem dX0_init_4 : decode cX0_init 4 = .ok (.aload_n 0, 1) := by decide +kernel
theorem dX0_init_5 : decode cX0_init 5 = .ok (.iconst 5, 1) := by decide +kernel
theorem dX0_init_6 : decode cX0_init 6 = .ok (.newarray .int, 2) := by decide +kernel
theorem dX0_init_8 : decode cX0_init 8 = .ok (.putfield 9, 3) := by decide +kernel
theorem dX0_init_11 : decode cX0_init 11 = .ok (.aload_n 0, 1) := by decide +kernel
theorem dX0_init_12 : decode cX0_init 12 = .ok (.iconst 5, 1) := by decide +kernel
theorem dX0_init_13 : decode cX0_init 13 = .ok (.newarray .int, 2) := by decide +kernel
theorem dX0_init_15 : decode cX0_init 15 = .ok (.putfield 15, 3) := by decide +kernel
theorem dX0_init_18 : decode cX0_init 18 = .ok (.aload_n 0, 1) := by decide +kernel
theorem dX0_init_19 : decode cX0_init 19 = .ok (.iconst 5, 1) := by decide +kernel
theorem dX0_init_20 : decode cX0_init 20 = .ok (.newarray .int, 2) := by decide +kernel
theorem dX0_init_22 : decode cX0_init 22 = .ok (.putfield 18, 3) := by decide +kernel
theorem dX0_init_25 : decode cX0_init 25 = .ok (.aload_n 0, 1) := by decide +kernel
theorem dX0_init_26 : decode cX0_init 26 = .ok (.iconst 5, 1) := by decide +kernel
theorem dX0_init_27 : decode cX0_init 27 = .ok (.newarray .int, 2) := by decide +kernel
theorem dX0_init_29 : decode cX0_init 29 = .ok (.putfield 21, 3) := by decide +kernel
theorem dX0_init_32 : decode cX0_init 32 = .ok (.aload_n 0, 1) := by decide +kernel
theorem dX0_init_33 : decode cX0_init 33 = .ok (.iconst 5, 1) := by decide +kernel
theorem dX0_init_34 : decode cX0_init 34 = .ok (.newarray .boolean, 2) := by decide +kernel
theorem dX0_init_36 : decode cX0_init 36 = .ok (.putfield 24, 3) := by decide +kernel
theorem dX0_init_39 : decode cX0_init 39 = .ok (.aload_n 0, 1) := by decide +kernel
theorem dX0_init_40 : decode cX0_init 40 = .ok (.bipush 6, 2) := by decide +kernel
theorem dX0_init_42 : decode cX0_init 42 = .ok (.newarray .int, 2) := by decide +kernel
theorem dX0_init_44 : decode cX0_init 44 = .ok (.putfield 28, 3) := by decide +kernel
theorem dX0_init_47 : decode cX0_init 47 = .ok (.aload_n 0, 1) := by decide +kernel
theorem dX0_init_48 : decode cX0_init 48 = .ok (.bipush 6, 2) := by decide +kernel
theorem dX0_init_50 : decode cX0_init 50 = .ok (.newarray .int, 2) := by decide +kernel
theorem dX0_init_52 : decode cX0_init 52 = .ok (.putfield 31, 3) := by decide +kernel
theorem dX0_init_55 : decode cX0_init 55 = .ok (.aload_n 0, 1) := by decide +kernel
theorem dX0_init_56 : decode cX0_init 56 = .ok (.bipush 6, 2) := by decide +kernel
theorem dX0_init_58 : decode cX0_init 58 = .ok (.newarray .int, 2) := by decide +kernel
theorem dX0_init_60 : decode cX0_init 60 = .ok (.putfield 34, 3) := by decide +kernel
theorem dX0_init_63 : decode cX0_init 63 = .ok (.aload_n 0, 1) := by decide +kernel
theorem dX0_init_64 : decode cX0_init 64 = .ok (.bipush 6, 2) := by decide +kernel
theorem dX0_init_66 : decode cX0_init 66 = .ok (.newarray .int, 2) := by decide +kernel
theorem dX0_init_68 : decode cX0_init 68 = .ok (.putfield 37, 3) := by decide +kernel
theorem dX0_init_71 : decode cX0_init 71 = .ok (.aload_n 0, 1) := by decide +kernel
theorem dX0_init_72 : decode cX0_init 72 = .ok (.iconst 5, 1) := by decide +kernel
theorem dX0_init_73 : decode cX0_init 73 = .ok (.newarray .int, 2) := by decide +kernel
theorem dX0_init_75 : decode cX0_init 75 = .ok (.putfield 40, 3) := by decide +kernel
theorem dX0_init_78 : decode cX0_init 78 = .ok (.aload_n 0, 1) := by decide +kernel
theorem dX0_init_79 : decode cX0_init 79 = .ok (.bipush 6, 2) := by decide +kernel
theorem dX0_init_81 : decode cX0_init 81 = .ok (.iconst 5, 1) := by decide +kernel
theorem dX0_init_82 : decode cX0_init 82 = .ok (.multianewarray 43 2, 4) := by decide +kernel
theorem dX0_init_86 : decode cX0_init 86 = .ok (.putfield 45, 3) := by decide +kernel
theorem dX0_init_89 : decode cX0_init 89 = .ok (.return_, 1) := by decide +kernel
theorem dX0_addCell_0 : decode cX0_addCell 0 = .ok (.aload_n 0, 1) := by decide +kernel
theorem dX0_addCell_1 : decode cX0_addCell 1 = .ok (.getfield 48, 3) := by decide +kernel
theorem dX0_addCell_4 : decode cX0_addCell 4 = .ok (.istore 5, 2) := by decide +kernel
theorem dX0_addCell_6 : decode cX0_addCell 6 = .ok (.aload_n 0, 1) := by decide +kernel
theorem dX0_addCell_7 : decode cX0_addCell 7 = .ok (.getfield 9, 3) := by decide +kernel
theorem dX0_addCell_10 : decode cX0_addCell 10 = .ok (.iload 5, 2) := by decide +kernel
theorem dX0_addCell_12 : decode cX0_addCell 12 = .ok (.iload_n 1, 1) := by decide +kernel
theorem dX0_addCell_13 : decode cX0_addCell 13 = .ok (.iastore, 1) := by decide +kernel
theorem dX0_addCell_14 : decode cX0_addCell 14 = .ok (.aload_n 0, 1) := by decide +kernel
theorem dX0_addCell_15 : decode cX0_addCell 15 = .ok (.getfield 15, 3) := by decide +kernel
theorem dX0_addCell_18 : decode cX0_addCell 18 = .ok (.iload 5, 2) := by decide +kernel
theorem dX0_addCell_20 : decode cX0_addCell 20 = .ok (.iload_n 2, 1) := by decide +kernel
theorem dX0_addCell_21 : decode cX0_addCell 21 = .ok (.iastore, 1) := by decide +kernel
theorem dX0_addCell_22 : decode cX0_addCell 22 = .ok (.aload_n 0, 1) := by decide +kernel
theorem dX0_addCell_23 : decode cX0_addCell 23 = .ok (.getfield 18, 3) := by decide +kernel
theorem dX0_addCell_26 : decode cX0_addCell 26 = .ok (.iload 5, 2) := by decide +kernel
theorem dX0_addCell_28 : decode cX0_addCell 28 = .ok (.iload_n 3, 1) := by decide +kernel
theorem dX0_addCell_29 : decode cX0_addCell 29 = .ok (.iastore, 1) := by decide +kernel
theorem dX0_addCell_30 : decode cX0_addCell 30 = .ok (.aload_n 0, 1) := by decide +kernel
theorem dX0_addCell_31 : decode cX0_addCell 31 = .ok (.getfield 21, 3) := by decide +kernel
theorem dX0_addCell_34 : decode cX0_addCell 34 = .ok (.iload 5, 2) := by decide +kernel
theorem dX0_addCell_36 : decode cX0_addCell 36 = .ok (.iload 4, 2) := by decide +kernel
theorem dX0_addCell_38 : decode cX0_addCell 38 = .ok (.iastore, 1) := by decide +kernel
theorem dX0_addCell_39 : decode cX0_addCell 39 = .ok (.aload_n 0, 1) := by decide +kernel
theorem dX0_addCell_40 : decode cX0_addCell 40 = .ok (.getfield 24, 3) := by decide +kernel
theorem dX0_addCell_43 : decode cX0_addCell 43 = .ok (.iload 5, 2) := by decide +kernel
theorem dX0_addCell_45 : decode cX0_addCell 45 = .ok (.iconst 1, 1) := by decide +kernel
theorem dX0_addCell_46 : decode cX0_addCell 46 = .ok (.bastore, 1) := by decide +kernel
theorem dX0_addCell_47 : decode cX0_addCell 47 = .ok (.aload_n 0, 1) := by decide +kernel
theorem dX0_addCell_48 : decode cX0_addCell 48 = .ok (.dup, 1) := by decide +kernel
theorem dX0_addCell_49 : decode cX0_addCell 49 = .ok (.getfield 48, 3) := by decide +kernel
theorem dX0_addCell_52 : decode cX0_addCell 52 = .ok (.iconst 1, 1) := by decide +kernel
theorem dX0_addCell_53 : decode cX0_addCell 53 = .ok (.iadd, 1) := by decide +kernel
theorem dX0_addCell_54 : decode cX0_addCell 54 = .ok (.putfield 48, 3) := by decide +kernel
theorem dX0_addCell_57 : decode cX0_addCell 57 = .ok (.iload 5, 2) := by decide +kernel
theorem dX0_addCell_59 : decode cX0_addCell 59 = .ok (.ireturn, 1) := by decide +kernel
theorem dX0_addWalker_0 : decode cX0_addWalker 0 = .ok (.aload_n 0, 1) := by decide +kernel
theorem dX0_addWalker_1 : decode cX0_addWalker 1 = .ok (.getfield 52, 3) := by decide +kernel
theorem dX0_addWalker_4 : decode cX0_addWalker 4 = .ok (.istore 4, 2) := by decide +kernel
theorem dX0_addWalker_6 : decode cX0_addWalker 6 = .ok (.aload_n 0, 1) := by decide +kernel
theorem dX0_addWalker_7 : decode cX0_addWalker 7 = .ok (.getfield 28, 3) := by decide +kernel
theorem dX0_addWalker_10 : decode cX0_addWalker 10 = .ok (.iload 4, 2) := by decide +kernel
theorem dX0_addWalker_12 : decode cX0_addWalker 12 = .ok (.iload_n 1, 1) := by decide +kernel
theorem dX0_addWalker_13 : decode cX0_addWalker 13 = .ok (.iastore, 1) := by decide +kernel
theorem dX0_addWalker_14 : decode cX0_addWalker 14 = .ok (.aload_n 0, 1) := by decide +kernel
theorem dX0_addWalker_15 : decode cX0_addWalker 15 = .ok (.getfield 31, 3) := by decide +kernel
theorem dX0_addWalker_18 : decode cX0_addWalker 18 = .ok (.iload 4, 2) := by decide +kernel
theorem dX0_addWalker_20 : decode cX0_addWalker 20 = .ok (.iload_n 2, 1) := by decide +kernel
theorem dX0_addWalker_21 : decode cX0_addWalker 21 = .ok (.iastore, 1) := by decide +kernel
theorem dX0_addWalker_22 : decode cX0_addWalker 22 = .ok (.aload_n 0, 1) := by decide +kernel
theorem dX0_addWalker_23 : decode cX0_addWalker 23 = .ok (.getfield 34, 3) := by decide +kernel
theorem dX0_addWalker_26 : decode cX0_addWalker 26 = .ok (.iload 4, 2) := by decide +kernel
theorem dX0_addWalker_28 : decode cX0_addWalker 28 = .ok (.iload_n 3, 1) := by decide +kernel
theorem dX0_addWalker_29 : decode cX0_addWalker 29 = .ok (.iastore, 1) := by decide +kernel
theorem dX0_addWalker_30 : decode cX0_addWalker 30 = .ok (.aload_n 0, 1) := by decide +kernel
theorem dX0_addWalker_31 : decode cX0_addWalker 31 = .ok (.getfield 37, 3) := by decide +kernel
theorem dX0_addWalker_34 : decode cX0_addWalker 34 = .ok (.iload 4, 2) := by decide +kernel
theorem dX0_addWalker_36 : decode cX0_addWalker 36 = .ok (.iconst (-1), 1) := by decide +kernel
theorem dX0_addWalker_37 : decode cX0_addWalker 37 = .ok (.iastore, 1) := by decide +kernel
theorem dX0_addWalker_38 : decode cX0_addWalker 38 = .ok (.aload_n 0, 1) := by decide +kernel
theorem dX0_addWalker_39 : decode cX0_addWalker 39 = .ok (.dup, 1) := by decide +kernel
theorem dX0_addWalker_40 : decode cX0_addWalker 40 = .ok (.getfield 52, 3) := by decide +kernel
theorem dX0_addWalker_43 : decode cX0_addWalker 43 = .ok (.iconst 1, 1) := by decide +kernel
theorem dX0_addWalker_44 : decode cX0_addWalker 44 = .ok (.iadd, 1) := by decide +kernel
theorem dX0_addWalker_45 : decode cX0_addWalker 45 = .ok (.putfield 52, 3) := by decide +kernel
theorem dX0_addWalker_48 : decode cX0_addWalker 48 = .ok (.iload 4, 2) := by decide +kernel
theorem dX0_addWalker_50 : decode cX0_addWalker 50 = .ok (.ireturn, 1) := by decide +kernel
theorem dX0_loadOf_0 : decode cX0_loadOf 0 = .ok (.iconst 0, 1) := by decide +kernel
theorem dX0_loadOf_1 : decode cX0_loadOf 1 = .ok (.istore_n 2, 1) := by decide +kernel
theorem dX0_loadOf_2 : decode cX0_loadOf 2 = .ok (.iconst 0, 1) := by decide +kernel
theorem dX0_loadOf_3 : decode cX0_loadOf 3 = .ok (.istore_n 3, 1) := by decide +kernel
theorem dX0_loadOf_4 : decode cX0_loadOf 4 = .ok (.iload_n 3, 1) := by decide +kernel
theorem dX0_loadOf_5 : decode cX0_loadOf 5 = .ok (.aload_n 0, 1) := by decide +kernel
theorem dX0_loadOf_6 : decode cX0_loadOf 6 = .ok (.getfield 52, 3) := by decide +kernel
theorem dX0_loadOf_9 : decode cX0_loadOf 9 = .ok (.if_icmp .ge 28, 3) := by decide +kernel
theorem dX0_loadOf_12 : decode cX0_loadOf 12 = .ok (.aload_n 0, 1) := by decide +kernel
theorem dX0_loadOf_13 : decode cX0_loadOf 13 = .ok (.getfield 37, 3) := by decide +kernel
theorem dX0_loadOf_16 : decode cX0_loadOf 16 = .ok (.iload_n 3, 1) := by decide +kernel
theorem dX0_loadOf_17 : decode cX0_loadOf 17 = .ok (.iaload, 1) := by decide +kernel
theorem dX0_loadOf_18 : decode cX0_loadOf 18 = .ok (.iload_n 1, 1) := by decide +kernel
theorem dX0_loadOf_19 : decode cX0_loadOf 19 = .ok (.if_icmp .ne 12, 3) := by decide +kernel
theorem dX0_loadOf_22 : decode cX0_loadOf 22 = .ok (.iload_n 2, 1) := by decide +kernel
theorem dX0_loadOf_23 : decode cX0_loadOf 23 = .ok (.aload_n 0, 1) := by decide +kernel
theorem dX0_loadOf_24 : decode cX0_loadOf 24 = .ok (.getfield 34, 3) := by decide +kernel
theorem dX0_loadOf_27 : decode cX0_loadOf 27 = .ok (.iload_n 3, 1) := by decide +kernel
theorem dX0_loadOf_28 : decode cX0_loadOf 28 = .ok (.iaload, 1) := by decide +kernel
theorem dX0_loadOf_29 : decode cX0_loadOf 29 = .ok (.iadd, 1) := by decide +kernel
theorem dX0_loadOf_30 : decode cX0_loadOf 30 = .ok (.istore_n 2, 1) := by decide +kernel
theorem dX0_loadOf_31 : decode cX0_loadOf 31 = .ok (.iinc 3 1, 3) := by decide +kernel
theorem dX0_loadOf_34 : decode cX0_loadOf 34 = .ok (.goto (-30), 3) := by decide +kernel
theorem dX0_loadOf_37 : decode cX0_loadOf 37 = .ok (.iload_n 2, 1) := by decide +kernel
theorem dX0_loadOf_38 : decode cX0_loadOf 38 = .ok (.ireturn, 1) := by decide +kernel
set_option maxRecDepth 20000 in
theorem ggX0_useOf_X0_loadOf : GoodIn wsX0_useOf wsX0_loadOf := goodIn_r _ [6, 7, 8, 9, 10, 11, 12, 13, 14, 15, 16, 17, 18, 19, 20, 21, 22] (by decide +kernel) (by decide +kernel)
set_option maxRecDepth 20000 in
theorem gX0_useOf_X0_loadOf : GoodIn wsX0_useOf (wsV RX0 55 RX0 yX0_loadOf wsX0_loadOf) := goodIn_app (goodIn_of _ (by decide +kernel)) ggX0_useOf_X0_loadOf
theorem dX0_useOf_0 : decode cX0_useOf 0 = .ok (.aload_n 0, 1) := by decide +kernel
theorem dX0_useOf_1 : decode cX0_useOf 1 = .ok (.getfield 21, 3) := by decide +kernel
theorem dX0_useOf_4 : decode cX0_useOf 4 = .ok (.iload_n 1, 1) := by decide +kernel
theorem dX0_useOf_5 : decode cX0_useOf 5 = .ok (.iaload, 1) := by decide +kernel
theorem dX0_useOf_6 : decode cX0_useOf 6 = .ok (.ifCond .le 21, 3) := by decide +kernel
theorem dX0_useOf_9 : decode cX0_useOf 9 = .ok (.bipush 100, 2) := by decide +kernel
theorem dX0_useOf_11 : decode cX0_useOf 11 = .ok (.aload_n 0, 1) := by decide +kernel
theorem dX0_useOf_12 : decode cX0_useOf 12 = .ok (.iload_n 1, 1) := by decide +kernel
theorem dX0_useOf_13 : decode cX0_useOf 13 = .ok (.invokevirtual 55, 3) := by decide +kernel
theorem dX0_useOf_16 : decode cX0_useOf 16 = .ok (.imul, 1) := by decide +kernel
theorem dX0_useOf_17 : decode cX0_useOf 17 = .ok (.aload_n 0, 1) := by decide +kernel
theorem dX0_useOf_18 : decode cX0_useOf 18 = .ok (.getfield 21, 3) := by decide +kernel
theorem dX0_useOf_21 : decode cX0_useOf 21 = .ok (.iload_n 1, 1) := by decide +kernel
theorem dX0_useOf_22 : decode cX0_useOf 22 = .ok (.iaload, 1) := by decide +kernel
theorem dX0_useOf_23 : decode cX0_useOf 23 = .ok (.idiv, 1) := by decide +kernel
theorem dX0_useOf_24 : decode cX0_useOf 24 = .ok (.goto 4, 3) := by decide +kernel
theorem dX0_useOf_27 : decode cX0_useOf 27 = .ok (.iconst 0, 1) := by decide +kernel
theorem dX0_useOf_28 : decode cX0_useOf 28 = .ok (.ireturn, 1) := by decide +kernel
theorem dX0_signalOf_0 : decode cX0_signalOf 0 = .ok (.aload_n 0, 1) := by decide +kernel
theorem dX0_signalOf_1 : decode cX0_signalOf 1 = .ok (.getfield 9, 3) := by decide +kernel
theorem dX0_signalOf_4 : decode cX0_signalOf 4 = .ok (.iload_n 1, 1) := by decide +kernel
theorem dX0_signalOf_5 : decode cX0_signalOf 5 = .ok (.iaload, 1) := by decide +kernel
theorem dX0_signalOf_6 : decode cX0_signalOf 6 = .ok (.aload_n 0, 1) := by decide +kernel
theorem dX0_signalOf_7 : decode cX0_signalOf 7 = .ok (.getfield 28, 3) := by decide +kernel
theorem dX0_signalOf_10 : decode cX0_signalOf 10 = .ok (.iload_n 2, 1) := by decide +kernel
theorem dX0_signalOf_11 : decode cX0_signalOf 11 = .ok (.iaload, 1) := by decide +kernel
theorem dX0_signalOf_12 : decode cX0_signalOf 12 = .ok (.isub, 1) := by decide +kernel
theorem dX0_signalOf_13 : decode cX0_signalOf 13 = .ok (.invokestatic 59, 3) := by decide +kernel
theorem dX0_signalOf_16 : decode cX0_signalOf 16 = .ok (.aload_n 0, 1) := by decide +kernel
theorem dX0_signalOf_17 : decode cX0_signalOf 17 = .ok (.getfield 15, 3) := by decide +kernel
theorem dX0_signalOf_20 : decode cX0_signalOf 20 = .ok (.iload_n 1, 1) := by decide +kernel
theorem dX0_signalOf_21 : decode cX0_signalOf 21 = .ok (.iaload, 1) := by decide +kernel
theorem dX0_signalOf_22 : decode cX0_signalOf 22 = .ok (.aload_n 0, 1) := by decide +kernel
theorem dX0_signalOf_23 : decode cX0_signalOf 23 = .ok (.getfield 31, 3) := by decide +kernel
theorem dX0_signalOf_26 : decode cX0_signalOf 26 = .ok (.iload_n 2, 1) := by decide +kernel
theorem dX0_signalOf_27 : decode cX0_signalOf 27 = .ok (.iaload, 1) := by decide +kernel
theorem dX0_signalOf_28 : decode cX0_signalOf 28 = .ok (.isub, 1) := by decide +kernel
theorem dX0_signalOf_29 : decode cX0_signalOf 29 = .ok (.invokestatic 59, 3) := by decide +kernel
theorem dX0_signalOf_32 : decode cX0_signalOf 32 = .ok (.iadd, 1) := by decide +kernel
theorem dX0_signalOf_33 : decode cX0_signalOf 33 = .ok (.istore_n 3, 1) := by decide +kernel
theorem dX0_signalOf_34 : decode cX0_signalOf 34 = .ok (.sipush 16000, 3) := by decide +kernel
theorem dX0_signalOf_37 : decode cX0_signalOf 37 = .ok (.iload_n 3, 1) := by decide +kernel
theorem dX0_signalOf_38 : decode cX0_signalOf 38 = .ok (.iconst 2, 1) := by decide +kernel
theorem dX0_signalOf_39 : decode cX0_signalOf 39 = .ok (.iadd, 1) := by decide +kernel
theorem dX0_signalOf_40 : decode cX0_signalOf 40 = .ok (.iload_n 3, 1) := by decide +kernel
theorem dX0_signalOf_41 : decode cX0_signalOf 41 = .ok (.iconst 2, 1) := by decide +kernel
theorem dX0_signalOf_42 : decode cX0_signalOf 42 = .ok (.iadd, 1) := by decide +kernel
theorem dX0_signalOf_43 : decode cX0_signalOf 43 = .ok (.imul, 1) := by decide +kernel
theorem dX0_signalOf_44 : decode cX0_signalOf 44 = .ok (.idiv, 1) := by decide +kernel
theorem dX0_signalOf_45 : decode cX0_signalOf 45 = .ok (.ireturn, 1) := by decide +kernel
set_option maxRecDepth 20000 in
theorem ggX0_measure_X0_useOf : GoodIn wsX0_measure wsX0_useOf := goodIn_r _ [9, 10, 11, 12, 13, 8, 14, 3, 15, 16, 35, 36, 37, 38, 39, 40, 41, 42, 43, 44, 45, 46, 47] (by decide +kernel) (by decide +kernel)
set_option maxRecDepth 20000 in
theorem gX0_measure_X0_useOf : GoodIn wsX0_measure (wsV RX0 64 RX0 yX0_useOf wsX0_useOf) := goodIn_app (goodIn_of _ (by decide +kernel)) ggX0_measure_X0_useOf
set_option maxRecDepth 20000 in
theorem ggX0_measure_X0_signalOf : GoodIn wsX0_measure wsX0_signalOf := goodIn_r _ [20, 21, 22, 23, 24, 25, 26, 27, 28, 35, 36, 37, 38, 39, 40, 41, 42, 43, 44, 45, 46, 47] (by decide +kernel) (by decide +kernel)
set_option maxRecDepth 20000 in
theorem gX0_measure_X0_signalOf : GoodIn wsX0_measure (wsV RX0 67 RX0 yX0_signalOf wsX0_signalOf) := goodIn_app (goodIn_of _ (by decide +kernel)) ggX0_measure_X0_signalOf
set_option maxRecDepth 20000 in
theorem ggX0_measure_X0_disturbances : GoodIn wsX0_measure wsX0_disturbances := goodIn_r _ [32, 1, 33, 34, 2, 17, 18, 19, 8, 20, 21, 22, 23, 24, 25, 26, 27, 28, 35, 36, 37, 38, 39, 40, 41, 42, 43, 44, 45, 46, 47] (by decide +kernel) (by decide +kernel)
set_option maxRecDepth 20000 in
theorem gX0_measure_X0_disturbances : GoodIn wsX0_measure (wsV RX0 71 RX0 yX0_disturbances wsX0_disturbances) := goodIn_app (goodIn_of _ (by decide +kernel)) ggX0_measure_X0_disturbances
theorem dX0_measure_0 : decode cX0_measure 0 = .ok (.iconst 0, 1) := by decide +kernel
theorem dX0_measure_1 : decode cX0_measure 1 = .ok (.istore_n 1, 1) := by decide +kernel
theorem dX0_measure_2 : decode cX0_measure 2 = .ok (.iload_n 1, 1) := by decide +kernel
theorem dX0_measure_3 : decode cX0_measure 3 = .ok (.aload_n 0, 1) := by decide +kernel
theorem dX0_measure_4 : decode cX0_measure 4 = .ok (.getfield 48, 3) := by decide +kernel
theorem dX0_measure_7 : decode cX0_measure 7 = .ok (.if_icmp .ge 20, 3) := by decide +kernel
theorem dX0_measure_10 : decode cX0_measure 10 = .ok (.aload_n 0, 1) := by decide +kernel
theorem dX0_measure_11 : decode cX0_measure 11 = .ok (.getfield 40, 3) := by decide +kernel
theorem dX0_measure_14 : decode cX0_measure 14 = .ok (.iload_n 1, 1) := by decide +kernel
theorem dX0_measure_15 : decode cX0_measure 15 = .ok (.aload_n 0, 1) := by decide +kernel
theorem dX0_measure_16 : decode cX0_measure 16 = .ok (.iload_n 1, 1) := by decide +kernel
theorem dX0_measure_17 : decode cX0_measure 17 = .ok (.invokevirtual 64, 3) := by decide +kernel
theorem dX0_measure_20 : decode cX0_measure 20 = .ok (.iastore, 1) := by decide +kernel
theorem dX0_measure_21 : decode cX0_measure 21 = .ok (.iinc 1 1, 3) := by decide +kernel
theorem dX0_measure_24 : decode cX0_measure 24 = .ok (.goto (-22), 3) := by decide +kernel
theorem dX0_measure_27 : decode cX0_measure 27 = .ok (.iconst 0, 1) := by decide +kernel
theorem dX0_measure_28 : decode cX0_measure 28 = .ok (.istore_n 1, 1) := by decide +kernel
theorem dX0_measure_29 : decode cX0_measure 29 = .ok (.iload_n 1, 1) := by decide +kernel
theorem dX0_measure_30 : decode cX0_measure 30 = .ok (.aload_n 0, 1) := by decide +kernel
theorem dX0_measure_31 : decode cX0_measure 31 = .ok (.getfield 52, 3) := by decide +kernel
theorem dX0_measure_34 : decode cX0_measure 34 = .ok (.if_icmp .ge 52, 3) := by decide +kernel
theorem dX0_measure_37 : decode cX0_measure 37 = .ok (.iconst 0, 1) := by decide +kernel
theorem dX0_measure_38 : decode cX0_measure 38 = .ok (.istore_n 2, 1) := by decide +kernel
theorem dX0_measure_39 : decode cX0_measure 39 = .ok (.iload_n 2, 1) := by decide +kernel
theorem dX0_measure_40 : decode cX0_measure 40 = .ok (.aload_n 0, 1) := by decide +kernel
theorem dX0_measure_41 : decode cX0_measure 41 = .ok (.getfield 48, 3) := by decide +kernel
theorem dX0_measure_44 : decode cX0_measure 44 = .ok (.if_icmp .ge 36, 3) := by decide +kernel
theorem dX0_measure_47 : decode cX0_measure 47 = .ok (.aload_n 0, 1) := by decide +kernel
theorem dX0_measure_48 : decode cX0_measure 48 = .ok (.getfield 45, 3) := by decide +kernel
theorem dX0_measure_51 : decode cX0_measure 51 = .ok (.iload_n 1, 1) := by decide +kernel
theorem dX0_measure_52 : decode cX0_measure 52 = .ok (.aaload, 1) := by decide +kernel
theorem dX0_measure_53 : decode cX0_measure 53 = .ok (.iload_n 2, 1) := by decide +kernel
theorem dX0_measure_54 : decode cX0_measure 54 = .ok (.bipush 100, 2) := by decide +kernel
theorem dX0_measure_56 : decode cX0_measure 56 = .ok (.aload_n 0, 1) := by decide +kernel
theorem dX0_measure_57 : decode cX0_measure 57 = .ok (.iload_n 2, 1) := by decide +kernel
theorem dX0_measure_58 : decode cX0_measure 58 = .ok (.iload_n 1, 1) := by decide +kernel
theorem dX0_measure_59 : decode cX0_measure 59 = .ok (.invokevirtual 67, 3) := by decide +kernel
theorem dX0_measure_62 : decode cX0_measure 62 = .ok (.imul, 1) := by decide +kernel
theorem dX0_measure_63 : decode cX0_measure 63 = .ok (.bipush 10, 2) := by decide +kernel
theorem dX0_measure_65 : decode cX0_measure 65 = .ok (.aload_n 0, 1) := by decide +kernel
theorem dX0_measure_66 : decode cX0_measure 66 = .ok (.iload_n 2, 1) := by decide +kernel
theorem dX0_measure_67 : decode cX0_measure 67 = .ok (.iload_n 1, 1) := by decide +kernel
theorem dX0_measure_68 : decode cX0_measure 68 = .ok (.invokevirtual 71, 3) := by decide +kernel
theorem dX0_measure_71 : decode cX0_measure 71 = .ok (.iadd, 1) := by decide +kernel
theorem dX0_measure_72 : decode cX0_measure 72 = .ok (.idiv, 1) := by decide +kernel
theorem dX0_measure_73 : decode cX0_measure 73 = .ok (.iastore, 1) := by decide +kernel
theorem dX0_measure_74 : decode cX0_measure 74 = .ok (.iinc 2 1, 3) := by decide +kernel
theorem dX0_measure_77 : decode cX0_measure 77 = .ok (.goto (-38), 3) := by decide +kernel
theorem dX0_measure_80 : decode cX0_measure 80 = .ok (.iinc 1 1, 3) := by decide +kernel
theorem dX0_measure_83 : decode cX0_measure 83 = .ok (.goto (-54), 3) := by decide +kernel
theorem dX0_measure_86 : decode cX0_measure 86 = .ok (.return_, 1) := by decide +kernel
set_option maxRecDepth 20000 in
theorem ggX0_disturbances_X0_signalOf : GoodIn wsX0_disturbances wsX0_signalOf := goodIn_r _ [9, 10, 11, 12, 13, 14, 15, 16, 17, 18, 19, 20, 21, 22, 23, 24, 25, 26, 27, 28, 29, 30] (by decide +kernel) (by decide +kernel)
set_option maxRecDepth 20000 in
theorem gX0_disturbances_X0_signalOf : GoodIn wsX0_disturbances (wsV RX0 67 RX0 yX0_signalOf wsX0_signalOf) := goodIn_app (goodIn_of _ (by decide +kernel)) ggX0_disturbances_X0_signalOf
theorem dX0_disturbances_0 : decode cX0_disturbances 0 = .ok (.iconst 0, 1) := by decide +kernel
theorem dX0_disturbances_1 : decode cX0_disturbances 1 = .ok (.istore_n 3, 1) := by decide +kernel
theorem dX0_disturbances_2 : decode cX0_disturbances 2 = .ok (.iconst 0, 1) := by decide +kernel
theorem dX0_disturbances_3 : decode cX0_disturbances 3 = .ok (.istore 4, 2) := by decide +kernel
theorem dX0_disturbances_5 : decode cX0_disturbances 5 = .ok (.iload 4, 2) := by decide +kernel
theorem dX0_disturbances_7 : decode cX0_disturbances 7 = .ok (.aload_n 0, 1) := by decide +kernel
theorem dX0_disturbances_8 : decode cX0_disturbances 8 = .ok (.getfield 48, 3) := by decide +kernel
theorem dX0_disturbances_11 : decode cX0_disturbances 11 = .ok (.if_icmp .ge 62, 3) := by decide +kernel
theorem dX0_disturbances_14 : decode cX0_disturbances 14 = .ok (.iload 4, 2) := by decide +kernel
theorem dX0_disturbances_16 : decode cX0_disturbances 16 = .ok (.iload_n 1, 1) := by decide +kernel
theorem dX0_disturbances_17 : decode cX0_disturbances 17 = .ok (.if_icmp .eq 50, 3) := by decide +kernel
theorem dX0_disturbances_20 : decode cX0_disturbances 20 = .ok (.aload_n 0, 1) := by decide +kernel
theorem dX0_disturbances_21 : decode cX0_disturbances 21 = .ok (.getfield 24, 3) := by decide +kernel
theorem dX0_disturbances_24 : decode cX0_disturbances 24 = .ok (.iload 4, 2) := by decide +kernel
theorem dX0_disturbances_26 : decode cX0_disturbances 26 = .ok (.baload, 1) := by decide +kernel
theorem dX0_disturbances_27 : decode cX0_disturbances 27 = .ok (.ifCond .eq 40, 3) := by decide +kernel
theorem dX0_disturbances_30 : decode cX0_disturbances 30 = .ok (.aload_n 0, 1) := by decide +kernel
theorem dX0_disturbances_31 : decode cX0_disturbances 31 = .ok (.getfield 18, 3) := by decide +kernel
theorem dX0_disturbances_34 : decode cX0_disturbances 34 = .ok (.iload 4, 2) := by decide +kernel
theorem dX0_disturbances_36 : decode cX0_disturbances 36 = .ok (.iaload, 1) := by decide +kernel
theorem dX0_disturbances_37 : decode cX0_disturbances 37 = .ok (.aload_n 0, 1) := by decide +kernel
theorem dX0_disturbances_38 : decode cX0_disturbances 38 = .ok (.getfield 18, 3) := by decide +kernel
theorem dX0_disturbances_41 : decode cX0_disturbances 41 = .ok (.iload_n 1, 1) := by decide +kernel
theorem dX0_disturbances_42 : decode cX0_disturbances 42 = .ok (.iaload, 1) := by decide +kernel
theorem dX0_disturbances_43 : decode cX0_disturbances 43 = .ok (.if_icmp .ne 24, 3) := by decide +kernel
theorem dX0_disturbances_46 : decode cX0_disturbances 46 = .ok (.iload_n 3, 1) := by decide +kernel
theorem dX0_disturbances_47 : decode cX0_disturbances 47 = .ok (.aload_n 0, 1) := by decide +kernel
theorem dX0_disturbances_48 : decode cX0_disturbances 48 = .ok (.iload 4, 2) := by decide +kernel
theorem dX0_disturbances_50 : decode cX0_disturbances 50 = .ok (.iload_n 2, 1) := by decide +kernel
theorem dX0_disturbances_51 : decode cX0_disturbances 51 = .ok (.invokevirtual 67, 3) := by decide +kernel
theorem dX0_disturbances_54 : decode cX0_disturbances 54 = .ok (.aload_n 0, 1) := by decide +kernel
theorem dX0_disturbances_55 : decode cX0_disturbances 55 = .ok (.getfield 40, 3) := by decide +kernel
theorem dX0_disturbances_58 : decode cX0_disturbances 58 = .ok (.iload 4, 2) := by decide +kernel
theorem dX0_disturbances_60 : decode cX0_disturbances 60 = .ok (.iaload, 1) := by decide +kernel
theorem dX0_disturbances_61 : decode cX0_disturbances 61 = .ok (.imul, 1) := by decide +kernel
theorem dX0_disturbances_62 : decode cX0_disturbances 62 = .ok (.bipush 100, 2) := by decide +kernel
theorem dX0_disturbances_64 : decode cX0_disturbances 64 = .ok (.idiv, 1) := by decide +kernel
theorem dX0_disturbances_65 : decode cX0_disturbances 65 = .ok (.iadd, 1) := by decide +kernel
theorem dX0_disturbances_66 : decode cX0_disturbances 66 = .ok (.istore_n 3, 1) := by decide +kernel
theorem dX0_disturbances_67 : decode cX0_disturbances 67 = .ok (.iinc 4 1, 3) := by decide +kernel
theorem dX0_disturbances_70 : decode cX0_disturbances 70 = .ok (.goto (-65), 3) := by decide +kernel
theorem dX0_disturbances_73 : decode cX0_disturbances 73 = .ok (.iload_n 3, 1) := by decide +kernel
theorem dX0_disturbances_74 : decode cX0_disturbances 74 = .ok (.ireturn, 1) := by decide +kernel
set_option maxRecDepth 20000 in
theorem ggX0_bestOther_X0_couldTake : GoodIn wsX0_bestOther wsX0_couldTake := goodIn_r _ [7, 8, 9, 10, 11, 12, 13, 14, 6, 15, 16, 17, 18, 19, 20, 21, 22, 23, 24, 25, 26, 27, 28, 29] (by decide +kernel) (by decide +kernel)
set_option maxRecDepth 20000 in
theorem gX0_bestOther_X0_couldTake : GoodIn wsX0_bestOther (wsV RX0 74 RX0 yX0_couldTake wsX0_couldTake) := goodIn_app (goodIn_of _ (by decide +kernel)) ggX0_bestOther_X0_couldTake
theorem dX0_bestOther_0 : decode cX0_bestOther 0 = .ok (.iconst (-1), 1) := by decide +kernel
theorem dX0_bestOther_1 : decode cX0_bestOther 1 = .ok (.istore_n 2, 1) := by decide +kernel
theorem dX0_bestOther_2 : decode cX0_bestOther 2 = .ok (.iconst 0, 1) := by decide +kernel
theorem dX0_bestOther_3 : decode cX0_bestOther 3 = .ok (.istore_n 3, 1) := by decide +kernel
theorem dX0_bestOther_4 : decode cX0_bestOther 4 = .ok (.iload_n 3, 1) := by decide +kernel
theorem dX0_bestOther_5 : decode cX0_bestOther 5 = .ok (.aload_n 0, 1) := by decide +kernel
theorem dX0_bestOther_6 : decode cX0_bestOther 6 = .ok (.getfield 48, 3) := by decide +kernel
theorem dX0_bestOther_9 : decode cX0_bestOther 9 = .ok (.if_icmp .ge 44, 3) := by decide +kernel
theorem dX0_bestOther_12 : decode cX0_bestOther 12 = .ok (.aload_n 0, 1) := by decide +kernel
theorem dX0_bestOther_13 : decode cX0_bestOther 13 = .ok (.iload_n 3, 1) := by decide +kernel
theorem dX0_bestOther_14 : decode cX0_bestOther 14 = .ok (.iload_n 1, 1) := by decide +kernel
theorem dX0_bestOther_15 : decode cX0_bestOther 15 = .ok (.invokevirtual 74, 3) := by decide +kernel
theorem dX0_bestOther_18 : decode cX0_bestOther 18 = .ok (.ifCond .eq 29, 3) := by decide +kernel
theorem dX0_bestOther_21 : decode cX0_bestOther 21 = .ok (.iload_n 2, 1) := by decide +kernel
theorem dX0_bestOther_22 : decode cX0_bestOther 22 = .ok (.iconst (-1), 1) := by decide +kernel
theorem dX0_bestOther_23 : decode cX0_bestOther 23 = .ok (.if_icmp .eq 22, 3) := by decide +kernel
theorem dX0_bestOther_26 : decode cX0_bestOther 26 = .ok (.aload_n 0, 1) := by decide +kernel
theorem dX0_bestOther_27 : decode cX0_bestOther 27 = .ok (.getfield 45, 3) := by decide +kernel
theorem dX0_bestOther_30 : decode cX0_bestOther 30 = .ok (.iload_n 1, 1) := by decide +kernel
theorem dX0_bestOther_31 : decode cX0_bestOther 31 = .ok (.aaload, 1) := by decide +kernel
theorem dX0_bestOther_32 : decode cX0_bestOther 32 = .ok (.iload_n 3, 1) := by decide +kernel
theorem dX0_bestOther_33 : decode cX0_bestOther 33 = .ok (.iaload, 1) := by decide +kernel
theorem dX0_bestOther_34 : decode cX0_bestOther 34 = .ok (.aload_n 0, 1) := by decide +kernel
theorem dX0_bestOther_35 : decode cX0_bestOther 35 = .ok (.getfield 45, 3) := by decide +kernel
theorem dX0_bestOther_38 : decode cX0_bestOther 38 = .ok (.iload_n 1, 1) := by decide +kernel
theorem dX0_bestOther_39 : decode cX0_bestOther 39 = .ok (.aaload, 1) := by decide +kernel
theorem dX0_bestOther_40 : decode cX0_bestOther 40 = .ok (.iload_n 2, 1) := by decide +kernel
theorem dX0_bestOther_41 : decode cX0_bestOther 41 = .ok (.iaload, 1) := by decide +kernel
theorem dX0_bestOther_42 : decode cX0_bestOther 42 = .ok (.if_icmp .le 5, 3) := by decide +kernel
theorem dX0_bestOther_45 : decode cX0_bestOther 45 = .ok (.iload_n 3, 1) := by decide +kernel
theorem dX0_bestOther_46 : decode cX0_bestOther 46 = .ok (.istore_n 2, 1) := by decide +kernel
theorem dX0_bestOther_47 : decode cX0_bestOther 47 = .ok (.iinc 3 1, 3) := by decide +kernel
theorem dX0_bestOther_50 : decode cX0_bestOther 50 = .ok (.goto (-46), 3) := by decide +kernel
theorem dX0_bestOther_53 : decode cX0_bestOther 53 = .ok (.iload_n 2, 1) := by decide +kernel
theorem dX0_bestOther_54 : decode cX0_bestOther 54 = .ok (.ireturn, 1) := by decide +kernel
set_option maxRecDepth 20000 in
theorem ggX0_couldTake_X0_loadOf : GoodIn wsX0_couldTake wsX0_loadOf := goodIn_r _ [9, 10, 2, 3, 11, 12, 13, 14, 15, 16, 17, 18, 19, 20, 21, 22, 23] (by decide +kernel) (by decide +kernel)
set_option maxRecDepth 20000 in
theorem gX0_couldTake_X0_loadOf : GoodIn wsX0_couldTake (wsV RX0 55 RX0 yX0_loadOf wsX0_loadOf) := goodIn_app (goodIn_of _ (by decide +kernel)) ggX0_couldTake_X0_loadOf
theorem dX0_couldTake_0 : decode cX0_couldTake 0 = .ok (.aload_n 0, 1) := by decide +kernel
theorem dX0_couldTake_1 : decode cX0_couldTake 1 = .ok (.getfield 24, 3) := by decide +kernel
theorem dX0_couldTake_4 : decode cX0_couldTake 4 = .ok (.iload_n 1, 1) := by decide +kernel
theorem dX0_couldTake_5 : decode cX0_couldTake 5 = .ok (.baload, 1) := by decide +kernel
theorem dX0_couldTake_6 : decode cX0_couldTake 6 = .ok (.ifCond .eq 38, 3) := by decide +kernel
theorem dX0_couldTake_9 : decode cX0_couldTake 9 = .ok (.aload_n 0, 1) := by decide +kernel
theorem dX0_couldTake_10 : decode cX0_couldTake 10 = .ok (.getfield 37, 3) := by decide +kernel
theorem dX0_couldTake_13 : decode cX0_couldTake 13 = .ok (.iload_n 2, 1) := by decide +kernel
theorem dX0_couldTake_14 : decode cX0_couldTake 14 = .ok (.iaload, 1) := by decide +kernel
theorem dX0_couldTake_15 : decode cX0_couldTake 15 = .ok (.iload_n 1, 1) := by decide +kernel
theorem dX0_couldTake_16 : decode cX0_couldTake 16 = .ok (.if_icmp .eq 28, 3) := by decide +kernel
theorem dX0_couldTake_19 : decode cX0_couldTake 19 = .ok (.aload_n 0, 1) := by decide +kernel
theorem dX0_couldTake_20 : decode cX0_couldTake 20 = .ok (.iload_n 1, 1) := by decide +kernel
theorem dX0_couldTake_21 : decode cX0_couldTake 21 = .ok (.invokevirtual 55, 3) := by decide +kernel
theorem dX0_couldTake_24 : decode cX0_couldTake 24 = .ok (.aload_n 0, 1) := by decide +kernel
theorem dX0_couldTake_25 : decode cX0_couldTake 25 = .ok (.getfield 34, 3) := by decide +kernel
theorem dX0_couldTake_28 : decode cX0_couldTake 28 = .ok (.iload_n 2, 1) := by decide +kernel
theorem dX0_couldTake_29 : decode cX0_couldTake 29 = .ok (.iaload, 1) := by decide +kernel
theorem dX0_couldTake_30 : decode cX0_couldTake 30 = .ok (.iadd, 1) := by decide +kernel
theorem dX0_couldTake_31 : decode cX0_couldTake 31 = .ok (.aload_n 0, 1) := by decide +kernel
theorem dX0_couldTake_32 : decode cX0_couldTake 32 = .ok (.getfield 21, 3) := by decide +kernel
theorem dX0_couldTake_35 : decode cX0_couldTake 35 = .ok (.iload_n 1, 1) := by decide +kernel
theorem dX0_couldTake_36 : decode cX0_couldTake 36 = .ok (.iaload, 1) := by decide +kernel
theorem dX0_couldTake_37 : decode cX0_couldTake 37 = .ok (.if_icmp .gt 7, 3) := by decide +kernel
theorem dX0_couldTake_40 : decode cX0_couldTake 40 = .ok (.iconst 1, 1) := by decide +kernel
theorem dX0_couldTake_41 : decode cX0_couldTake 41 = .ok (.goto 4, 3) := by decide +kernel
theorem dX0_couldTake_44 : decode cX0_couldTake 44 = .ok (.iconst 0, 1) := by decide +kernel
theorem dX0_couldTake_45 : decode cX0_couldTake 45 = .ok (.ireturn, 1) := by decide +kernel
theorem dX1_init_0 : decode cX1_init 0 = .ok (.aload_n 0, 1) := by decide +kernel
theorem dX1_init_1 : decode cX1_init 1 = .ok (.invokespecial 3, 3) := by decide +kernel
theorem dX1_init_4 : decode cX1_init 4 = .ok (.aload_n 0, 1) := by decide +kernel
theorem dX1_init_5 : decode cX1_init 5 = .ok (.bipush 6, 2) := by decide +kernel
theorem dX1_init_7 : decode cX1_init 7 = .ok (.iconst 5, 1) := by decide +kernel
theorem dX1_init_8 : decode cX1_init 8 = .ok (.multianewarray 9 2, 4) := by decide +kernel
theorem dX1_init_12 : decode cX1_init 12 = .ok (.putfield 11, 3) := by decide +kernel
theorem dX1_init_15 : decode cX1_init 15 = .ok (.aload_n 0, 1) := by decide +kernel
theorem dX1_init_16 : decode cX1_init 16 = .ok (.bipush 7, 2) := by decide +kernel
theorem dX1_init_18 : decode cX1_init 18 = .ok (.newarray .int, 2) := by decide +kernel
theorem dX1_init_20 : decode cX1_init 20 = .ok (.putfield 16, 3) := by decide +kernel
theorem dX1_init_23 : decode cX1_init 23 = .ok (.aload_n 0, 1) := by decide +kernel
theorem dX1_init_24 : decode cX1_init 24 = .ok (.iconst 5, 1) := by decide +kernel
theorem dX1_init_25 : decode cX1_init 25 = .ok (.newarray .int, 2) := by decide +kernel
theorem dX1_init_27 : decode cX1_init 27 = .ok (.putfield 20, 3) := by decide +kernel
theorem dX1_init_30 : decode cX1_init 30 = .ok (.aload_n 0, 1) := by decide +kernel
theorem dX1_init_31 : decode cX1_init 31 = .ok (.bipush 6, 2) := by decide +kernel
theorem dX1_init_33 : decode cX1_init 33 = .ok (.newarray .int, 2) := by decide +kernel
theorem dX1_init_35 : decode cX1_init 35 = .ok (.putfield 23, 3) := by decide +kernel
theorem dX1_init_38 : decode cX1_init 38 = .ok (.aload_n 0, 1) := by decide +kernel
theorem dX1_init_39 : decode cX1_init 39 = .ok (.bipush 6, 2) := by decide +kernel
theorem dX1_init_41 : decode cX1_init 41 = .ok (.newarray .int, 2) := by decide +kernel
theorem dX1_init_43 : decode cX1_init 43 = .ok (.putfield 26, 3) := by decide +kernel
theorem dX1_init_46 : decode cX1_init 46 = .ok (.aload_n 0, 1) := by decide +kernel
theorem dX1_init_47 : decode cX1_init 47 = .ok (.aload_n 1, 1) := by decide +kernel
theorem dX1_init_48 : decode cX1_init 48 = .ok (.putfield 29, 3) := by decide +kernel
theorem dX1_init_51 : decode cX1_init 51 = .ok (.return_, 1) := by decide +kernel
set_option maxRecDepth 20000 in
theorem ggX1_greatestWorth_X0_measure : GoodIn wsX1_greatestWorth wsX0_measure := goodIn_r _ [17, 18, 19, 20, 21, 22, 23, 24, 16, 25, 26, 27, 28, 29, 30, 31, 32, 33, 34, 35, 36, 37, 38, 39, 40, 41, 42, 43, 44, 45, 46, 47, 48, 49, 50, 78, 79, 80, 81, 82, 83, 84, 85, 86, 87, 88, 89, 90] (by decide +kernel) (by decide +kernel)
set_option maxRecDepth 20000 in
theorem gX1_greatestWorth_X0_measure : GoodIn wsX1_greatestWorth (wsV RX1 33 RX0 yX0_measure wsX0_measure) := goodIn_app (goodIn_of _ (by decide +kernel)) ggX1_greatestWorth_X0_measure
set_option maxRecDepth 20000 in
theorem ggX1_greatestWorth_X1_fillWorth : GoodIn wsX1_greatestWorth wsX1_fillWorth := goodIn_r _ [55, 1, 7, 56, 57, 58, 59, 60, 41, 61, 71, 72, 73, 74, 75, 76, 77, 78, 79, 80, 81, 82, 83, 84, 85, 86, 87, 88, 89, 90] (by decide +kernel) (by decide +kernel)
set_option maxRecDepth 20000 in
theorem gX1_greatestWorth_X1_fillWorth : GoodIn wsX1_greatestWorth (wsV RX1 45 RX1 yX1_fillWorth wsX1_fillWorth) := goodIn_app (goodIn_of _ (by decide +kernel)) ggX1_greatestWorth_X1_fillWorth
set_option maxRecDepth 20000 in
theorem ggX1_greatestWorth_X1_place : GoodIn wsX1_greatestWorth wsX1_place := goodIn_r _ [64, 2, 12, 1, 3, 4, 7, 58, 6, 65, 66, 67, 68, 54, 69, 70, 8, 9, 10, 11, 62, 63, 71, 72, 73, 74, 75, 76, 77, 78, 79, 80, 81, 82, 83, 84, 85, 86, 87, 88, 89, 90] (by decide +kernel) (by decide +kernel)
set_option maxRecDepth 20000 in
theorem gX1_greatestWorth_X1_place : GoodIn wsX1_greatestWorth (va_wsS RX1 64 yX1_place wsX1_place) := goodIn_app (goodIn_of _ (by decide +kernel)) ggX1_greatestWorth_X1_place
theorem dX1_greatestWorth_0 : decode cX1_greatestWorth 0 = .ok (.aload_n 0, 1) := by decide +kernel
theorem dX1_greatestWorth_1 : decode cX1_greatestWorth 1 = .ok (.getfield 29, 3) := by decide +kernel
theorem dX1_greatestWorth_4 : decode cX1_greatestWorth 4 = .ok (.invokevirtual 33, 3) := by decide +kernel
theorem dX1_greatestWorth_7 : decode cX1_greatestWorth 7 = .ok (.aload_n 0, 1) := by decide +kernel
theorem dX1_greatestWorth_8 : decode cX1_greatestWorth 8 = .ok (.getfield 16, 3) := by decide +kernel
theorem dX1_greatestWorth_11 : decode cX1_greatestWorth 11 = .ok (.aload_n 0, 1) := by decide +kernel
theorem dX1_greatestWorth_12 : decode cX1_greatestWorth 12 = .ok (.getfield 29, 3) := by decide +kernel
theorem dX1_greatestWorth_15 : decode cX1_greatestWorth 15 = .ok (.getfield 38, 3) := by decide +kernel
theorem dX1_greatestWorth_18 : decode cX1_greatestWorth 18 = .ok (.iconst 0, 1) := by decide +kernel
theorem dX1_greatestWorth_19 : decode cX1_greatestWorth 19 = .ok (.iastore, 1) := by decide +kernel
theorem dX1_greatestWorth_20 : decode cX1_greatestWorth 20 = .ok (.aload_n 0, 1) := by decide +kernel
theorem dX1_greatestWorth_21 : decode cX1_greatestWorth 21 = .ok (.getfield 29, 3) := by decide +kernel
theorem dX1_greatestWorth_24 : decode cX1_greatestWorth 24 = .ok (.getfield 38, 3) := by decide +kernel
theorem dX1_greatestWorth_27 : decode cX1_greatestWorth 27 = .ok (.iconst 1, 1) := by decide +kernel
theorem dX1_greatestWorth_28 : decode cX1_greatestWorth 28 = .ok (.isub, 1) := by decide +kernel
theorem dX1_greatestWorth_29 : decode cX1_greatestWorth 29 = .ok (.istore 5, 2) := by decide +kernel
theorem dX1_greatestWorth_31 : decode cX1_greatestWorth 31 = .ok (.iload 5, 2) := by decide +kernel
theorem dX1_greatestWorth_33 : decode cX1_greatestWorth 33 = .ok (.ifCond .lt 53, 3) := by decide +kernel
theorem dX1_greatestWorth_36 : decode cX1_greatestWorth 36 = .ok (.iload_n 2, 1) := by decide +kernel
theorem dX1_greatestWorth_37 : decode cX1_greatestWorth 37 = .ok (.iload_n 3, 1) := by decide +kernel
theorem dX1_greatestWorth_38 : decode cX1_greatestWorth 38 = .ok (.aload_n 0, 1) := by decide +kernel
theorem dX1_greatestWorth_39 : decode cX1_greatestWorth 39 = .ok (.getfield 29, 3) := by decide +kernel
theorem dX1_greatestWorth_42 : decode cX1_greatestWorth 42 = .ok (.getfield 42, 3) := by decide +kernel
theorem dX1_greatestWorth_45 : decode cX1_greatestWorth 45 = .ok (.iload 5, 2) := by decide +kernel
theorem dX1_greatestWorth_47 : decode cX1_greatestWorth 47 = .ok (.iaload, 1) := by decide +kernel
theorem dX1_greatestWorth_48 : decode cX1_greatestWorth 48 = .ok (.imul, 1) := by decide +kernel
theorem dX1_greatestWorth_49 : decode cX1_greatestWorth 49 = .ok (.iadd, 1) := by decide +kernel
theorem dX1_greatestWorth_50 : decode cX1_greatestWorth 50 = .ok (.istore 6, 2) := by decide +kernel
theorem dX1_greatestWorth_52 : decode cX1_greatestWorth 52 = .ok (.aload_n 0, 1) := by decide +kernel
theorem dX1_greatestWorth_53 : decode cX1_greatestWorth 53 = .ok (.getfield 16, 3) := by decide +kernel
theorem dX1_greatestWorth_56 : decode cX1_greatestWorth 56 = .ok (.iload 5, 2) := by decide +kernel
theorem dX1_greatestWorth_58 : decode cX1_greatestWorth 58 = .ok (.aload_n 0, 1) := by decide +kernel
theorem dX1_greatestWorth_59 : decode cX1_greatestWorth 59 = .ok (.getfield 16, 3) := by decide +kernel
theorem dX1_greatestWorth_62 : decode cX1_greatestWorth 62 = .ok (.iload 5, 2) := by decide +kernel
theorem dX1_greatestWorth_64 : decode cX1_greatestWorth 64 = .ok (.iconst 1, 1) := by decide +kernel
theorem dX1_greatestWorth_65 : decode cX1_greatestWorth 65 = .ok (.iadd, 1) := by decide +kernel
theorem dX1_greatestWorth_66 : decode cX1_greatestWorth 66 = .ok (.iaload, 1) := by decide +kernel
theorem dX1_greatestWorth_67 : decode cX1_greatestWorth 67 = .ok (.aload_n 0, 1) := by decide +kernel
theorem dX1_greatestWorth_68 : decode cX1_greatestWorth 68 = .ok (.iload 5, 2) := by decide +kernel
theorem dX1_greatestWorth_70 : decode cX1_greatestWorth 70 = .ok (.iload_n 1, 1) := by decide +kernel
theorem dX1_greatestWorth_71 : decode cX1_greatestWorth 71 = .ok (.iload 6, 2) := by decide +kernel
theorem dX1_greatestWorth_73 : decode cX1_greatestWorth 73 = .ok (.iload 4, 2) := by decide +kernel
theorem dX1_greatestWorth_75 : decode cX1_greatestWorth 75 = .ok (.invokevirtual 45, 3) := by decide +kernel
theorem dX1_greatestWorth_78 : decode cX1_greatestWorth 78 = .ok (.iadd, 1) := by decide +kernel
theorem dX1_greatestWorth_79 : decode cX1_greatestWorth 79 = .ok (.iastore, 1) := by decide +kernel
theorem dX1_greatestWorth_80 : decode cX1_greatestWorth 80 = .ok (.iinc 5 (-1), 3) := by decide +kernel
theorem dX1_greatestWorth_83 : decode cX1_greatestWorth 83 = .ok (.goto (-52), 3) := by decide +kernel
theorem dX1_greatestWorth_86 : decode cX1_greatestWorth 86 = .ok (.aload_n 0, 1) := by decide +kernel
theorem dX1_greatestWorth_87 : decode cX1_greatestWorth 87 = .ok (.getfield 29, 3) := by decide +kernel
theorem dX1_greatestWorth_90 : decode cX1_greatestWorth 90 = .ok (.getfield 49, 3) := by decide +kernel
theorem dX1_greatestWorth_93 : decode cX1_greatestWorth 93 = .ok (.iconst 0, 1) := by decide +kernel
theorem dX1_greatestWorth_94 : decode cX1_greatestWorth 94 = .ok (.aload_n 0, 1) := by decide +kernel
theorem dX1_greatestWorth_95 : decode cX1_greatestWorth 95 = .ok (.getfield 20, 3) := by decide +kernel
theorem dX1_greatestWorth_98 : decode cX1_greatestWorth 98 = .ok (.iconst 0, 1) := by decide +kernel
theorem dX1_greatestWorth_99 : decode cX1_greatestWorth 99 = .ok (.aload_n 0, 1) := by decide +kernel
theorem dX1_greatestWorth_100 : decode cX1_greatestWorth 100 = .ok (.getfield 29, 3) := by decide +kernel
theorem dX1_greatestWorth_103 : decode cX1_greatestWorth 103 = .ok (.getfield 52, 3) := by decide +kernel
theorem dX1_greatestWorth_106 : decode cX1_greatestWorth 106 = .ok (.invokestatic 55, 3) := by decide +kernel
theorem dX1_greatestWorth_109 : decode cX1_greatestWorth 109 = .ok (.aload_n 0, 1) := by decide +kernel
theorem dX1_greatestWorth_110 : decode cX1_greatestWorth 110 = .ok (.iconst (-1), 1) := by decide +kernel
theorem dX1_greatestWorth_111 : decode cX1_greatestWorth 111 = .ok (.putfield 61, 3) := by decide +kernel
theorem dX1_greatestWorth_114 : decode cX1_greatestWorth 114 = .ok (.aload_n 0, 1) := by decide +kernel
theorem dX1_greatestWorth_115 : decode cX1_greatestWorth 115 = .ok (.iconst 0, 1) := by decide +kernel
theorem dX1_greatestWorth_116 : decode cX1_greatestWorth 116 = .ok (.iconst 0, 1) := by decide +kernel
theorem dX1_greatestWorth_117 : decode cX1_greatestWorth 117 = .ok (.invokestatic 64, 3) := by decide +kernel
theorem dX1_greatestWorth_120 : decode cX1_greatestWorth 120 = .ok (.aload_n 0, 1) := by decide +kernel
theorem dX1_greatestWorth_121 : decode cX1_greatestWorth 121 = .ok (.getfield 61, 3) := by decide +kernel
theorem dX1_greatestWorth_124 : decode cX1_greatestWorth 124 = .ok (.ireturn, 1) := by decide +kernel
theorem dX1_fillWorth_0 : decode cX1_fillWorth 0 = .ok (.iconst 0, 1) := by decide +kernel
theorem dX1_fillWorth_1 : decode cX1_fillWorth 1 = .ok (.istore 5, 2) := by decide +kernel
theorem dX1_fillWorth_3 : decode cX1_fillWorth 3 = .ok (.iconst 0, 1) := by decide +kernel
theorem dX1_fillWorth_4 : decode cX1_fillWorth 4 = .ok (.istore 6, 2) := by decide +kernel
theorem dX1_fillWorth_6 : decode cX1_fillWorth 6 = .ok (.iload 6, 2) := by decide +kernel
theorem dX1_fillWorth_8 : decode cX1_fillWorth 8 = .ok (.aload_n 0, 1) := by decide +kernel
theorem dX1_fillWorth_9 : decode cX1_fillWorth 9 = .ok (.getfield 29, 3) := by decide +kernel
theorem dX1_fillWorth_12 : decode cX1_fillWorth 12 = .ok (.getfield 52, 3) := by decide +kernel
theorem dX1_fillWorth_15 : decode cX1_fillWorth 15 = .ok (.if_icmp .ge 90, 3) := by decide +kernel
theorem dX1_fillWorth_18 : decode cX1_fillWorth 18 = .ok (.aload_n 0, 1) := by decide +kernel
theorem dX1_fillWorth_19 : decode cX1_fillWorth 19 = .ok (.getfield 29, 3) := by decide +kernel
theorem dX1_fillWorth_22 : decode cX1_fillWorth 22 = .ok (.getfield 68, 3) := by decide +kernel
theorem dX1_fillWorth_25 : decode cX1_fillWorth 25 = .ok (.iload_n 1, 1) := by decide +kernel
theorem dX1_fillWorth_26 : decode cX1_fillWorth 26 = .ok (.aaload, 1) := by decide +kernel
theorem dX1_fillWorth_27 : decode cX1_fillWorth 27 = .ok (.iload 6, 2) := by decide +kernel
theorem dX1_fillWorth_29 : decode cX1_fillWorth 29 = .ok (.iaload, 1) := by decide +kernel
theorem dX1_fillWorth_30 : decode cX1_fillWorth 30 = .ok (.istore 7, 2) := by decide +kernel
theorem dX1_fillWorth_32 : decode cX1_fillWorth 32 = .ok (.aload_n 0, 1) := by decide +kernel
theorem dX1_fillWorth_33 : decode cX1_fillWorth 33 = .ok (.getfield 29, 3) := by decide +kernel
theorem dX1_fillWorth_36 : decode cX1_fillWorth 36 = .ok (.getfield 71, 3) := by decide +kernel
theorem dX1_fillWorth_39 : decode cX1_fillWorth 39 = .ok (.iload 6, 2) := by decide +kernel
theorem dX1_fillWorth_41 : decode cX1_fillWorth 41 = .ok (.baload, 1) := by decide +kernel
theorem dX1_fillWorth_42 : decode cX1_fillWorth 42 = .ok (.ifCond .eq 13, 3) := by decide +kernel
theorem dX1_fillWorth_45 : decode cX1_fillWorth 45 = .ok (.iload 7, 2) := by decide +kernel
theorem dX1_fillWorth_47 : decode cX1_fillWorth 47 = .ok (.iload_n 2, 1) := by decide +kernel
theorem dX1_fillWorth_48 : decode cX1_fillWorth 48 = .ok (.if_icmp .lt 7, 3) := by decide +kernel
theorem dX1_fillWorth_51 : decode cX1_fillWorth 51 = .ok (.iconst 1, 1) := by decide +kernel
theorem dX1_fillWorth_52 : decode cX1_fillWorth 52 = .ok (.goto 4, 3) := by decide +kernel
theorem dX1_fillWorth_55 : decode cX1_fillWorth 55 = .ok (.iconst 0, 1) := by decide +kernel
theorem dX1_fillWorth_56 : decode cX1_fillWorth 56 = .ok (.istore 8, 2) := by decide +kernel
theorem dX1_fillWorth_58 : decode cX1_fillWorth 58 = .ok (.aload_n 0, 1) := by decide +kernel
theorem dX1_fillWorth_59 : decode cX1_fillWorth 59 = .ok (.getfield 11, 3) := by decide +kernel
theorem dX1_fillWorth_62 : decode cX1_fillWorth 62 = .ok (.iload_n 1, 1) := by decide +kernel
theorem dX1_fillWorth_63 : decode cX1_fillWorth 63 = .ok (.aaload, 1) := by decide +kernel
theorem dX1_fillWorth_64 : decode cX1_fillWorth 64 = .ok (.iload 6, 2) := by decide +kernel
theorem dX1_fillWorth_66 : decode cX1_fillWorth 66 = .ok (.iload 8, 2) := by decide +kernel
theorem dX1_fillWorth_68 : decode cX1_fillWorth 68 = .ok (.ifCond .eq 13, 3) := by decide +kernel
theorem dX1_fillWorth_71 : decode cX1_fillWorth 71 = .ok (.iload_n 3, 1) := by decide +kernel
theorem dX1_fillWorth_72 : decode cX1_fillWorth 72 = .ok (.iload 4, 2) := by decide +kernel
theorem dX1_fillWorth_74 : decode cX1_fillWorth 74 = .ok (.iload 7, 2) := by decide +kernel
theorem dX1_fillWorth_76 : decode cX1_fillWorth 76 = .ok (.imul, 1) := by decide +kernel
theorem dX1_fillWorth_77 : decode cX1_fillWorth 77 = .ok (.iadd, 1) := by decide +kernel
theorem dX1_fillWorth_78 : decode cX1_fillWorth 78 = .ok (.goto 4, 3) := by decide +kernel
theorem dX1_fillWorth_81 : decode cX1_fillWorth 81 = .ok (.iconst 0, 1) := by decide +kernel
theorem dX1_fillWorth_82 : decode cX1_fillWorth 82 = .ok (.iastore, 1) := by decide +kernel
theorem dX1_fillWorth_83 : decode cX1_fillWorth 83 = .ok (.iload 5, 2) := by decide +kernel
theorem dX1_fillWorth_85 : decode cX1_fillWorth 85 = .ok (.aload_n 0, 1) := by decide +kernel
theorem dX1_fillWorth_86 : decode cX1_fillWorth 86 = .ok (.getfield 11, 3) := by decide +kernel
theorem dX1_fillWorth_89 : decode cX1_fillWorth 89 = .ok (.iload_n 1, 1) := by decide +kernel
theorem dX1_fillWorth_90 : decode cX1_fillWorth 90 = .ok (.aaload, 1) := by decide +kernel
theorem dX1_fillWorth_91 : decode cX1_fillWorth 91 = .ok (.iload 6, 2) := by decide +kernel
theorem dX1_fillWorth_93 : decode cX1_fillWorth 93 = .ok (.iaload, 1) := by decide +kernel
theorem dX1_fillWorth_94 : decode cX1_fillWorth 94 = .ok (.invokestatic 75, 3) := by decide +kernel
theorem dX1_fillWorth_97 : decode cX1_fillWorth 97 = .ok (.istore 5, 2) := by decide +kernel
theorem dX1_fillWorth_99 : decode cX1_fillWorth 99 = .ok (.iinc 6 1, 3) := by decide +kernel
theorem dX1_fillWorth_102 : decode cX1_fillWorth 102 = .ok (.goto (-96), 3) := by decide +kernel
theorem dX1_fillWorth_105 : decode cX1_fillWorth 105 = .ok (.iload 5, 2) := by decide +kernel
theorem dX1_fillWorth_107 : decode cX1_fillWorth 107 = .ok (.ireturn, 1) := by decide +kernel
set_option maxRecDepth 20000 in
theorem ggX1_place_X1_keep : GoodIn wsX1_place wsX1_keep := goodIn_r _ [14, 2, 9, 15, 3, 4, 16, 17, 18, 19, 22, 23, 24, 25, 26, 27, 28, 29, 30, 31, 32, 33, 34, 35, 36, 37, 38, 39, 40, 41] (by decide +kernel) (by decide +kernel)
set_option maxRecDepth 20000 in
theorem gX1_place_X1_keep : GoodIn wsX1_place (wsV RX1 81 RX1 yX1_keep wsX1_keep) := goodIn_app (goodIn_of _ (by decide +kernel)) ggX1_place_X1_keep
set_option maxRecDepth 20000 in
theorem ggX1_place_X1_place : GoodIn wsX1_place wsX1_place := goodIn_r _ [0, 1, 2, 3, 4, 5, 6, 7, 8, 9, 10, 11, 12, 13, 14, 15, 16, 17, 18, 19, 20, 21, 22, 23, 24, 25, 26, 27, 28, 29, 30, 31, 32, 33, 34, 35, 36, 37, 38, 39, 40, 41] (by decide +kernel) (by decide +kernel)
set_option maxRecDepth 20000 in
theorem gX1_place_X1_place : GoodIn wsX1_place (va_wsS RX1 64 yX1_place wsX1_place) := goodIn_app (goodIn_of _ (by decide +kernel)) ggX1_place_X1_place
theorem dX1_place_0 : decode cX1_place 0 = .ok (.iload_n 2, 1) := by decide +kernel
theorem dX1_place_1 : decode cX1_place 1 = .ok (.aload_n 0, 1) := by decide +kernel
theorem dX1_place_2 : decode cX1_place 2 = .ok (.getfield 16, 3) := by decide +kernel
theorem dX1_place_5 : decode cX1_place 5 = .ok (.iload_n 1, 1) := by decide +kernel
theorem dX1_place_6 : decode cX1_place 6 = .ok (.iaload, 1) := by decide +kernel
theorem dX1_place_7 : decode cX1_place 7 = .ok (.iadd, 1) := by decide +kernel
theorem dX1_place_8 : decode cX1_place 8 = .ok (.aload_n 0, 1) := by decide +kernel
theorem dX1_place_9 : decode cX1_place 9 = .ok (.getfield 61, 3) := by decide +kernel
theorem dX1_place_12 : decode cX1_place 12 = .ok (.if_icmp .gt 4, 3) := by decide +kernel
theorem dX1_place_15 : decode cX1_place 15 = .ok (.return_, 1) := by decide +kernel
theorem dX1_place_16 : decode cX1_place 16 = .ok (.iload_n 1, 1) := by decide +kernel
theorem dX1_place_17 : decode cX1_place 17 = .ok (.aload_n 0, 1) := by decide +kernel
theorem dX1_place_18 : decode cX1_place 18 = .ok (.getfield 29, 3) := by decide +kernel
theorem dX1_place_21 : decode cX1_place 21 = .ok (.getfield 38, 3) := by decide +kernel
theorem dX1_place_24 : decode cX1_place 24 = .ok (.if_icmp .lt 9, 3) := by decide +kernel
theorem dX1_place_27 : decode cX1_place 27 = .ok (.aload_n 0, 1) := by decide +kernel
theorem dX1_place_28 : decode cX1_place 28 = .ok (.iload_n 2, 1) := by decide +kernel
theorem dX1_place_29 : decode cX1_place 29 = .ok (.invokevirtual 81, 3) := by decide +kernel
theorem dX1_place_32 : decode cX1_place 32 = .ok (.return_, 1) := by decide +kernel
theorem dX1_place_33 : decode cX1_place 33 = .ok (.aload_n 0, 1) := by decide +kernel
theorem dX1_place_34 : decode cX1_place 34 = .ok (.getfield 29, 3) := by decide +kernel
theorem dX1_place_37 : decode cX1_place 37 = .ok (.getfield 42, 3) := by decide +kernel
theorem dX1_place_40 : decode cX1_place 40 = .ok (.iload_n 1, 1) := by decide +kernel
theorem dX1_place_41 : decode cX1_place 41 = .ok (.iaload, 1) := by decide +kernel
theorem dX1_place_42 : decode cX1_place 42 = .ok (.istore_n 3, 1) := by decide +kernel
theorem dX1_place_43 : decode cX1_place 43 = .ok (.iconst 0, 1) := by decide +kernel
theorem dX1_place_44 : decode cX1_place 44 = .ok (.istore 4, 2) := by decide +kernel
theorem dX1_place_46 : decode cX1_place 46 = .ok (.iload 4, 2) := by decide +kernel
theorem dX1_place_48 : decode cX1_place 48 = .ok (.aload_n 0, 1) := by decide +kernel
theorem dX1_place_49 : decode cX1_place 49 = .ok (.getfield 29, 3) := by decide +kernel
theorem dX1_place_52 : decode cX1_place 52 = .ok (.getfield 52, 3) := by decide +kernel
theorem dX1_place_55 : decode cX1_place 55 = .ok (.if_icmp .ge 77, 3) := by decide +kernel
theorem dX1_place_58 : decode cX1_place 58 = .ok (.aload_n 0, 1) := by decide +kernel
theorem dX1_place_59 : decode cX1_place 59 = .ok (.getfield 11, 3) := by decide +kernel
theorem dX1_place_62 : decode cX1_place 62 = .ok (.iload_n 1, 1) := by decide +kernel
theorem dX1_place_63 : decode cX1_place 63 = .ok (.aaload, 1) := by decide +kernel
theorem dX1_place_64 : decode cX1_place 64 = .ok (.iload 4, 2) := by decide +kernel
theorem dX1_place_66 : decode cX1_place 66 = .ok (.iaload, 1) := by decide +kernel
theorem dX1_place_67 : decode cX1_place 67 = .ok (.istore 5, 2) := by decide +kernel
theorem dX1_place_69 : decode cX1_place 69 = .ok (.iload 5, 2) := by decide +kernel
theorem dX1_place_71 : decode cX1_place 71 = .ok (.ifCond .le 55, 3) := by decide +kernel
theorem dX1_place_74 : decode cX1_place 74 = .ok (.aload_n 0, 1) := by decide +kernel
theorem dX1_place_75 : decode cX1_place 75 = .ok (.getfield 20, 3) := by decide +kernel
theorem dX1_place_78 : decode cX1_place 78 = .ok (.iload 4, 2) := by decide +kernel
theorem dX1_place_80 : decode cX1_place 80 = .ok (.iaload, 1) := by decide +kernel
theorem dX1_place_81 : decode cX1_place 81 = .ok (.iload_n 3, 1) := by decide +kernel
theorem dX1_place_82 : decode cX1_place 82 = .ok (.if_icmp .lt 44, 3) := by decide +kernel
theorem dX1_place_85 : decode cX1_place 85 = .ok (.aload_n 0, 1) := by decide +kernel
theorem dX1_place_86 : decode cX1_place 86 = .ok (.getfield 20, 3) := by decide +kernel
theorem dX1_place_89 : decode cX1_place 89 = .ok (.iload 4, 2) := by decide +kernel
theorem dX1_place_91 : decode cX1_place 91 = .ok (.dup2, 1) := by decide +kernel
theorem dX1_place_92 : decode cX1_place 92 = .ok (.iaload, 1) := by decide +kernel
theorem dX1_place_93 : decode cX1_place 93 = .ok (.iload_n 3, 1) := by decide +kernel
theorem dX1_place_94 : decode cX1_place 94 = .ok (.isub, 1) := by decide +kernel
theorem dX1_place_95 : decode cX1_place 95 = .ok (.iastore, 1) := by decide +kernel
theorem dX1_place_96 : decode cX1_place 96 = .ok (.aload_n 0, 1) := by decide +kernel
theorem dX1_place_97 : decode cX1_place 97 = .ok (.getfield 23, 3) := by decide +kernel
theorem dX1_place_100 : decode cX1_place 100 = .ok (.iload_n 1, 1) := by decide +kernel
theorem dX1_place_101 : decode cX1_place 101 = .ok (.iload 4, 2) := by decide +kernel
theorem dX1_place_103 : decode cX1_place 103 = .ok (.iastore, 1) := by decide +kernel
theorem dX1_place_104 : decode cX1_place 104 = .ok (.aload_n 0, 1) := by decide +kernel
theorem dX1_place_105 : decode cX1_place 105 = .ok (.iload_n 1, 1) := by decide +kernel
theorem dX1_place_106 : decode cX1_place 106 = .ok (.iconst 1, 1) := by decide +kernel
theorem dX1_place_107 : decode cX1_place 107 = .ok (.iadd, 1) := by decide +kernel
theorem dX1_place_108 : decode cX1_place 108 = .ok (.iload_n 2, 1) := by decide +kernel
theorem dX1_place_109 : decode cX1_place 109 = .ok (.iload 5, 2) := by decide +kernel
theorem dX1_place_111 : decode cX1_place 111 = .ok (.iadd, 1) := by decide +kernel
theorem dX1_place_112 : decode cX1_place 112 = .ok (.invokestatic 64, 3) := by decide +kernel
theorem dX1_place_115 : decode cX1_place 115 = .ok (.aload_n 0, 1) := by decide +kernel
theorem dX1_place_116 : decode cX1_place 116 = .ok (.getfield 20, 3) := by decide +kernel
theorem dX1_place_119 : decode cX1_place 119 = .ok (.iload 4, 2) := by decide +kernel
theorem dX1_place_121 : decode cX1_place 121 = .ok (.dup2, 1) := by decide +kernel
theorem dX1_place_122 : decode cX1_place 122 = .ok (.iaload, 1) := by decide +kernel
theorem dX1_place_123 : decode cX1_place 123 = .ok (.iload_n 3, 1) := by decide +kernel
theorem dX1_place_124 : decode cX1_place 124 = .ok (.iadd, 1) := by decide +kernel
theorem dX1_place_125 : decode cX1_place 125 = .ok (.iastore, 1) := by decide +kernel
theorem dX1_place_126 : decode cX1_place 126 = .ok (.iinc 4 1, 3) := by decide +kernel
theorem dX1_place_129 : decode cX1_place 129 = .ok (.goto (-83), 3) := by decide +kernel
theorem dX1_place_132 : decode cX1_place 132 = .ok (.aload_n 0, 1) := by decide +kernel
theorem dX1_place_133 : decode cX1_place 133 = .ok (.getfield 23, 3) := by decide +kernel
theorem dX1_place_136 : decode cX1_place 136 = .ok (.iload_n 1, 1) := by decide +kernel
theorem dX1_place_137 : decode cX1_place 137 = .ok (.iconst (-1), 1) := by decide +kernel
theorem dX1_place_138 : decode cX1_place 138 = .ok (.iastore, 1) := by decide +kernel
theorem dX1_place_139 : decode cX1_place 139 = .ok (.aload_n 0, 1) := by decide +kernel
theorem dX1_place_140 : decode cX1_place 140 = .ok (.iload_n 1, 1) := by decide +kernel
theorem dX1_place_141 : decode cX1_place 141 = .ok (.iconst 1, 1) := by decide +kernel
theorem dX1_place_142 : decode cX1_place 142 = .ok (.iadd, 1) := by decide +kernel
theorem dX1_place_143 : decode cX1_place 143 = .ok (.iload_n 2, 1) := by decide +kernel
theorem dX1_place_144 : decode cX1_place 144 = .ok (.invokestatic 64, 3) := by decide +kernel
theorem dX1_place_147 : decode cX1_place 147 = .ok (.return_, 1) := by decide +kernel
theorem dX1_keep_0 : decode cX1_keep 0 = .ok (.aload_n 0, 1) := by decide +kernel
theorem dX1_keep_1 : decode cX1_keep 1 = .ok (.iload_n 1, 1) := by decide +kernel
theorem dX1_keep_2 : decode cX1_keep 2 = .ok (.putfield 61, 3) := by decide +kernel
theorem dX1_keep_5 : decode cX1_keep 5 = .ok (.aload_n 0, 1) := by decide +kernel
theorem dX1_keep_6 : decode cX1_keep 6 = .ok (.getfield 23, 3) := by decide +kernel
theorem dX1_keep_9 : decode cX1_keep 9 = .ok (.iconst 0, 1) := by decide +kernel
theorem dX1_keep_10 : decode cX1_keep 10 = .ok (.aload_n 0, 1) := by decide +kernel
theorem dX1_keep_11 : decode cX1_keep 11 = .ok (.getfield 26, 3) := by decide +kernel
theorem dX1_keep_14 : decode cX1_keep 14 = .ok (.iconst 0, 1) := by decide +kernel
theorem dX1_keep_15 : decode cX1_keep 15 = .ok (.aload_n 0, 1) := by decide +kernel
theorem dX1_keep_16 : decode cX1_keep 16 = .ok (.getfield 29, 3) := by decide +kernel
theorem dX1_keep_19 : decode cX1_keep 19 = .ok (.getfield 38, 3) := by decide +kernel
theorem dX1_keep_22 : decode cX1_keep 22 = .ok (.invokestatic 55, 3) := by decide +kernel
theorem dX1_keep_25 : decode cX1_keep 25 = .ok (.return_, 1) := by decide +kernel
end
section
set_option maxRecDepth 20000 in
theorem ggX2_init_X0_init : GoodIn wsX2_init wsX0_init := goodIn_r _ [21, 22, 2, 3, 12, 23, 24, 25, 26, 27, 28, 29, 30, 31, 32, 33, 34, 35, 47, 48, 49, 50, 51, 52, 53, 54, 55, 56, 57, 58, 59] (by decide +kernel) (by decide +kernel)
set_option maxRecDepth 20000 in
theorem gX2_init_X0_init_n9 : GoodIn wsX2_init (wsX0_init) := ggX2_init_X0_init
set_option maxRecDepth 20000 in
theorem ggX2_init_X1_init : GoodIn wsX2_init wsX1_init := goodIn_r _ [38, 39, 2, 3, 40, 12, 41, 42, 43, 44, 45, 46, 73, 74, 75, 76, 77, 78, 79] (by decide +kernel) (by decide +kernel)
set_option maxRecDepth 20000 in
theorem gX2_init_X1_init : GoodIn wsX2_init (wsX1_init) := ggX2_init_X1_init
theorem dX2_init_0 : decode cX2_init 0 = .ok (.aload_n 0, 1) := by decide +kernel
theorem dX2_init_1 : decode cX2_init 1 = .ok (.invokespecial 1, 3) := by decide +kernel
theorem dX2_init_4 : decode cX2_init 4 = .ok (.aload_n 0, 1) := by decide +kernel
theorem dX2_init_5 : decode cX2_init 5 = .ok (.new 7, 3) := by decide +kernel
theorem dX2_init_8 : decode cX2_init 8 = .ok (.dup, 1) := by decide +kernel
theorem dX2_init_9 : decode cX2_init 9 = .ok (.invokespecial 9, 3) := by decide +kernel
theorem dX2_init_12 : decode cX2_init 12 = .ok (.putfield 10, 3) := by decide +kernel
theorem dX2_init_15 : decode cX2_init 15 = .ok (.aload_n 0, 1) := by decide +kernel
theorem dX2_init_16 : decode cX2_init 16 = .ok (.new 16, 3) := by decide +kernel
theorem dX2_init_19 : decode cX2_init 19 = .ok (.dup, 1) := by decide +kernel
theorem dX2_init_20 : decode cX2_init 20 = .ok (.aload_n 0, 1) := by decide +kernel
theorem dX2_init_21 : decode cX2_init 21 = .ok (.getfield 10, 3) := by decide +kernel
theorem dX2_init_24 : decode cX2_init 24 = .ok (.invokespecial 18, 3) := by decide +kernel
theorem dX2_init_27 : decode cX2_init 27 = .ok (.putfield 21, 3) := by decide +kernel
theorem dX2_init_30 : decode cX2_init 30 = .ok (.aload_n 0, 1) := by decide +kernel
theorem dX2_init_31 : decode cX2_init 31 = .ok (.bipush 6, 2) := by decide +kernel
theorem dX2_init_33 : decode cX2_init 33 = .ok (.newarray .int, 2) := by decide +kernel
theorem dX2_init_35 : decode cX2_init 35 = .ok (.putfield 25, 3) := by decide +kernel
theorem dX2_init_38 : decode cX2_init 38 = .ok (.aload_n 0, 1) := by decide +kernel
theorem dX2_init_39 : decode cX2_init 39 = .ok (.bipush 6, 2) := by decide +kernel
theorem dX2_init_41 : decode cX2_init 41 = .ok (.newarray .int, 2) := by decide +kernel
theorem dX2_init_43 : decode cX2_init 43 = .ok (.putfield 29, 3) := by decide +kernel
theorem dX2_init_46 : decode cX2_init 46 = .ok (.aload_n 0, 1) := by decide +kernel
theorem dX2_init_47 : decode cX2_init 47 = .ok (.bipush 6, 2) := by decide +kernel
theorem dX2_init_49 : decode cX2_init 49 = .ok (.newarray .int, 2) := by decide +kernel
theorem dX2_init_51 : decode cX2_init 51 = .ok (.putfield 32, 3) := by decide +kernel
theorem dX2_init_54 : decode cX2_init 54 = .ok (.aload_n 0, 1) := by decide +kernel
theorem dX2_init_55 : decode cX2_init 55 = .ok (.bipush 6, 2) := by decide +kernel
theorem dX2_init_57 : decode cX2_init 57 = .ok (.newarray .int, 2) := by decide +kernel
theorem dX2_init_59 : decode cX2_init 59 = .ok (.putfield 35, 3) := by decide +kernel
theorem dX2_init_62 : decode cX2_init 62 = .ok (.aload_n 0, 1) := by decide +kernel
theorem dX2_init_63 : decode cX2_init 63 = .ok (.bipush 20, 2) := by decide +kernel
theorem dX2_init_65 : decode cX2_init 65 = .ok (.putfield 38, 3) := by decide +kernel
theorem dX2_init_68 : decode cX2_init 68 = .ok (.aload_n 0, 1) := by decide +kernel
theorem dX2_init_69 : decode cX2_init 69 = .ok (.iconst 2, 1) := by decide +kernel
theorem dX2_init_70 : decode cX2_init 70 = .ok (.putfield 42, 3) := by decide +kernel
theorem dX2_init_73 : decode cX2_init 73 = .ok (.aload_n 0, 1) := by decide +kernel
theorem dX2_init_74 : decode cX2_init 74 = .ok (.bipush 100, 2) := by decide +kernel
theorem dX2_init_76 : decode cX2_init 76 = .ok (.putfield 45, 3) := by decide +kernel
theorem dX2_init_79 : decode cX2_init 79 = .ok (.return_, 1) := by decide +kernel
set_option maxRecDepth 20000 in
theorem ggX2_cell_X2_requireRange : GoodIn wsX2_cell wsX2_requireRange := goodIn_ca (goodIn_r _ [8, 9, 10] (by decide +kernel) (by decide +kernel)) (goodIn_sub (fun _ h => List.mem_cons_of_mem _ (List.mem_append_right _ h)) (by decide +kernel))
set_option maxRecDepth 20000 in
theorem gX2_cell_X2_requireRange : GoodIn wsX2_cell (va_wsS RX2 48 yX2_requireRange wsX2_requireRange) := goodIn_app (goodIn_of _ (by decide +kernel)) ggX2_cell_X2_requireRange
set_option maxRecDepth 20000 in
theorem ggX2_cell_X0_addCell : GoodIn wsX2_cell wsX0_addCell := goodIn_r _ [15, 16, 17, 18, 19, 20, 21, 35, 36, 37, 38, 39, 40, 41, 42, 43, 44, 45, 46, 47] (by decide +kernel) (by decide +kernel)
set_option maxRecDepth 20000 in
theorem gX2_cell_X0_addCell : GoodIn wsX2_cell (wsV RX2 62 RX0 yX0_addCell wsX0_addCell) := goodIn_app (goodIn_of _ (by decide +kernel)) ggX2_cell_X0_addCell
theorem dX2_cell_0 : decode cX2_cell 0 = .ok (.iload_n 1, 1) := by decide +kernel
theorem dX2_cell_1 : decode cX2_cell 1 = .ok (.i2l, 1) := by decide +kernel
theorem dX2_cell_2 : decode cX2_cell 2 = .ok (.iconst 0, 1) := by decide +kernel
theorem dX2_cell_3 : decode cX2_cell 3 = .ok (.bipush 63, 2) := by decide +kernel
theorem dX2_cell_5 : decode cX2_cell 5 = .ok (.invokestatic 48, 3) := by decide +kernel
theorem dX2_cell_8 : decode cX2_cell 8 = .ok (.iload_n 2, 1) := by decide +kernel
theorem dX2_cell_9 : decode cX2_cell 9 = .ok (.i2l, 1) := by decide +kernel
theorem dX2_cell_10 : decode cX2_cell 10 = .ok (.iconst 0, 1) := by decide +kernel
theorem dX2_cell_11 : decode cX2_cell 11 = .ok (.bipush 63, 2) := by decide +kernel
theorem dX2_cell_13 : decode cX2_cell 13 = .ok (.invokestatic 48, 3) := by decide +kernel
theorem dX2_cell_16 : decode cX2_cell 16 = .ok (.iload_n 3, 1) := by decide +kernel
theorem dX2_cell_17 : decode cX2_cell 17 = .ok (.i2l, 1) := by decide +kernel
theorem dX2_cell_18 : decode cX2_cell 18 = .ok (.iconst 0, 1) := by decide +kernel
theorem dX2_cell_19 : decode cX2_cell 19 = .ok (.iconst 2, 1) := by decide +kernel
theorem dX2_cell_20 : decode cX2_cell 20 = .ok (.invokestatic 48, 3) := by decide +kernel
theorem dX2_cell_23 : decode cX2_cell 23 = .ok (.iload 4, 2) := by decide +kernel
theorem dX2_cell_25 : decode cX2_cell 25 = .ok (.i2l, 1) := by decide +kernel
theorem dX2_cell_26 : decode cX2_cell 26 = .ok (.iconst 1, 1) := by decide +kernel
theorem dX2_cell_27 : decode cX2_cell 27 = .ok (.bipush 40, 2) := by decide +kernel
theorem dX2_cell_29 : decode cX2_cell 29 = .ok (.invokestatic 48, 3) := by decide +kernel
theorem dX2_cell_32 : decode cX2_cell 32 = .ok (.aload_n 0, 1) := by decide +kernel
theorem dX2_cell_33 : decode cX2_cell 33 = .ok (.getfield 10, 3) := by decide +kernel
theorem dX2_cell_36 : decode cX2_cell 36 = .ok (.getfield 52, 3) := by decide +kernel
theorem dX2_cell_39 : decode cX2_cell 39 = .ok (.iconst 5, 1) := by decide +kernel
theorem dX2_cell_40 : decode cX2_cell 40 = .ok (.if_icmp .lt 13, 3) := by decide +kernel
theorem dX2_cell_43 : decode cX2_cell 43 = .ok (.new 55, 3) := by decide +kernel
theorem dX2_cell_46 : decode cX2_cell 46 = .ok (.dup, 1) := by decide +kernel
theorem dX2_cell_47 : decode cX2_cell 47 = .ok (.ldc 57, 2) := by decide +kernel
theorem dX2_cell_49 : decode cX2_cell 49 = .ok (.invokespecial 59, 3) := by decide +kernel
theorem dX2_cell_52 : decode cX2_cell 52 = .ok (.athrow, 1) := by decide +kernel
theorem dX2_cell_53 : decode cX2_cell 53 = .ok (.aload_n 0, 1) := by decide +kernel
theorem dX2_cell_54 : decode cX2_cell 54 = .ok (.getfield 10, 3) := by decide +kernel
theorem dX2_cell_57 : decode cX2_cell 57 = .ok (.iload_n 1, 1) := by decide +kernel
theorem dX2_cell_58 : decode cX2_cell 58 = .ok (.iload_n 2, 1) := by decide +kernel
theorem dX2_cell_59 : decode cX2_cell 59 = .ok (.iload_n 3, 1) := by decide +kernel
theorem dX2_cell_60 : decode cX2_cell 60 = .ok (.iload 4, 2) := by decide +kernel
theorem dX2_cell_62 : decode cX2_cell 62 = .ok (.invokevirtual 62, 3) := by decide +kernel
theorem dX2_cell_65 : decode cX2_cell 65 = .ok (.ireturn, 1) := by decide +kernel
set_option maxRecDepth 20000 in
theorem ggX2_turn_X2_requireCell : GoodIn wsX2_turn wsX2_requireCell := goodIn_ca (goodIn_r _ [7, 8, 9, 1, 10, 23, 24, 25, 26, 27, 28, 29, 30, 31, 32, 33, 34, 35, 36, 37, 38, 39, 40, 41, 42, 43, 44, 45, 46, 47, 48] (by decide +kernel) (by decide +kernel)) (goodIn_sub (fun _ h => List.mem_cons_of_mem _ (List.mem_append_right _ h)) (by decide +kernel))
set_option maxRecDepth 20000 in
theorem gX2_turn_X2_requireCell : GoodIn wsX2_turn (wsV RX2 66 RX2 yX2_requireCell wsX2_requireCell) := goodIn_app (goodIn_of _ (by decide +kernel)) ggX2_turn_X2_requireCell
set_option maxRecDepth 20000 in
theorem ggX2_turn_X2_releaseWalkers : GoodIn wsX2_turn wsX2_releaseWalkers := goodIn_r _ [14, 1, 15, 16, 17, 18, 19, 6, 20, 21, 22, 23, 24, 25, 26, 27, 28, 29, 30, 31, 32, 33, 34, 35, 36, 37, 38, 39, 40, 41, 42, 43, 44, 45, 46, 47, 48] (by decide +kernel) (by decide +kernel)
set_option maxRecDepth 20000 in
theorem gX2_turn_X2_releaseWalkers : GoodIn wsX2_turn (wsV RX2 74 RX2 yX2_releaseWalkers wsX2_releaseWalkers) := goodIn_app (goodIn_of _ (by decide +kernel)) ggX2_turn_X2_releaseWalkers
theorem dX2_turn_0 : decode cX2_turn 0 = .ok (.aload_n 0, 1) := by decide +kernel
theorem dX2_turn_1 : decode cX2_turn 1 = .ok (.iload_n 1, 1) := by decide +kernel
theorem dX2_turn_2 : decode cX2_turn 2 = .ok (.invokevirtual 66, 3) := by decide +kernel
theorem dX2_turn_5 : decode cX2_turn 5 = .ok (.aload_n 0, 1) := by decide +kernel
theorem dX2_turn_6 : decode cX2_turn 6 = .ok (.getfield 10, 3) := by decide +kernel
theorem dX2_turn_9 : decode cX2_turn 9 = .ok (.getfield 70, 3) := by decide +kernel
theorem dX2_turn_12 : decode cX2_turn 12 = .ok (.iload_n 1, 1) := by decide +kernel
theorem dX2_turn_13 : decode cX2_turn 13 = .ok (.aload_n 0, 1) := by decide +kernel
theorem dX2_turn_14 : decode cX2_turn 14 = .ok (.getfield 10, 3) := by decide +kernel
theorem dX2_turn_17 : decode cX2_turn 17 = .ok (.getfield 70, 3) := by decide +kernel
theorem dX2_turn_20 : decode cX2_turn 20 = .ok (.iload_n 1, 1) := by decide +kernel
theorem dX2_turn_21 : decode cX2_turn 21 = .ok (.baload, 1) := by decide +kernel
theorem dX2_turn_22 : decode cX2_turn 22 = .ok (.ifCond .ne 7, 3) := by decide +kernel
theorem dX2_turn_25 : decode cX2_turn 25 = .ok (.iconst 1, 1) := by decide +kernel
theorem dX2_turn_26 : decode cX2_turn 26 = .ok (.goto 4, 3) := by decide +kernel
theorem dX2_turn_29 : decode cX2_turn 29 = .ok (.iconst 0, 1) := by decide +kernel
theorem dX2_turn_30 : decode cX2_turn 30 = .ok (.bastore, 1) := by decide +kernel
theorem dX2_turn_31 : decode cX2_turn 31 = .ok (.aload_n 0, 1) := by decide +kernel
theorem dX2_turn_32 : decode cX2_turn 32 = .ok (.getfield 10, 3) := by decide +kernel
theorem dX2_turn_35 : decode cX2_turn 35 = .ok (.getfield 70, 3) := by decide +kernel
theorem dX2_turn_38 : decode cX2_turn 38 = .ok (.iload_n 1, 1) := by decide +kernel
theorem dX2_turn_39 : decode cX2_turn 39 = .ok (.baload, 1) := by decide +kernel
theorem dX2_turn_40 : decode cX2_turn 40 = .ok (.ifCond .ne 8, 3) := by decide +kernel
theorem dX2_turn_43 : decode cX2_turn 43 = .ok (.aload_n 0, 1) := by decide +kernel
theorem dX2_turn_44 : decode cX2_turn 44 = .ok (.iload_n 1, 1) := by decide +kernel
theorem dX2_turn_45 : decode cX2_turn 45 = .ok (.invokevirtual 74, 3) := by decide +kernel
theorem dX2_turn_48 : decode cX2_turn 48 = .ok (.aload_n 0, 1) := by decide +kernel
theorem dX2_turn_49 : decode cX2_turn 49 = .ok (.getfield 10, 3) := by decide +kernel
theorem dX2_turn_52 : decode cX2_turn 52 = .ok (.getfield 70, 3) := by decide +kernel
theorem dX2_turn_55 : decode cX2_turn 55 = .ok (.iload_n 1, 1) := by decide +kernel
theorem dX2_turn_56 : decode cX2_turn 56 = .ok (.baload, 1) := by decide +kernel
theorem dX2_turn_57 : decode cX2_turn 57 = .ok (.ireturn, 1) := by decide +kernel
set_option maxRecDepth 20000 in
theorem ggX2_tune_X2_requireCell : GoodIn wsX2_tune wsX2_requireCell := goodIn_ca (goodIn_r _ [7, 8, 9, 1, 10, 16, 17, 18, 19, 20, 21, 22, 23, 24, 25, 26, 27, 28, 29, 30, 31, 32, 33, 34, 35, 36, 37, 38, 39, 40, 41] (by decide +kernel) (by decide +kernel)) (goodIn_sub (fun _ h => List.mem_cons_of_mem _ (List.mem_append_left _ (List.mem_append_right _ h))) (by decide +kernel))
set_option maxRecDepth 20000 in
theorem gX2_tune_X2_requireCell : GoodIn wsX2_tune (wsV RX2 66 RX2 yX2_requireCell wsX2_requireCell) := goodIn_app (goodIn_of _ (by decide +kernel)) ggX2_tune_X2_requireCell
set_option maxRecDepth 20000 in
theorem ggX2_tune_X2_requireRange : GoodIn wsX2_tune wsX2_requireRange := goodIn_ca (goodIn_r _ [13, 14, 15] (by decide +kernel) (by decide +kernel)) (goodIn_sub (fun _ h => List.mem_cons_of_mem _ (List.mem_append_right _ h)) (by decide +kernel))
set_option maxRecDepth 20000 in
theorem gX2_tune_X2_requireRange : GoodIn wsX2_tune (va_wsS RX2 48 yX2_requireRange wsX2_requireRange) := goodIn_app (goodIn_of _ (by decide +kernel)) ggX2_tune_X2_requireRange
theorem dX2_tune_0 : decode cX2_tune 0 = .ok (.aload_n 0, 1) := by decide +kernel
theorem dX2_tune_1 : decode cX2_tune 1 = .ok (.iload_n 1, 1) := by decide +kernel
theorem dX2_tune_2 : decode cX2_tune 2 = .ok (.invokevirtual 66, 3) := by decide +kernel
theorem dX2_tune_5 : decode cX2_tune 5 = .ok (.iload_n 2, 1) := by decide +kernel
theorem dX2_tune_6 : decode cX2_tune 6 = .ok (.i2l, 1) := by decide +kernel
theorem dX2_tune_7 : decode cX2_tune 7 = .ok (.iconst 0, 1) := by decide +kernel
theorem dX2_tune_8 : decode cX2_tune 8 = .ok (.iconst 2, 1) := by decide +kernel
theorem dX2_tune_9 : decode cX2_tune 9 = .ok (.invokestatic 48, 3) := by decide +kernel
theorem dX2_tune_12 : decode cX2_tune 12 = .ok (.aload_n 0, 1) := by decide +kernel
theorem dX2_tune_13 : decode cX2_tune 13 = .ok (.getfield 10, 3) := by decide +kernel
theorem dX2_tune_16 : decode cX2_tune 16 = .ok (.getfield 77, 3) := by decide +kernel
theorem dX2_tune_19 : decode cX2_tune 19 = .ok (.iload_n 1, 1) := by decide +kernel
theorem dX2_tune_20 : decode cX2_tune 20 = .ok (.iaload, 1) := by decide +kernel
theorem dX2_tune_21 : decode cX2_tune 21 = .ok (.istore_n 3, 1) := by decide +kernel
theorem dX2_tune_22 : decode cX2_tune 22 = .ok (.aload_n 0, 1) := by decide +kernel
theorem dX2_tune_23 : decode cX2_tune 23 = .ok (.getfield 10, 3) := by decide +kernel
theorem dX2_tune_26 : decode cX2_tune 26 = .ok (.getfield 77, 3) := by decide +kernel
theorem dX2_tune_29 : decode cX2_tune 29 = .ok (.iload_n 1, 1) := by decide +kernel
theorem dX2_tune_30 : decode cX2_tune 30 = .ok (.iload_n 2, 1) := by decide +kernel
theorem dX2_tune_31 : decode cX2_tune 31 = .ok (.iastore, 1) := by decide +kernel
theorem dX2_tune_32 : decode cX2_tune 32 = .ok (.iload_n 3, 1) := by decide +kernel
theorem dX2_tune_33 : decode cX2_tune 33 = .ok (.ireturn, 1) := by decide +kernel
set_option maxRecDepth 20000 in
theorem ggX2_walker_X2_requireRange : GoodIn wsX2_walker wsX2_requireRange := goodIn_ca (goodIn_r _ [9, 10, 11] (by decide +kernel) (by decide +kernel)) (goodIn_sub (fun _ h => List.mem_cons_of_mem _ (List.mem_append_right _ h)) (by decide +kernel))
set_option maxRecDepth 20000 in
theorem gX2_walker_X2_requireRange : GoodIn wsX2_walker (va_wsS RX2 48 yX2_requireRange wsX2_requireRange) := goodIn_app (goodIn_of _ (by decide +kernel)) ggX2_walker_X2_requireRange
set_option maxRecDepth 20000 in
theorem ggX2_walker_X0_addWalker : GoodIn wsX2_walker wsX0_addWalker := goodIn_r _ [16, 17, 18, 19, 20, 21, 41, 42, 43, 44, 45, 46, 47, 48, 49, 50, 51, 52, 53] (by decide +kernel) (by decide +kernel)
set_option maxRecDepth 20000 in
theorem gX2_walker_X0_addWalker : GoodIn wsX2_walker (wsV RX2 85 RX0 yX0_addWalker wsX0_addWalker) := goodIn_app (goodIn_of _ (by decide +kernel)) ggX2_walker_X0_addWalker
set_option maxRecDepth 20000 in
theorem ggX2_walker_X2_dropFavourite : GoodIn wsX2_walker wsX2_dropFavourite := goodIn_r _ [25, 26, 27, 28, 29, 30, 31, 32, 33, 34, 35, 36, 37, 38, 39, 40] (by decide +kernel) (by decide +kernel)
set_option maxRecDepth 20000 in
theorem gX2_walker_X2_dropFavourite : GoodIn wsX2_walker (wsV RX2 89 RX2 yX2_dropFavourite wsX2_dropFavourite) := goodIn_app (goodIn_of _ (by decide +kernel)) ggX2_walker_X2_dropFavourite
theorem dX2_walker_0 : decode cX2_walker 0 = .ok (.iload_n 1, 1) := by decide +kernel
theorem dX2_walker_1 : decode cX2_walker 1 = .ok (.i2l, 1) := by decide +kernel
theorem dX2_walker_2 : decode cX2_walker 2 = .ok (.iconst 0, 1) := by decide +kernel
theorem dX2_walker_3 : decode cX2_walker 3 = .ok (.bipush 63, 2) := by decide +kernel
theorem dX2_walker_5 : decode cX2_walker 5 = .ok (.invokestatic 48, 3) := by decide +kernel
theorem dX2_walker_8 : decode cX2_walker 8 = .ok (.iload_n 2, 1) := by decide +kernel
theorem dX2_walker_9 : decode cX2_walker 9 = .ok (.i2l, 1) := by decide +kernel
theorem dX2_walker_10 : decode cX2_walker 10 = .ok (.iconst 0, 1) := by decide +kernel
theorem dX2_walker_11 : decode cX2_walker 11 = .ok (.bipush 63, 2) := by decide +kernel
theorem dX2_walker_13 : decode cX2_walker 13 = .ok (.invokestatic 48, 3) := by decide +kernel
theorem dX2_walker_16 : decode cX2_walker 16 = .ok (.iload_n 3, 1) := by decide +kernel
theorem dX2_walker_17 : decode cX2_walker 17 = .ok (.i2l, 1) := by decide +kernel
theorem dX2_walker_18 : decode cX2_walker 18 = .ok (.iconst 1, 1) := by decide +kernel
theorem dX2_walker_19 : decode cX2_walker 19 = .ok (.bipush 10, 2) := by decide +kernel
theorem dX2_walker_21 : decode cX2_walker 21 = .ok (.invokestatic 48, 3) := by decide +kernel
theorem dX2_walker_24 : decode cX2_walker 24 = .ok (.aload_n 0, 1) := by decide +kernel
theorem dX2_walker_25 : decode cX2_walker 25 = .ok (.getfield 10, 3) := by decide +kernel
theorem dX2_walker_28 : decode cX2_walker 28 = .ok (.getfield 80, 3) := by decide +kernel
theorem dX2_walker_31 : decode cX2_walker 31 = .ok (.bipush 6, 2) := by decide +kernel
theorem dX2_walker_33 : decode cX2_walker 33 = .ok (.if_icmp .lt 13, 3) := by decide +kernel
theorem dX2_walker_36 : decode cX2_walker 36 = .ok (.new 55, 3) := by decide +kernel
theorem dX2_walker_39 : decode cX2_walker 39 = .ok (.dup, 1) := by decide +kernel
theorem dX2_walker_40 : decode cX2_walker 40 = .ok (.ldc 83, 2) := by decide +kernel
theorem dX2_walker_42 : decode cX2_walker 42 = .ok (.invokespecial 59, 3) := by decide +kernel
theorem dX2_walker_45 : decode cX2_walker 45 = .ok (.athrow, 1) := by decide +kernel
theorem dX2_walker_46 : decode cX2_walker 46 = .ok (.aload_n 0, 1) := by decide +kernel
theorem dX2_walker_47 : decode cX2_walker 47 = .ok (.getfield 10, 3) := by decide +kernel
theorem dX2_walker_50 : decode cX2_walker 50 = .ok (.iload_n 1, 1) := by decide +kernel
theorem dX2_walker_51 : decode cX2_walker 51 = .ok (.iload_n 2, 1) := by decide +kernel
theorem dX2_walker_52 : decode cX2_walker 52 = .ok (.iload_n 3, 1) := by decide +kernel
theorem dX2_walker_53 : decode cX2_walker 53 = .ok (.invokevirtual 85, 3) := by decide +kernel
theorem dX2_walker_56 : decode cX2_walker 56 = .ok (.istore 4, 2) := by decide +kernel
theorem dX2_walker_58 : decode cX2_walker 58 = .ok (.aload_n 0, 1) := by decide +kernel
theorem dX2_walker_59 : decode cX2_walker 59 = .ok (.iload 4, 2) := by decide +kernel
theorem dX2_walker_61 : decode cX2_walker 61 = .ok (.invokevirtual 89, 3) := by decide +kernel
theorem dX2_walker_64 : decode cX2_walker 64 = .ok (.aload_n 0, 1) := by decide +kernel
theorem dX2_walker_65 : decode cX2_walker 65 = .ok (.getfield 32, 3) := by decide +kernel
theorem dX2_walker_68 : decode cX2_walker 68 = .ok (.iload 4, 2) := by decide +kernel
theorem dX2_walker_70 : decode cX2_walker 70 = .ok (.iconst (-1), 1) := by decide +kernel
theorem dX2_walker_71 : decode cX2_walker 71 = .ok (.iastore, 1) := by decide +kernel
theorem dX2_walker_72 : decode cX2_walker 72 = .ok (.iload 4, 2) := by decide +kernel
theorem dX2_walker_74 : decode cX2_walker 74 = .ok (.ireturn, 1) := by decide +kernel
set_option maxRecDepth 20000 in
theorem ggX2_move_X2_requireWalker : GoodIn wsX2_move wsX2_requireWalker := goodIn_ca (goodIn_r _ [8, 9, 10, 1, 11, 17, 18, 19, 20, 21, 22, 23, 24, 25, 26, 27, 28, 29, 30, 31, 32, 33, 34, 35, 36, 37, 38, 39, 40, 41, 42] (by decide +kernel) (by decide +kernel)) (goodIn_sub (fun _ h => List.mem_cons_of_mem _ (List.mem_append_left _ (List.mem_append_right _ h))) (by decide +kernel))
set_option maxRecDepth 20000 in
theorem gX2_move_X2_requireWalker : GoodIn wsX2_move (wsV RX2 92 RX2 yX2_requireWalker wsX2_requireWalker) := goodIn_app (goodIn_of _ (by decide +kernel)) ggX2_move_X2_requireWalker
set_option maxRecDepth 20000 in
theorem ggX2_move_X2_requireRange : GoodIn wsX2_move wsX2_requireRange := goodIn_ca (goodIn_r _ [14, 15, 16] (by decide +kernel) (by decide +kernel)) (goodIn_sub (fun _ h => List.mem_cons_of_mem _ (List.mem_append_right _ h)) (by decide +kernel))
set_option maxRecDepth 20000 in
theorem gX2_move_X2_requireRange : GoodIn wsX2_move (va_wsS RX2 48 yX2_requireRange wsX2_requireRange) := goodIn_app (goodIn_of _ (by decide +kernel)) ggX2_move_X2_requireRange
theorem dX2_move_0 : decode cX2_move 0 = .ok (.aload_n 0, 1) := by decide +kernel
theorem dX2_move_1 : decode cX2_move 1 = .ok (.iload_n 1, 1) := by decide +kernel
theorem dX2_move_2 : decode cX2_move 2 = .ok (.invokevirtual 92, 3) := by decide +kernel
theorem dX2_move_5 : decode cX2_move 5 = .ok (.aload_n 0, 1) := by decide +kernel
theorem dX2_move_6 : decode cX2_move 6 = .ok (.getfield 10, 3) := by decide +kernel
theorem dX2_move_9 : decode cX2_move 9 = .ok (.getfield 95, 3) := by decide +kernel
theorem dX2_move_12 : decode cX2_move 12 = .ok (.iload_n 1, 1) := by decide +kernel
theorem dX2_move_13 : decode cX2_move 13 = .ok (.iaload, 1) := by decide +kernel
theorem dX2_move_14 : decode cX2_move 14 = .ok (.i2l, 1) := by decide +kernel
theorem dX2_move_15 : decode cX2_move 15 = .ok (.iload_n 2, 1) := by decide +kernel
theorem dX2_move_16 : decode cX2_move 16 = .ok (.i2l, 1) := by decide +kernel
theorem dX2_move_17 : decode cX2_move 17 = .ok (.ladd, 1) := by decide +kernel
theorem dX2_move_18 : decode cX2_move 18 = .ok (.lstore 4, 2) := by decide +kernel
theorem dX2_move_20 : decode cX2_move 20 = .ok (.aload_n 0, 1) := by decide +kernel
theorem dX2_move_21 : decode cX2_move 21 = .ok (.getfield 10, 3) := by decide +kernel
theorem dX2_move_24 : decode cX2_move 24 = .ok (.getfield 98, 3) := by decide +kernel
theorem dX2_move_27 : decode cX2_move 27 = .ok (.iload_n 1, 1) := by decide +kernel
theorem dX2_move_28 : decode cX2_move 28 = .ok (.iaload, 1) := by decide +kernel
theorem dX2_move_29 : decode cX2_move 29 = .ok (.i2l, 1) := by decide +kernel
theorem dX2_move_30 : decode cX2_move 30 = .ok (.iload_n 3, 1) := by decide +kernel
theorem dX2_move_31 : decode cX2_move 31 = .ok (.i2l, 1) := by decide +kernel
theorem dX2_move_32 : decode cX2_move 32 = .ok (.ladd, 1) := by decide +kernel
theorem dX2_move_33 : decode cX2_move 33 = .ok (.lstore 6, 2) := by decide +kernel
theorem dX2_move_35 : decode cX2_move 35 = .ok (.lload 4, 2) := by decide +kernel
theorem dX2_move_37 : decode cX2_move 37 = .ok (.iconst 0, 1) := by decide +kernel
theorem dX2_move_38 : decode cX2_move 38 = .ok (.bipush 63, 2) := by decide +kernel
theorem dX2_move_40 : decode cX2_move 40 = .ok (.invokestatic 48, 3) := by decide +kernel
theorem dX2_move_43 : decode cX2_move 43 = .ok (.lload 6, 2) := by decide +kernel
theorem dX2_move_45 : decode cX2_move 45 = .ok (.iconst 0, 1) := by decide +kernel
theorem dX2_move_46 : decode cX2_move 46 = .ok (.bipush 63, 2) := by decide +kernel
theorem dX2_move_48 : decode cX2_move 48 = .ok (.invokestatic 48, 3) := by decide +kernel
theorem dX2_move_51 : decode cX2_move 51 = .ok (.aload_n 0, 1) := by decide +kernel
theorem dX2_move_52 : decode cX2_move 52 = .ok (.getfield 10, 3) := by decide +kernel
theorem dX2_move_55 : decode cX2_move 55 = .ok (.getfield 95, 3) := by decide +kernel
theorem dX2_move_58 : decode cX2_move 58 = .ok (.iload_n 1, 1) := by decide +kernel
theorem dX2_move_59 : decode cX2_move 59 = .ok (.lload 4, 2) := by decide +kernel
theorem dX2_move_61 : decode cX2_move 61 = .ok (.l2i, 1) := by decide +kernel
theorem dX2_move_62 : decode cX2_move 62 = .ok (.iastore, 1) := by decide +kernel
theorem dX2_move_63 : decode cX2_move 63 = .ok (.aload_n 0, 1) := by decide +kernel
theorem dX2_move_64 : decode cX2_move 64 = .ok (.getfield 10, 3) := by decide +kernel
theorem dX2_move_67 : decode cX2_move 67 = .ok (.getfield 98, 3) := by decide +kernel
theorem dX2_move_70 : decode cX2_move 70 = .ok (.iload_n 1, 1) := by decide +kernel
theorem dX2_move_71 : decode cX2_move 71 = .ok (.lload 6, 2) := by decide +kernel
theorem dX2_move_73 : decode cX2_move 73 = .ok (.l2i, 1) := by decide +kernel
theorem dX2_move_74 : decode cX2_move 74 = .ok (.iastore, 1) := by decide +kernel
theorem dX2_move_75 : decode cX2_move 75 = .ok (.return_, 1) := by decide +kernel
set_option maxRecDepth 20000 in
theorem ggX2_margin_X2_requireRange : GoodIn wsX2_margin wsX2_requireRange := goodIn_ca (goodIn_r _ [5, 6, 7] (by decide +kernel) (by decide +kernel)) (goodIn_sub (fun _ h => List.mem_cons_of_mem _ (List.mem_append_right _ h)) (by decide +kernel))
set_option maxRecDepth 20000 in
theorem gX2_margin_X2_requireRange : GoodIn wsX2_margin (va_wsS RX2 48 yX2_requireRange wsX2_requireRange) := goodIn_app (goodIn_of _ (by decide +kernel)) ggX2_margin_X2_requireRange
theorem dX2_margin_0 : decode cX2_margin 0 = .ok (.iload_n 1, 1) := by decide +kernel
theorem dX2_margin_1 : decode cX2_margin 1 = .ok (.i2l, 1) := by decide +kernel
theorem dX2_margin_2 : decode cX2_margin 2 = .ok (.iconst 0, 1) := by decide +kernel
theorem dX2_margin_3 : decode cX2_margin 3 = .ok (.sipush 1000, 3) := by decide +kernel
theorem dX2_margin_6 : decode cX2_margin 6 = .ok (.invokestatic 48, 3) := by decide +kernel
theorem dX2_margin_9 : decode cX2_margin 9 = .ok (.aload_n 0, 1) := by decide +kernel
theorem dX2_margin_10 : decode cX2_margin 10 = .ok (.getfield 38, 3) := by decide +kernel
theorem dX2_margin_13 : decode cX2_margin 13 = .ok (.istore_n 2, 1) := by decide +kernel
theorem dX2_margin_14 : decode cX2_margin 14 = .ok (.aload_n 0, 1) := by decide +kernel
theorem dX2_margin_15 : decode cX2_margin 15 = .ok (.iload_n 1, 1) := by decide +kernel
theorem dX2_margin_16 : decode cX2_margin 16 = .ok (.putfield 38, 3) := by decide +kernel
theorem dX2_margin_19 : decode cX2_margin 19 = .ok (.iload_n 2, 1) := by decide +kernel
theorem dX2_margin_20 : decode cX2_margin 20 = .ok (.ireturn, 1) := by decide +kernel
set_option maxRecDepth 20000 in
theorem ggX2_patience_X2_requireRange : GoodIn wsX2_patience wsX2_requireRange := goodIn_ca (goodIn_r _ [5, 6, 7] (by decide +kernel) (by decide +kernel)) (goodIn_sub (fun _ h => List.mem_cons_of_mem _ (List.mem_append_right _ h)) (by decide +kernel))
set_option maxRecDepth 20000 in
theorem gX2_patience_X2_requireRange : GoodIn wsX2_patience (va_wsS RX2 48 yX2_requireRange wsX2_requireRange) := goodIn_app (goodIn_of _ (by decide +kernel)) ggX2_patience_X2_requireRange
theorem dX2_patience_0 : decode cX2_patience 0 = .ok (.iload_n 1, 1) := by decide +kernel
theorem dX2_patience_1 : decode cX2_patience 1 = .ok (.i2l, 1) := by decide +kernel
theorem dX2_patience_2 : decode cX2_patience 2 = .ok (.iconst 1, 1) := by decide +kernel
theorem dX2_patience_3 : decode cX2_patience 3 = .ok (.bipush 10, 2) := by decide +kernel
theorem dX2_patience_5 : decode cX2_patience 5 = .ok (.invokestatic 48, 3) := by decide +kernel
theorem dX2_patience_8 : decode cX2_patience 8 = .ok (.aload_n 0, 1) := by decide +kernel
theorem dX2_patience_9 : decode cX2_patience 9 = .ok (.getfield 42, 3) := by decide +kernel
theorem dX2_patience_12 : decode cX2_patience 12 = .ok (.istore_n 2, 1) := by decide +kernel
theorem dX2_patience_13 : decode cX2_patience 13 = .ok (.aload_n 0, 1) := by decide +kernel
theorem dX2_patience_14 : decode cX2_patience 14 = .ok (.iload_n 1, 1) := by decide +kernel
theorem dX2_patience_15 : decode cX2_patience 15 = .ok (.putfield 42, 3) := by decide +kernel
theorem dX2_patience_18 : decode cX2_patience 18 = .ok (.iload_n 2, 1) := by decide +kernel
theorem dX2_patience_19 : decode cX2_patience 19 = .ok (.ireturn, 1) := by decide +kernel
set_option maxRecDepth 20000 in
theorem ggX2_bound_X2_requireRange : GoodIn wsX2_bound wsX2_requireRange := goodIn_ca (goodIn_r _ [5, 6, 7] (by decide +kernel) (by decide +kernel)) (goodIn_sub (fun _ h => List.mem_cons_of_mem _ (List.mem_append_right _ h)) (by decide +kernel))
set_option maxRecDepth 20000 in
theorem gX2_bound_X2_requireRange : GoodIn wsX2_bound (va_wsS RX2 48 yX2_requireRange wsX2_requireRange) := goodIn_app (goodIn_of _ (by decide +kernel)) ggX2_bound_X2_requireRange
theorem dX2_bound_0 : decode cX2_bound 0 = .ok (.iload_n 1, 1) := by decide +kernel
theorem dX2_bound_1 : decode cX2_bound 1 = .ok (.i2l, 1) := by decide +kernel
theorem dX2_bound_2 : decode cX2_bound 2 = .ok (.iconst 1, 1) := by decide +kernel
theorem dX2_bound_3 : decode cX2_bound 3 = .ok (.sipush 10000, 3) := by decide +kernel
theorem dX2_bound_6 : decode cX2_bound 6 = .ok (.invokestatic 48, 3) := by decide +kernel
theorem dX2_bound_9 : decode cX2_bound 9 = .ok (.aload_n 0, 1) := by decide +kernel
theorem dX2_bound_10 : decode cX2_bound 10 = .ok (.getfield 45, 3) := by decide +kernel
theorem dX2_bound_13 : decode cX2_bound 13 = .ok (.istore_n 2, 1) := by decide +kernel
theorem dX2_bound_14 : decode cX2_bound 14 = .ok (.aload_n 0, 1) := by decide +kernel
theorem dX2_bound_15 : decode cX2_bound 15 = .ok (.iload_n 1, 1) := by decide +kernel
theorem dX2_bound_16 : decode cX2_bound 16 = .ok (.putfield 45, 3) := by decide +kernel
theorem dX2_bound_19 : decode cX2_bound 19 = .ok (.iload_n 2, 1) := by decide +kernel
theorem dX2_bound_20 : decode cX2_bound 20 = .ok (.ireturn, 1) := by decide +kernel
set_option maxRecDepth 20000 in
theorem ggX2_tick_X2_requireRange : GoodIn wsX2_tick wsX2_requireRange := goodIn_ca (goodIn_r _ [5, 6, 7] (by decide +kernel) (by decide +kernel)) (goodIn_sub (fun _ h => List.mem_cons_of_mem _ (List.mem_append_right _ h)) (by decide +kernel))
set_option maxRecDepth 20000 in
theorem gX2_tick_X2_requireRange : GoodIn wsX2_tick (va_wsS RX2 48 yX2_requireRange wsX2_requireRange) := goodIn_app (goodIn_of _ (by decide +kernel)) ggX2_tick_X2_requireRange
set_option maxRecDepth 20000 in
theorem ggX2_tick_X2_passTick : GoodIn wsX2_tick wsX2_passTick := goodIn_r _ [11, 12, 13, 14, 15, 16, 17, 18, 19, 20, 21, 22, 23, 24, 25, 26, 27, 28, 29, 30, 31, 32, 33, 34, 35, 36, 37, 38, 39, 40, 41, 42, 43, 44, 45, 46, 47, 48, 49, 50, 51, 52, 53, 54, 55, 56, 57, 58, 4, 59, 60, 61, 62, 63, 64, 65, 66, 67, 68, 69, 70, 71, 72, 73, 74, 75, 76, 77, 78, 79, 80, 81, 82, 83, 84, 85, 86, 87, 88, 89, 1, 90, 91, 92, 93, 94, 95, 96, 97, 98, 99, 100, 101, 102, 103, 104, 105, 106, 107, 108, 109, 110, 111, 112, 113, 114, 115, 116, 117] (by decide +kernel) (by decide +kernel)
set_option maxRecDepth 20000 in
theorem gX2_tick_X2_passTick : GoodIn wsX2_tick (wsV RX2 104 RX2 yX2_passTick wsX2_passTick) := goodIn_app (goodIn_of _ (by decide +kernel)) ggX2_tick_X2_passTick
theorem dX2_tick_0 : decode cX2_tick 0 = .ok (.iload_n 1, 1) := by decide +kernel
theorem dX2_tick_1 : decode cX2_tick 1 = .ok (.i2l, 1) := by decide +kernel
theorem dX2_tick_2 : decode cX2_tick 2 = .ok (.iconst 1, 1) := by decide +kernel
theorem dX2_tick_3 : decode cX2_tick 3 = .ok (.bipush 20, 2) := by decide +kernel
theorem dX2_tick_5 : decode cX2_tick 5 = .ok (.invokestatic 48, 3) := by decide +kernel
theorem dX2_tick_8 : decode cX2_tick 8 = .ok (.aload_n 0, 1) := by decide +kernel
theorem dX2_tick_9 : decode cX2_tick 9 = .ok (.getfield 101, 3) := by decide +kernel
theorem dX2_tick_12 : decode cX2_tick 12 = .ok (.istore_n 2, 1) := by decide +kernel
theorem dX2_tick_13 : decode cX2_tick 13 = .ok (.iconst 0, 1) := by decide +kernel
theorem dX2_tick_14 : decode cX2_tick 14 = .ok (.istore_n 3, 1) := by decide +kernel
theorem dX2_tick_15 : decode cX2_tick 15 = .ok (.iload_n 3, 1) := by decide +kernel
theorem dX2_tick_16 : decode cX2_tick 16 = .ok (.iload_n 1, 1) := by decide +kernel
theorem dX2_tick_17 : decode cX2_tick 17 = .ok (.if_icmp .ge 13, 3) := by decide +kernel
theorem dX2_tick_20 : decode cX2_tick 20 = .ok (.aload_n 0, 1) := by decide +kernel
theorem dX2_tick_21 : decode cX2_tick 21 = .ok (.invokevirtual 104, 3) := by decide +kernel
theorem dX2_tick_24 : decode cX2_tick 24 = .ok (.iinc 3 1, 3) := by decide +kernel
theorem dX2_tick_27 : decode cX2_tick 27 = .ok (.goto (-12), 3) := by decide +kernel
theorem dX2_tick_30 : decode cX2_tick 30 = .ok (.aload_n 0, 1) := by decide +kernel
theorem dX2_tick_31 : decode cX2_tick 31 = .ok (.getfield 101, 3) := by decide +kernel
theorem dX2_tick_34 : decode cX2_tick 34 = .ok (.iload_n 2, 1) := by decide +kernel
theorem dX2_tick_35 : decode cX2_tick 35 = .ok (.isub, 1) := by decide +kernel
theorem dX2_tick_36 : decode cX2_tick 36 = .ok (.ireturn, 1) := by decide +kernel
theorem dX2_ticks_0 : decode cX2_ticks 0 = .ok (.aload_n 0, 1) := by decide +kernel
theorem dX2_ticks_1 : decode cX2_ticks 1 = .ok (.getfield 107, 3) := by decide +kernel
theorem dX2_ticks_4 : decode cX2_ticks 4 = .ok (.ireturn, 1) := by decide +kernel
theorem dX2_cells_0 : decode cX2_cells 0 = .ok (.aload_n 0, 1) := by decide +kernel
theorem dX2_cells_1 : decode cX2_cells 1 = .ok (.getfield 10, 3) := by decide +kernel
theorem dX2_cells_4 : decode cX2_cells 4 = .ok (.getfield 52, 3) := by decide +kernel
theorem dX2_cells_7 : decode cX2_cells 7 = .ok (.ireturn, 1) := by decide +kernel
theorem dX2_walkers_0 : decode cX2_walkers 0 = .ok (.aload_n 0, 1) := by decide +kernel
theorem dX2_walkers_1 : decode cX2_walkers 1 = .ok (.getfield 10, 3) := by decide +kernel
theorem dX2_walkers_4 : decode cX2_walkers 4 = .ok (.getfield 80, 3) := by decide +kernel
theorem dX2_walkers_7 : decode cX2_walkers 7 = .ok (.ireturn, 1) := by decide +kernel
set_option maxRecDepth 20000 in
theorem ggX2_signal_X2_requireCell : GoodIn wsX2_signal wsX2_requireCell := goodIn_ca (goodIn_r _ [6, 7, 8, 1, 9, 28, 29, 30, 31, 32, 33, 34, 35, 36, 37, 38, 39, 40, 41, 42, 43, 44, 45, 46, 47, 48, 49, 50, 51, 52, 53] (by decide +kernel) (by decide +kernel)) (goodIn_sub (fun _ h => List.mem_cons_of_mem _ (List.mem_append_right _ h)) (by decide +kernel))
set_option maxRecDepth 20000 in
theorem gX2_signal_X2_requireCell : GoodIn wsX2_signal (wsV RX2 66 RX2 yX2_requireCell wsX2_requireCell) := goodIn_app (goodIn_of _ (by decide +kernel)) ggX2_signal_X2_requireCell
set_option maxRecDepth 20000 in
theorem ggX2_signal_X2_requireWalker : GoodIn wsX2_signal wsX2_requireWalker := goodIn_ca (goodIn_r _ [13, 7, 8, 1, 14, 28, 29, 30, 31, 32, 33, 34, 35, 36, 37, 38, 39, 40, 41, 42, 43, 44, 45, 46, 47, 48, 49, 50, 51, 52, 53] (by decide +kernel) (by decide +kernel)) (goodIn_sub (fun _ h => List.mem_cons_of_mem _ (List.mem_append_right _ h)) (by decide +kernel))
set_option maxRecDepth 20000 in
theorem gX2_signal_X2_requireWalker : GoodIn wsX2_signal (wsV RX2 92 RX2 yX2_requireWalker wsX2_requireWalker) := goodIn_app (goodIn_of _ (by decide +kernel)) ggX2_signal_X2_requireWalker
set_option maxRecDepth 20000 in
theorem ggX2_signal_X0_signalOf : GoodIn wsX2_signal wsX0_signalOf := goodIn_r _ [19, 20, 21, 22, 23, 24, 25, 26, 27, 41, 42, 43, 44, 45, 46, 47, 48, 49, 50, 51, 52, 53] (by decide +kernel) (by decide +kernel)
set_option maxRecDepth 20000 in
theorem gX2_signal_X0_signalOf : GoodIn wsX2_signal (wsV RX2 110 RX0 yX0_signalOf wsX0_signalOf) := goodIn_app (goodIn_of _ (by decide +kernel)) ggX2_signal_X0_signalOf
theorem dX2_signal_0 : decode cX2_signal 0 = .ok (.aload_n 0, 1) := by decide +kernel
theorem dX2_signal_1 : decode cX2_signal 1 = .ok (.iload_n 1, 1) := by decide +kernel
theorem dX2_signal_2 : decode cX2_signal 2 = .ok (.invokevirtual 66, 3) := by decide +kernel
theorem dX2_signal_5 : decode cX2_signal 5 = .ok (.aload_n 0, 1) := by decide +kernel
theorem dX2_signal_6 : decode cX2_signal 6 = .ok (.iload_n 2, 1) := by decide +kernel
theorem dX2_signal_7 : decode cX2_signal 7 = .ok (.invokevirtual 92, 3) := by decide +kernel
theorem dX2_signal_10 : decode cX2_signal 10 = .ok (.aload_n 0, 1) := by decide +kernel
theorem dX2_signal_11 : decode cX2_signal 11 = .ok (.getfield 10, 3) := by decide +kernel
theorem dX2_signal_14 : decode cX2_signal 14 = .ok (.iload_n 1, 1) := by decide +kernel
theorem dX2_signal_15 : decode cX2_signal 15 = .ok (.iload_n 2, 1) := by decide +kernel
theorem dX2_signal_16 : decode cX2_signal 16 = .ok (.invokevirtual 110, 3) := by decide +kernel
theorem dX2_signal_19 : decode cX2_signal 19 = .ok (.ireturn, 1) := by decide +kernel
set_option maxRecDepth 20000 in
theorem ggX2_quality_X2_requireCell : GoodIn wsX2_quality wsX2_requireCell := goodIn_ca (goodIn_r _ [7, 8, 9, 1, 10, 54, 55, 56, 57, 58, 59, 60, 61, 62, 63, 64, 65, 66, 67, 68, 69, 70, 71, 72, 73, 74, 75, 76, 77, 78, 79] (by decide +kernel) (by decide +kernel)) (goodIn_sub (fun _ h => List.mem_cons_of_mem _ (List.mem_append_right _ h)) (by decide +kernel))
set_option maxRecDepth 20000 in
theorem gX2_quality_X2_requireCell : GoodIn wsX2_quality (wsV RX2 66 RX2 yX2_requireCell wsX2_requireCell) := goodIn_app (goodIn_of _ (by decide +kernel)) ggX2_quality_X2_requireCell
set_option maxRecDepth 20000 in
theorem ggX2_quality_X2_requireWalker : GoodIn wsX2_quality wsX2_requireWalker := goodIn_ca (goodIn_r _ [14, 8, 9, 1, 15, 54, 55, 56, 57, 58, 59, 60, 61, 62, 63, 64, 65, 66, 67, 68, 69, 70, 71, 72, 73, 74, 75, 76, 77, 78, 79] (by decide +kernel) (by decide +kernel)) (goodIn_sub (fun _ h => List.mem_cons_of_mem _ (List.mem_append_right _ h)) (by decide +kernel))
set_option maxRecDepth 20000 in
theorem gX2_quality_X2_requireWalker : GoodIn wsX2_quality (wsV RX2 92 RX2 yX2_requireWalker wsX2_requireWalker) := goodIn_app (goodIn_of _ (by decide +kernel)) ggX2_quality_X2_requireWalker
set_option maxRecDepth 20000 in
theorem ggX2_quality_X0_measure : GoodIn wsX2_quality wsX0_measure := goodIn_r _ [20, 21, 22, 23, 24, 25, 26, 27, 19, 28, 29, 30, 31, 32, 33, 34, 35, 36, 37, 38, 39, 40, 41, 42, 43, 44, 45, 46, 47, 48, 49, 50, 51, 52, 53, 67, 68, 69, 70, 71, 72, 73, 74, 75, 76, 77, 78, 79] (by decide +kernel) (by decide +kernel)
set_option maxRecDepth 20000 in
theorem gX2_quality_X0_measure : GoodIn wsX2_quality (wsV RX2 114 RX0 yX0_measure wsX0_measure) := goodIn_app (goodIn_of _ (by decide +kernel)) ggX2_quality_X0_measure
theorem dX2_quality_0 : decode cX2_quality 0 = .ok (.aload_n 0, 1) := by decide +kernel
theorem dX2_quality_1 : decode cX2_quality 1 = .ok (.iload_n 1, 1) := by decide +kernel
theorem dX2_quality_2 : decode cX2_quality 2 = .ok (.invokevirtual 66, 3) := by decide +kernel
theorem dX2_quality_5 : decode cX2_quality 5 = .ok (.aload_n 0, 1) := by decide +kernel
theorem dX2_quality_6 : decode cX2_quality 6 = .ok (.iload_n 2, 1) := by decide +kernel
theorem dX2_quality_7 : decode cX2_quality 7 = .ok (.invokevirtual 92, 3) := by decide +kernel
theorem dX2_quality_10 : decode cX2_quality 10 = .ok (.aload_n 0, 1) := by decide +kernel
theorem dX2_quality_11 : decode cX2_quality 11 = .ok (.getfield 10, 3) := by decide +kernel
theorem dX2_quality_14 : decode cX2_quality 14 = .ok (.invokevirtual 114, 3) := by decide +kernel
theorem dX2_quality_17 : decode cX2_quality 17 = .ok (.aload_n 0, 1) := by decide +kernel
theorem dX2_quality_18 : decode cX2_quality 18 = .ok (.getfield 10, 3) := by decide +kernel
theorem dX2_quality_21 : decode cX2_quality 21 = .ok (.getfield 117, 3) := by decide +kernel
theorem dX2_quality_24 : decode cX2_quality 24 = .ok (.iload_n 2, 1) := by decide +kernel
theorem dX2_quality_25 : decode cX2_quality 25 = .ok (.aaload, 1) := by decide +kernel
theorem dX2_quality_26 : decode cX2_quality 26 = .ok (.iload_n 1, 1) := by decide +kernel
theorem dX2_quality_27 : decode cX2_quality 27 = .ok (.iaload, 1) := by decide +kernel
theorem dX2_quality_28 : decode cX2_quality 28 = .ok (.ireturn, 1) := by decide +kernel
set_option maxRecDepth 20000 in
theorem ggX2_load_X2_requireCell : GoodIn wsX2_load wsX2_requireCell := goodIn_ca (goodIn_r _ [6, 7, 8, 1, 9, 18, 19, 20, 21, 22, 23, 24, 25, 26, 27, 28, 29, 30, 31, 32, 33, 34, 35, 36, 37, 38, 39, 40, 41, 42, 43] (by decide +kernel) (by decide +kernel)) (goodIn_sub (fun _ h => List.mem_cons_of_mem _ (List.mem_append_right _ h)) (by decide +kernel))
set_option maxRecDepth 20000 in
theorem gX2_load_X2_requireCell : GoodIn wsX2_load (wsV RX2 66 RX2 yX2_requireCell wsX2_requireCell) := goodIn_app (goodIn_of _ (by decide +kernel)) ggX2_load_X2_requireCell
set_option maxRecDepth 20000 in
theorem ggX2_load_X0_loadOf : GoodIn wsX2_load wsX0_loadOf := goodIn_r _ [14, 15, 16, 17, 31, 32, 33, 34, 35, 36, 37, 38, 39, 40, 41, 42, 43] (by decide +kernel) (by decide +kernel)
set_option maxRecDepth 20000 in
theorem gX2_load_X0_loadOf : GoodIn wsX2_load (wsV RX2 121 RX0 yX0_loadOf wsX0_loadOf) := goodIn_app (goodIn_of _ (by decide +kernel)) ggX2_load_X0_loadOf
theorem dX2_load_0 : decode cX2_load 0 = .ok (.aload_n 0, 1) := by decide +kernel
theorem dX2_load_1 : decode cX2_load 1 = .ok (.iload_n 1, 1) := by decide +kernel
theorem dX2_load_2 : decode cX2_load 2 = .ok (.invokevirtual 66, 3) := by decide +kernel
theorem dX2_load_5 : decode cX2_load 5 = .ok (.aload_n 0, 1) := by decide +kernel
theorem dX2_load_6 : decode cX2_load 6 = .ok (.getfield 10, 3) := by decide +kernel
theorem dX2_load_9 : decode cX2_load 9 = .ok (.iload_n 1, 1) := by decide +kernel
theorem dX2_load_10 : decode cX2_load 10 = .ok (.invokevirtual 121, 3) := by decide +kernel
theorem dX2_load_13 : decode cX2_load 13 = .ok (.ireturn, 1) := by decide +kernel
set_option maxRecDepth 20000 in
theorem ggX2_use_X2_requireCell : GoodIn wsX2_use wsX2_requireCell := goodIn_ca (goodIn_r _ [6, 7, 8, 1, 9, 23, 24, 25, 26, 27, 28, 29, 30, 31, 32, 33, 34, 35, 36, 37, 38, 39, 40, 41, 42, 43, 44, 45, 46, 47, 48] (by decide +kernel) (by decide +kernel)) (goodIn_sub (fun _ h => List.mem_cons_of_mem _ (List.mem_append_right _ h)) (by decide +kernel))
set_option maxRecDepth 20000 in
theorem gX2_use_X2_requireCell : GoodIn wsX2_use (wsV RX2 66 RX2 yX2_requireCell wsX2_requireCell) := goodIn_app (goodIn_of _ (by decide +kernel)) ggX2_use_X2_requireCell
set_option maxRecDepth 20000 in
theorem ggX2_use_X0_useOf : GoodIn wsX2_use wsX0_useOf := goodIn_r _ [14, 15, 16, 17, 18, 13, 19, 20, 21, 22, 36, 37, 38, 39, 40, 41, 42, 43, 44, 45, 46, 47, 48] (by decide +kernel) (by decide +kernel)
set_option maxRecDepth 20000 in
theorem gX2_use_X0_useOf : GoodIn wsX2_use (wsV RX2 125 RX0 yX0_useOf wsX0_useOf) := goodIn_app (goodIn_of _ (by decide +kernel)) ggX2_use_X0_useOf
theorem dX2_use_0 : decode cX2_use 0 = .ok (.aload_n 0, 1) := by decide +kernel
theorem dX2_use_1 : decode cX2_use 1 = .ok (.iload_n 1, 1) := by decide +kernel
theorem dX2_use_2 : decode cX2_use 2 = .ok (.invokevirtual 66, 3) := by decide +kernel
theorem dX2_use_5 : decode cX2_use 5 = .ok (.aload_n 0, 1) := by decide +kernel
theorem dX2_use_6 : decode cX2_use 6 = .ok (.getfield 10, 3) := by decide +kernel
theorem dX2_use_9 : decode cX2_use 9 = .ok (.iload_n 1, 1) := by decide +kernel
theorem dX2_use_10 : decode cX2_use 10 = .ok (.invokevirtual 125, 3) := by decide +kernel
theorem dX2_use_13 : decode cX2_use 13 = .ok (.ireturn, 1) := by decide +kernel
set_option maxRecDepth 20000 in
theorem ggX2_servedBy_X2_requireWalker : GoodIn wsX2_servedBy wsX2_requireWalker := goodIn_ca (goodIn_r _ [7, 8, 9, 1, 10, 11, 12, 13, 14, 15, 16, 17, 18, 19, 20, 21, 22, 23, 24, 25, 26, 27, 28, 29, 30, 31, 32, 33, 34, 35, 36] (by decide +kernel) (by decide +kernel)) (goodIn_sub (fun _ h => List.mem_cons_of_mem _ (List.mem_append_right _ h)) (by decide +kernel))
set_option maxRecDepth 20000 in
theorem gX2_servedBy_X2_requireWalker : GoodIn wsX2_servedBy (wsV RX2 92 RX2 yX2_requireWalker wsX2_requireWalker) := goodIn_app (goodIn_of _ (by decide +kernel)) ggX2_servedBy_X2_requireWalker
theorem dX2_servedBy_0 : decode cX2_servedBy 0 = .ok (.aload_n 0, 1) := by decide +kernel
theorem dX2_servedBy_1 : decode cX2_servedBy 1 = .ok (.iload_n 1, 1) := by decide +kernel
theorem dX2_servedBy_2 : decode cX2_servedBy 2 = .ok (.invokevirtual 92, 3) := by decide +kernel
theorem dX2_servedBy_5 : decode cX2_servedBy 5 = .ok (.aload_n 0, 1) := by decide +kernel
theorem dX2_servedBy_6 : decode cX2_servedBy 6 = .ok (.getfield 10, 3) := by decide +kernel
theorem dX2_servedBy_9 : decode cX2_servedBy 9 = .ok (.getfield 128, 3) := by decide +kernel
theorem dX2_servedBy_12 : decode cX2_servedBy 12 = .ok (.iload_n 1, 1) := by decide +kernel
theorem dX2_servedBy_13 : decode cX2_servedBy 13 = .ok (.iaload, 1) := by decide +kernel
theorem dX2_servedBy_14 : decode cX2_servedBy 14 = .ok (.ireturn, 1) := by decide +kernel
set_option maxRecDepth 20000 in
theorem ggX2_favourite_X2_requireWalker : GoodIn wsX2_favourite wsX2_requireWalker := goodIn_ca (goodIn_r _ [6, 7, 8, 9, 10, 11, 12, 13, 14, 15, 16, 17, 18, 19, 20, 21, 22, 23, 24, 25, 26, 27, 28, 29, 30, 31, 32, 33, 34, 35, 36] (by decide +kernel) (by decide +kernel)) (goodIn_sub (fun _ h => List.mem_cons_of_mem _ (List.mem_append_right _ h)) (by decide +kernel))
set_option maxRecDepth 20000 in
theorem gX2_favourite_X2_requireWalker : GoodIn wsX2_favourite (wsV RX2 92 RX2 yX2_requireWalker wsX2_requireWalker) := goodIn_app (goodIn_of _ (by decide +kernel)) ggX2_favourite_X2_requireWalker
theorem dX2_favourite_0 : decode cX2_favourite 0 = .ok (.aload_n 0, 1) := by decide +kernel
theorem dX2_favourite_1 : decode cX2_favourite 1 = .ok (.iload_n 1, 1) := by decide +kernel
theorem dX2_favourite_2 : decode cX2_favourite 2 = .ok (.invokevirtual 92, 3) := by decide +kernel
theorem dX2_favourite_5 : decode cX2_favourite 5 = .ok (.aload_n 0, 1) := by decide +kernel
theorem dX2_favourite_6 : decode cX2_favourite 6 = .ok (.getfield 25, 3) := by decide +kernel
theorem dX2_favourite_9 : decode cX2_favourite 9 = .ok (.iload_n 1, 1) := by decide +kernel
theorem dX2_favourite_10 : decode cX2_favourite 10 = .ok (.iaload, 1) := by decide +kernel
theorem dX2_favourite_11 : decode cX2_favourite 11 = .ok (.ireturn, 1) := by decide +kernel
set_option maxRecDepth 20000 in
theorem ggX2_heldFor_X2_requireWalker : GoodIn wsX2_heldFor wsX2_requireWalker := goodIn_ca (goodIn_r _ [6, 7, 8, 9, 10, 11, 12, 13, 14, 15, 16, 17, 18, 19, 20, 21, 22, 23, 24, 25, 26, 27, 28, 29, 30, 31, 32, 33, 34, 35, 36] (by decide +kernel) (by decide +kernel)) (goodIn_sub (fun _ h => List.mem_cons_of_mem _ (List.mem_append_right _ h)) (by decide +kernel))
set_option maxRecDepth 20000 in
theorem gX2_heldFor_X2_requireWalker : GoodIn wsX2_heldFor (wsV RX2 92 RX2 yX2_requireWalker wsX2_requireWalker) := goodIn_app (goodIn_of _ (by decide +kernel)) ggX2_heldFor_X2_requireWalker
theorem dX2_heldFor_0 : decode cX2_heldFor 0 = .ok (.aload_n 0, 1) := by decide +kernel
theorem dX2_heldFor_1 : decode cX2_heldFor 1 = .ok (.iload_n 1, 1) := by decide +kernel
theorem dX2_heldFor_2 : decode cX2_heldFor 2 = .ok (.invokevirtual 92, 3) := by decide +kernel
theorem dX2_heldFor_5 : decode cX2_heldFor 5 = .ok (.aload_n 0, 1) := by decide +kernel
theorem dX2_heldFor_6 : decode cX2_heldFor 6 = .ok (.getfield 29, 3) := by decide +kernel
theorem dX2_heldFor_9 : decode cX2_heldFor 9 = .ok (.iload_n 1, 1) := by decide +kernel
theorem dX2_heldFor_10 : decode cX2_heldFor 10 = .ok (.iaload, 1) := by decide +kernel
theorem dX2_heldFor_11 : decode cX2_heldFor 11 = .ok (.ireturn, 1) := by decide +kernel
theorem dX2_handovers_0 : decode cX2_handovers 0 = .ok (.aload_n 0, 1) := by decide +kernel
theorem dX2_handovers_1 : decode cX2_handovers 1 = .ok (.getfield 101, 3) := by decide +kernel
theorem dX2_handovers_4 : decode cX2_handovers 4 = .ok (.ireturn, 1) := by decide +kernel
theorem dX2_rings_0 : decode cX2_rings 0 = .ok (.aload_n 0, 1) := by decide +kernel
theorem dX2_rings_1 : decode cX2_rings 1 = .ok (.getfield 131, 3) := by decide +kernel
theorem dX2_rings_4 : decode cX2_rings 4 = .ok (.ireturn, 1) := by decide +kernel
theorem dX2_losses_0 : decode cX2_losses 0 = .ok (.aload_n 0, 1) := by decide +kernel
theorem dX2_losses_1 : decode cX2_losses 1 = .ok (.getfield 134, 3) := by decide +kernel
theorem dX2_losses_4 : decode cX2_losses 4 = .ok (.ireturn, 1) := by decide +kernel
theorem dX2_unserved_0 : decode cX2_unserved 0 = .ok (.iconst 0, 1) := by decide +kernel
theorem dX2_unserved_1 : decode cX2_unserved 1 = .ok (.istore_n 1, 1) := by decide +kernel
theorem dX2_unserved_2 : decode cX2_unserved 2 = .ok (.iconst 0, 1) := by decide +kernel
theorem dX2_unserved_3 : decode cX2_unserved 3 = .ok (.istore_n 2, 1) := by decide +kernel
theorem dX2_unserved_4 : decode cX2_unserved 4 = .ok (.iload_n 2, 1) := by decide +kernel
theorem dX2_unserved_5 : decode cX2_unserved 5 = .ok (.aload_n 0, 1) := by decide +kernel
theorem dX2_unserved_6 : decode cX2_unserved 6 = .ok (.getfield 10, 3) := by decide +kernel
theorem dX2_unserved_9 : decode cX2_unserved 9 = .ok (.getfield 80, 3) := by decide +kernel
theorem dX2_unserved_12 : decode cX2_unserved 12 = .ok (.if_icmp .ge 28, 3) := by decide +kernel
theorem dX2_unserved_15 : decode cX2_unserved 15 = .ok (.aload_n 0, 1) := by decide +kernel
theorem dX2_unserved_16 : decode cX2_unserved 16 = .ok (.getfield 10, 3) := by decide +kernel
theorem dX2_unserved_19 : decode cX2_unserved 19 = .ok (.getfield 128, 3) := by decide +kernel
theorem dX2_unserved_22 : decode cX2_unserved 22 = .ok (.iload_n 2, 1) := by decide +kernel
theorem dX2_unserved_23 : decode cX2_unserved 23 = .ok (.iaload, 1) := by decide +kernel
theorem dX2_unserved_24 : decode cX2_unserved 24 = .ok (.iconst (-1), 1) := by decide +kernel
theorem dX2_unserved_25 : decode cX2_unserved 25 = .ok (.if_icmp .ne 9, 3) := by decide +kernel
theorem dX2_unserved_28 : decode cX2_unserved 28 = .ok (.iload_n 1, 1) := by decide +kernel
theorem dX2_unserved_29 : decode cX2_unserved 29 = .ok (.iconst 1, 1) := by decide +kernel
theorem dX2_unserved_30 : decode cX2_unserved 30 = .ok (.iload_n 2, 1) := by decide +kernel
theorem dX2_unserved_31 : decode cX2_unserved 31 = .ok (.ishl, 1) := by decide +kernel
theorem dX2_unserved_32 : decode cX2_unserved 32 = .ok (.ior, 1) := by decide +kernel
theorem dX2_unserved_33 : decode cX2_unserved 33 = .ok (.istore_n 1, 1) := by decide +kernel
theorem dX2_unserved_34 : decode cX2_unserved 34 = .ok (.iinc 2 1, 3) := by decide +kernel
theorem dX2_unserved_37 : decode cX2_unserved 37 = .ok (.goto (-33), 3) := by decide +kernel
theorem dX2_unserved_40 : decode cX2_unserved 40 = .ok (.iload_n 1, 1) := by decide +kernel
theorem dX2_unserved_41 : decode cX2_unserved 41 = .ok (.ireturn, 1) := by decide +kernel
set_option maxRecDepth 20000 in
theorem ggX2_mostServed_X1_greatestWorth : GoodIn wsX2_mostServed wsX1_greatestWorth := goodIn_r _ [7, 8, 9, 10, 11, 12, 13, 14, 15, 16, 17, 18, 19, 20, 21, 22, 23, 24, 25, 26, 27, 28, 29, 30, 31, 32, 33, 34, 35, 36, 37, 38, 39, 40, 41, 42, 43, 44, 45, 46, 47, 48, 49, 50, 51, 52, 53, 54, 55, 56, 57, 58, 59, 60, 6, 61, 62, 63, 64, 65, 66, 67, 68, 69, 70, 71, 72, 73, 74, 75, 76, 90, 91, 92, 93, 94, 95, 96, 97, 98, 99, 100, 101, 102, 103, 104, 105, 106, 107, 108, 109] (by decide +kernel) (by decide +kernel)
set_option maxRecDepth 20000 in
theorem gX2_mostServed_X1_greatestWorth : GoodIn wsX2_mostServed (wsV RX2 137 RX1 yX1_greatestWorth wsX1_greatestWorth) := goodIn_app (goodIn_of _ (by decide +kernel)) ggX2_mostServed_X1_greatestWorth
theorem dX2_mostServed_0 : decode cX2_mostServed 0 = .ok (.aload_n 0, 1) := by decide +kernel
theorem dX2_mostServed_1 : decode cX2_mostServed 1 = .ok (.getfield 21, 3) := by decide +kernel
theorem dX2_mostServed_4 : decode cX2_mostServed 4 = .ok (.aload_n 0, 1) := by decide +kernel
theorem dX2_mostServed_5 : decode cX2_mostServed 5 = .ok (.getfield 45, 3) := by decide +kernel
theorem dX2_mostServed_8 : decode cX2_mostServed 8 = .ok (.iconst 1, 1) := by decide +kernel
theorem dX2_mostServed_9 : decode cX2_mostServed 9 = .ok (.iconst 0, 1) := by decide +kernel
theorem dX2_mostServed_10 : decode cX2_mostServed 10 = .ok (.iconst 0, 1) := by decide +kernel
theorem dX2_mostServed_11 : decode cX2_mostServed 11 = .ok (.invokevirtual 137, 3) := by decide +kernel
theorem dX2_mostServed_14 : decode cX2_mostServed 14 = .ok (.ireturn, 1) := by decide +kernel
set_option maxRecDepth 20000 in
theorem ggX2_mostDemand_X1_greatestWorth : GoodIn wsX2_mostDemand wsX1_greatestWorth := goodIn_r _ [7, 8, 9, 10, 11, 12, 13, 14, 15, 16, 17, 18, 19, 20, 21, 22, 23, 24, 25, 26, 27, 28, 29, 30, 31, 32, 33, 34, 35, 36, 37, 38, 39, 40, 41, 42, 43, 44, 45, 46, 47, 48, 49, 50, 51, 52, 53, 54, 55, 56, 57, 58, 59, 60, 6, 61, 62, 63, 64, 65, 66, 67, 68, 69, 70, 71, 72, 73, 74, 75, 76, 90, 91, 92, 93, 94, 95, 96, 97, 98, 99, 100, 101, 102, 103, 104, 105, 106, 107, 108, 109] (by decide +kernel) (by decide +kernel)
set_option maxRecDepth 20000 in
theorem gX2_mostDemand_X1_greatestWorth : GoodIn wsX2_mostDemand (wsV RX2 137 RX1 yX1_greatestWorth wsX1_greatestWorth) := goodIn_app (goodIn_of _ (by decide +kernel)) ggX2_mostDemand_X1_greatestWorth
theorem dX2_mostDemand_0 : decode cX2_mostDemand 0 = .ok (.aload_n 0, 1) := by decide +kernel
theorem dX2_mostDemand_1 : decode cX2_mostDemand 1 = .ok (.getfield 21, 3) := by decide +kernel
theorem dX2_mostDemand_4 : decode cX2_mostDemand 4 = .ok (.aload_n 0, 1) := by decide +kernel
theorem dX2_mostDemand_5 : decode cX2_mostDemand 5 = .ok (.getfield 45, 3) := by decide +kernel
theorem dX2_mostDemand_8 : decode cX2_mostDemand 8 = .ok (.iconst 0, 1) := by decide +kernel
theorem dX2_mostDemand_9 : decode cX2_mostDemand 9 = .ok (.iconst 1, 1) := by decide +kernel
theorem dX2_mostDemand_10 : decode cX2_mostDemand 10 = .ok (.iconst 0, 1) := by decide +kernel
theorem dX2_mostDemand_11 : decode cX2_mostDemand 11 = .ok (.invokevirtual 137, 3) := by decide +kernel
theorem dX2_mostDemand_14 : decode cX2_mostDemand 14 = .ok (.ireturn, 1) := by decide +kernel
set_option maxRecDepth 20000 in
theorem ggX2_bestCell_X2_requireWalker : GoodIn wsX2_bestCell wsX2_requireWalker := goodIn_ca (goodIn_r _ [9, 10, 11, 12, 13, 88, 89, 90, 91, 92, 93, 94, 95, 96, 97, 98, 99, 100, 108, 109, 110, 111, 112, 113, 114, 115, 116, 117, 118, 119, 120] (by decide +kernel) (by decide +kernel)) (goodIn_sub (fun _ h => List.mem_cons_of_mem _ (List.mem_append_right _ h)) (by decide +kernel))
set_option maxRecDepth 20000 in
theorem gX2_bestCell_X2_requireWalker : GoodIn wsX2_bestCell (wsV RX2 92 RX2 yX2_requireWalker wsX2_requireWalker) := goodIn_app (goodIn_of _ (by decide +kernel)) ggX2_bestCell_X2_requireWalker
set_option maxRecDepth 20000 in
theorem ggX2_bestCell_X1_greatestWorth : GoodIn wsX2_bestCell wsX1_greatestWorth := goodIn_r _ [18, 19, 20, 21, 22, 23, 24, 25, 26, 27, 28, 29, 30, 31, 32, 33, 34, 35, 36, 37, 38, 39, 40, 41, 42, 43, 44, 45, 46, 47, 48, 49, 50, 51, 52, 53, 54, 55, 56, 57, 58, 59, 60, 61, 62, 63, 64, 65, 66, 67, 68, 69, 70, 71, 17, 72, 73, 74, 75, 76, 77, 78, 79, 80, 81, 82, 83, 84, 85, 86, 87, 101, 102, 103, 104, 105, 106, 107, 108, 109, 110, 111, 112, 113, 114, 115, 116, 117, 118, 119, 120] (by decide +kernel) (by decide +kernel)
set_option maxRecDepth 20000 in
theorem gX2_bestCell_X1_greatestWorth : GoodIn wsX2_bestCell (wsV RX2 137 RX1 yX1_greatestWorth wsX1_greatestWorth) := goodIn_app (goodIn_of _ (by decide +kernel)) ggX2_bestCell_X1_greatestWorth
theorem dX2_bestCell_0 : decode cX2_bestCell 0 = .ok (.aload_n 0, 1) := by decide +kernel
theorem dX2_bestCell_1 : decode cX2_bestCell 1 = .ok (.iload_n 1, 1) := by decide +kernel
theorem dX2_bestCell_2 : decode cX2_bestCell 2 = .ok (.invokevirtual 92, 3) := by decide +kernel
theorem dX2_bestCell_5 : decode cX2_bestCell 5 = .ok (.aload_n 0, 1) := by decide +kernel
theorem dX2_bestCell_6 : decode cX2_bestCell 6 = .ok (.getfield 21, 3) := by decide +kernel
theorem dX2_bestCell_9 : decode cX2_bestCell 9 = .ok (.aload_n 0, 1) := by decide +kernel
theorem dX2_bestCell_10 : decode cX2_bestCell 10 = .ok (.getfield 45, 3) := by decide +kernel
theorem dX2_bestCell_13 : decode cX2_bestCell 13 = .ok (.ldc 140, 2) := by decide +kernel
theorem dX2_bestCell_15 : decode cX2_bestCell 15 = .ok (.iconst 0, 1) := by decide +kernel
theorem dX2_bestCell_16 : decode cX2_bestCell 16 = .ok (.iconst 1, 1) := by decide +kernel
theorem dX2_bestCell_17 : decode cX2_bestCell 17 = .ok (.invokevirtual 137, 3) := by decide +kernel
theorem dX2_bestCell_20 : decode cX2_bestCell 20 = .ok (.pop, 1) := by decide +kernel
theorem dX2_bestCell_21 : decode cX2_bestCell 21 = .ok (.aload_n 0, 1) := by decide +kernel
theorem dX2_bestCell_22 : decode cX2_bestCell 22 = .ok (.getfield 21, 3) := by decide +kernel
theorem dX2_bestCell_25 : decode cX2_bestCell 25 = .ok (.getfield 141, 3) := by decide +kernel
theorem dX2_bestCell_28 : decode cX2_bestCell 28 = .ok (.iload_n 1, 1) := by decide +kernel
theorem dX2_bestCell_29 : decode cX2_bestCell 29 = .ok (.iaload, 1) := by decide +kernel
theorem dX2_bestCell_30 : decode cX2_bestCell 30 = .ok (.ireturn, 1) := by decide +kernel
theorem dX2_requireRange_0 : decode cX2_requireRange 0 = .ok (.lload_n 0, 1) := by decide +kernel
theorem dX2_requireRange_1 : decode cX2_requireRange 1 = .ok (.iload_n 2, 1) := by decide +kernel
theorem dX2_requireRange_2 : decode cX2_requireRange 2 = .ok (.i2l, 1) := by decide +kernel
theorem dX2_requireRange_3 : decode cX2_requireRange 3 = .ok (.lcmp, 1) := by decide +kernel
theorem dX2_requireRange_4 : decode cX2_requireRange 4 = .ok (.ifCond .lt 10, 3) := by decide +kernel
theorem dX2_requireRange_7 : decode cX2_requireRange 7 = .ok (.lload_n 0, 1) := by decide +kernel
theorem dX2_requireRange_8 : decode cX2_requireRange 8 = .ok (.iload_n 3, 1) := by decide +kernel
theorem dX2_requireRange_9 : decode cX2_requireRange 9 = .ok (.i2l, 1) := by decide +kernel
theorem dX2_requireRange_10 : decode cX2_requireRange 10 = .ok (.lcmp, 1) := by decide +kernel
theorem dX2_requireRange_11 : decode cX2_requireRange 11 = .ok (.ifCond .le 13, 3) := by decide +kernel
theorem dX2_requireRange_14 : decode cX2_requireRange 14 = .ok (.new 144, 3) := by decide +kernel
theorem dX2_requireRange_17 : decode cX2_requireRange 17 = .ok (.dup, 1) := by decide +kernel
theorem dX2_requireRange_18 : decode cX2_requireRange 18 = .ok (.ldc 146, 2) := by decide +kernel
theorem dX2_requireRange_20 : decode cX2_requireRange 20 = .ok (.invokespecial 148, 3) := by decide +kernel
theorem dX2_requireRange_23 : decode cX2_requireRange 23 = .ok (.athrow, 1) := by decide +kernel
theorem dX2_requireRange_24 : decode cX2_requireRange 24 = .ok (.return_, 1) := by decide +kernel
theorem dX2_requireCell_0 : decode cX2_requireCell 0 = .ok (.iload_n 1, 1) := by decide +kernel
theorem dX2_requireCell_1 : decode cX2_requireCell 1 = .ok (.ifCond .lt 14, 3) := by decide +kernel
theorem dX2_requireCell_4 : decode cX2_requireCell 4 = .ok (.iload_n 1, 1) := by decide +kernel
theorem dX2_requireCell_5 : decode cX2_requireCell 5 = .ok (.aload_n 0, 1) := by decide +kernel
theorem dX2_requireCell_6 : decode cX2_requireCell 6 = .ok (.getfield 10, 3) := by decide +kernel
theorem dX2_requireCell_9 : decode cX2_requireCell 9 = .ok (.getfield 52, 3) := by decide +kernel
theorem dX2_requireCell_12 : decode cX2_requireCell 12 = .ok (.if_icmp .lt 13, 3) := by decide +kernel
theorem dX2_requireCell_15 : decode cX2_requireCell 15 = .ok (.new 149, 3) := by decide +kernel
theorem dX2_requireCell_18 : decode cX2_requireCell 18 = .ok (.dup, 1) := by decide +kernel
theorem dX2_requireCell_19 : decode cX2_requireCell 19 = .ok (.ldc 151, 2) := by decide +kernel
theorem dX2_requireCell_21 : decode cX2_requireCell 21 = .ok (.invokespecial 153, 3) := by decide +kernel
theorem dX2_requireCell_24 : decode cX2_requireCell 24 = .ok (.athrow, 1) := by decide +kernel
theorem dX2_requireCell_25 : decode cX2_requireCell 25 = .ok (.return_, 1) := by decide +kernel
theorem dX2_requireWalker_0 : decode cX2_requireWalker 0 = .ok (.iload_n 1, 1) := by decide +kernel
theorem dX2_requireWalker_1 : decode cX2_requireWalker 1 = .ok (.ifCond .lt 14, 3) := by decide +kernel
theorem dX2_requireWalker_4 : decode cX2_requireWalker 4 = .ok (.iload_n 1, 1) := by decide +kernel
theorem dX2_requireWalker_5 : decode cX2_requireWalker 5 = .ok (.aload_n 0, 1) := by decide +kernel
theorem dX2_requireWalker_6 : decode cX2_requireWalker 6 = .ok (.getfield 10, 3) := by decide +kernel
theorem dX2_requireWalker_9 : decode cX2_requireWalker 9 = .ok (.getfield 80, 3) := by decide +kernel
theorem dX2_requireWalker_12 : decode cX2_requireWalker 12 = .ok (.if_icmp .lt 13, 3) := by decide +kernel
theorem dX2_requireWalker_15 : decode cX2_requireWalker 15 = .ok (.new 149, 3) := by decide +kernel
theorem dX2_requireWalker_18 : decode cX2_requireWalker 18 = .ok (.dup, 1) := by decide +kernel
theorem dX2_requireWalker_19 : decode cX2_requireWalker 19 = .ok (.ldc 154, 2) := by decide +kernel
theorem dX2_requireWalker_21 : decode cX2_requireWalker 21 = .ok (.invokespecial 153, 3) := by decide +kernel
theorem dX2_requireWalker_24 : decode cX2_requireWalker 24 = .ok (.athrow, 1) := by decide +kernel
theorem dX2_requireWalker_25 : decode cX2_requireWalker 25 = .ok (.return_, 1) := by decide +kernel
set_option maxRecDepth 20000 in
theorem ggX2_releaseWalkers_X2_dropFavourite : GoodIn wsX2_releaseWalkers wsX2_dropFavourite := goodIn_r _ [8, 9, 10, 11, 12, 13, 14, 15, 16, 17, 18, 19, 20, 21, 22, 23] (by decide +kernel) (by decide +kernel)
set_option maxRecDepth 20000 in
theorem gX2_releaseWalkers_X2_dropFavourite : GoodIn wsX2_releaseWalkers (wsV RX2 89 RX2 yX2_dropFavourite wsX2_dropFavourite) := goodIn_app (goodIn_of _ (by decide +kernel)) ggX2_releaseWalkers_X2_dropFavourite
theorem dX2_releaseWalkers_0 : decode cX2_releaseWalkers 0 = .ok (.iconst 0, 1) := by decide +kernel
theorem dX2_releaseWalkers_1 : decode cX2_releaseWalkers 1 = .ok (.istore_n 2, 1) := by decide +kernel
theorem dX2_releaseWalkers_2 : decode cX2_releaseWalkers 2 = .ok (.iload_n 2, 1) := by decide +kernel
theorem dX2_releaseWalkers_3 : decode cX2_releaseWalkers 3 = .ok (.aload_n 0, 1) := by decide +kernel
theorem dX2_releaseWalkers_4 : decode cX2_releaseWalkers 4 = .ok (.getfield 10, 3) := by decide +kernel
theorem dX2_releaseWalkers_7 : decode cX2_releaseWalkers 7 = .ok (.getfield 80, 3) := by decide +kernel
theorem dX2_releaseWalkers_10 : decode cX2_releaseWalkers 10 = .ok (.if_icmp .ge 37, 3) := by decide +kernel
theorem dX2_releaseWalkers_13 : decode cX2_releaseWalkers 13 = .ok (.aload_n 0, 1) := by decide +kernel
theorem dX2_releaseWalkers_14 : decode cX2_releaseWalkers 14 = .ok (.getfield 10, 3) := by decide +kernel
theorem dX2_releaseWalkers_17 : decode cX2_releaseWalkers 17 = .ok (.getfield 128, 3) := by decide +kernel
theorem dX2_releaseWalkers_20 : decode cX2_releaseWalkers 20 = .ok (.iload_n 2, 1) := by decide +kernel
theorem dX2_releaseWalkers_21 : decode cX2_releaseWalkers 21 = .ok (.iaload, 1) := by decide +kernel
theorem dX2_releaseWalkers_22 : decode cX2_releaseWalkers 22 = .ok (.iload_n 1, 1) := by decide +kernel
theorem dX2_releaseWalkers_23 : decode cX2_releaseWalkers 23 = .ok (.if_icmp .ne 18, 3) := by decide +kernel
theorem dX2_releaseWalkers_26 : decode cX2_releaseWalkers 26 = .ok (.aload_n 0, 1) := by decide +kernel
theorem dX2_releaseWalkers_27 : decode cX2_releaseWalkers 27 = .ok (.getfield 10, 3) := by decide +kernel
theorem dX2_releaseWalkers_30 : decode cX2_releaseWalkers 30 = .ok (.getfield 128, 3) := by decide +kernel
theorem dX2_releaseWalkers_33 : decode cX2_releaseWalkers 33 = .ok (.iload_n 2, 1) := by decide +kernel
theorem dX2_releaseWalkers_34 : decode cX2_releaseWalkers 34 = .ok (.iconst (-1), 1) := by decide +kernel
theorem dX2_releaseWalkers_35 : decode cX2_releaseWalkers 35 = .ok (.iastore, 1) := by decide +kernel
theorem dX2_releaseWalkers_36 : decode cX2_releaseWalkers 36 = .ok (.aload_n 0, 1) := by decide +kernel
theorem dX2_releaseWalkers_37 : decode cX2_releaseWalkers 37 = .ok (.iload_n 2, 1) := by decide +kernel
theorem dX2_releaseWalkers_38 : decode cX2_releaseWalkers 38 = .ok (.invokevirtual 89, 3) := by decide +kernel
theorem dX2_releaseWalkers_41 : decode cX2_releaseWalkers 41 = .ok (.iinc 2 1, 3) := by decide +kernel
theorem dX2_releaseWalkers_44 : decode cX2_releaseWalkers 44 = .ok (.goto (-42), 3) := by decide +kernel
theorem dX2_releaseWalkers_47 : decode cX2_releaseWalkers 47 = .ok (.return_, 1) := by decide +kernel
theorem dX2_dropFavourite_0 : decode cX2_dropFavourite 0 = .ok (.aload_n 0, 1) := by decide +kernel
theorem dX2_dropFavourite_1 : decode cX2_dropFavourite 1 = .ok (.getfield 25, 3) := by decide +kernel
theorem dX2_dropFavourite_4 : decode cX2_dropFavourite 4 = .ok (.iload_n 1, 1) := by decide +kernel
theorem dX2_dropFavourite_5 : decode cX2_dropFavourite 5 = .ok (.iconst (-1), 1) := by decide +kernel
theorem dX2_dropFavourite_6 : decode cX2_dropFavourite 6 = .ok (.iastore, 1) := by decide +kernel
theorem dX2_dropFavourite_7 : decode cX2_dropFavourite 7 = .ok (.aload_n 0, 1) := by decide +kernel
theorem dX2_dropFavourite_8 : decode cX2_dropFavourite 8 = .ok (.getfield 29, 3) := by decide +kernel
theorem dX2_dropFavourite_11 : decode cX2_dropFavourite 11 = .ok (.iload_n 1, 1) := by decide +kernel
theorem dX2_dropFavourite_12 : decode cX2_dropFavourite 12 = .ok (.iconst 0, 1) := by decide +kernel
theorem dX2_dropFavourite_13 : decode cX2_dropFavourite 13 = .ok (.iastore, 1) := by decide +kernel
theorem dX2_dropFavourite_14 : decode cX2_dropFavourite 14 = .ok (.return_, 1) := by decide +kernel
set_option maxRecDepth 20000 in
theorem ggX2_passTick_X0_measure : GoodIn wsX2_passTick wsX0_measure := goodIn_r _ [11, 12, 13, 14, 15, 16, 17, 18, 10, 19, 20, 21, 22, 23, 24, 25, 26, 27, 28, 29, 30, 31, 32, 33, 34, 35, 36, 37, 38, 39, 40, 41, 42, 43, 44, 96, 97, 98, 99, 100, 101, 102, 103, 104, 105, 106, 107, 108] (by decide +kernel) (by decide +kernel)
set_option maxRecDepth 20000 in
theorem gX2_passTick_X0_measure : GoodIn wsX2_passTick (wsV RX2 114 RX0 yX0_measure wsX0_measure) := goodIn_app (goodIn_of _ (by decide +kernel)) ggX2_passTick_X0_measure
set_option maxRecDepth 20000 in
theorem ggX2_passTick_X2_seekCell : GoodIn wsX2_passTick wsX2_seekCell := goodIn_r _ [49, 2, 5, 6, 4, 50, 51, 52, 10, 53, 12, 15, 54, 55, 56, 57, 43, 25, 26, 20, 21, 22, 23, 24, 14, 83, 84, 85, 86, 87, 88, 89, 90, 91, 92, 93, 94, 95, 96, 97, 98, 99, 100, 101, 102, 103, 104, 105, 106, 107, 108] (by decide +kernel) (by decide +kernel)
set_option maxRecDepth 20000 in
theorem gX2_passTick_X2_seekCell : GoodIn wsX2_passTick (wsV RX2 156 RX2 yX2_seekCell wsX2_seekCell) := goodIn_app (goodIn_of _ (by decide +kernel)) ggX2_passTick_X2_seekCell
set_option maxRecDepth 20000 in
theorem ggX2_passTick_X2_loseCell : GoodIn wsX2_passTick wsX2_loseCell := goodIn_r _ [61, 62, 2, 4, 63, 64, 65, 66, 48, 67, 68, 69, 83, 84, 85, 86, 87, 88, 89, 90, 91, 92, 93, 94, 95, 96, 97, 98, 99, 100, 101, 102, 103, 104, 105, 106, 107, 108] (by decide +kernel) (by decide +kernel)
set_option maxRecDepth 20000 in
theorem gX2_passTick_X2_loseCell : GoodIn wsX2_passTick (wsV RX2 159 RX2 yX2_loseCell wsX2_loseCell) := goodIn_app (goodIn_of _ (by decide +kernel)) ggX2_passTick_X2_loseCell
set_option maxRecDepth 20000 in
theorem ggX2_passTick_X2_weighFavourite : GoodIn wsX2_passTick wsX2_weighFavourite := goodIn_r _ [73, 2, 5, 74, 69, 68, 75, 50, 51, 52, 10, 53, 12, 15, 54, 55, 56, 57, 43, 25, 26, 20, 21, 22, 23, 24, 14, 64, 65, 66, 48, 67, 76, 77, 78, 79, 80, 63, 1, 81, 82, 4, 83, 84, 85, 86, 87, 88, 89, 90, 91, 92, 93, 94, 95, 96, 97, 98, 99, 100, 101, 102, 103, 104, 105, 106, 107, 108] (by decide +kernel) (by decide +kernel)
set_option maxRecDepth 20000 in
theorem gX2_passTick_X2_weighFavourite : GoodIn wsX2_passTick (wsV RX2 162 RX2 yX2_weighFavourite wsX2_weighFavourite) := goodIn_app (goodIn_of _ (by decide +kernel)) ggX2_passTick_X2_weighFavourite
theorem dX2_passTick_0 : decode cX2_passTick 0 = .ok (.aload_n 0, 1) := by decide +kernel
theorem dX2_passTick_1 : decode cX2_passTick 1 = .ok (.dup, 1) := by decide +kernel
theorem dX2_passTick_2 : decode cX2_passTick 2 = .ok (.getfield 107, 3) := by decide +kernel
theorem dX2_passTick_5 : decode cX2_passTick 5 = .ok (.iconst 1, 1) := by decide +kernel
theorem dX2_passTick_6 : decode cX2_passTick 6 = .ok (.iadd, 1) := by decide +kernel
theorem dX2_passTick_7 : decode cX2_passTick 7 = .ok (.putfield 107, 3) := by decide +kernel
theorem dX2_passTick_10 : decode cX2_passTick 10 = .ok (.aload_n 0, 1) := by decide +kernel
theorem dX2_passTick_11 : decode cX2_passTick 11 = .ok (.getfield 10, 3) := by decide +kernel
theorem dX2_passTick_14 : decode cX2_passTick 14 = .ok (.invokevirtual 114, 3) := by decide +kernel
theorem dX2_passTick_17 : decode cX2_passTick 17 = .ok (.iconst 0, 1) := by decide +kernel
theorem dX2_passTick_18 : decode cX2_passTick 18 = .ok (.istore_n 1, 1) := by decide +kernel
theorem dX2_passTick_19 : decode cX2_passTick 19 = .ok (.iload_n 1, 1) := by decide +kernel
theorem dX2_passTick_20 : decode cX2_passTick 20 = .ok (.aload_n 0, 1) := by decide +kernel
theorem dX2_passTick_21 : decode cX2_passTick 21 = .ok (.getfield 10, 3) := by decide +kernel
theorem dX2_passTick_24 : decode cX2_passTick 24 = .ok (.getfield 80, 3) := by decide +kernel
theorem dX2_passTick_27 : decode cX2_passTick 27 = .ok (.if_icmp .ge 64, 3) := by decide +kernel
theorem dX2_passTick_30 : decode cX2_passTick 30 = .ok (.aload_n 0, 1) := by decide +kernel
theorem dX2_passTick_31 : decode cX2_passTick 31 = .ok (.getfield 10, 3) := by decide +kernel
theorem dX2_passTick_34 : decode cX2_passTick 34 = .ok (.getfield 128, 3) := by decide +kernel
theorem dX2_passTick_37 : decode cX2_passTick 37 = .ok (.iload_n 1, 1) := by decide +kernel
theorem dX2_passTick_38 : decode cX2_passTick 38 = .ok (.iaload, 1) := by decide +kernel
theorem dX2_passTick_39 : decode cX2_passTick 39 = .ok (.istore_n 2, 1) := by decide +kernel
theorem dX2_passTick_40 : decode cX2_passTick 40 = .ok (.iload_n 2, 1) := by decide +kernel
theorem dX2_passTick_41 : decode cX2_passTick 41 = .ok (.iconst (-1), 1) := by decide +kernel
theorem dX2_passTick_42 : decode cX2_passTick 42 = .ok (.if_icmp .ne 11, 3) := by decide +kernel
theorem dX2_passTick_45 : decode cX2_passTick 45 = .ok (.aload_n 0, 1) := by decide +kernel
theorem dX2_passTick_46 : decode cX2_passTick 46 = .ok (.iload_n 1, 1) := by decide +kernel
theorem dX2_passTick_47 : decode cX2_passTick 47 = .ok (.invokevirtual 156, 3) := by decide +kernel
theorem dX2_passTick_50 : decode cX2_passTick 50 = .ok (.goto 35, 3) := by decide +kernel
theorem dX2_passTick_53 : decode cX2_passTick 53 = .ok (.aload_n 0, 1) := by decide +kernel
theorem dX2_passTick_54 : decode cX2_passTick 54 = .ok (.getfield 10, 3) := by decide +kernel
theorem dX2_passTick_57 : decode cX2_passTick 57 = .ok (.getfield 117, 3) := by decide +kernel
theorem dX2_passTick_60 : decode cX2_passTick 60 = .ok (.iload_n 1, 1) := by decide +kernel
theorem dX2_passTick_61 : decode cX2_passTick 61 = .ok (.aaload, 1) := by decide +kernel
theorem dX2_passTick_62 : decode cX2_passTick 62 = .ok (.iload_n 2, 1) := by decide +kernel
theorem dX2_passTick_63 : decode cX2_passTick 63 = .ok (.iaload, 1) := by decide +kernel
theorem dX2_passTick_64 : decode cX2_passTick 64 = .ok (.aload_n 0, 1) := by decide +kernel
theorem dX2_passTick_65 : decode cX2_passTick 65 = .ok (.getfield 45, 3) := by decide +kernel
theorem dX2_passTick_68 : decode cX2_passTick 68 = .ok (.if_icmp .ge 11, 3) := by decide +kernel
theorem dX2_passTick_71 : decode cX2_passTick 71 = .ok (.aload_n 0, 1) := by decide +kernel
theorem dX2_passTick_72 : decode cX2_passTick 72 = .ok (.iload_n 1, 1) := by decide +kernel
theorem dX2_passTick_73 : decode cX2_passTick 73 = .ok (.invokevirtual 159, 3) := by decide +kernel
theorem dX2_passTick_76 : decode cX2_passTick 76 = .ok (.goto 9, 3) := by decide +kernel
theorem dX2_passTick_79 : decode cX2_passTick 79 = .ok (.aload_n 0, 1) := by decide +kernel
theorem dX2_passTick_80 : decode cX2_passTick 80 = .ok (.iload_n 1, 1) := by decide +kernel
theorem dX2_passTick_81 : decode cX2_passTick 81 = .ok (.iload_n 2, 1) := by decide +kernel
theorem dX2_passTick_82 : decode cX2_passTick 82 = .ok (.invokevirtual 162, 3) := by decide +kernel
theorem dX2_passTick_85 : decode cX2_passTick 85 = .ok (.iinc 1 1, 3) := by decide +kernel
theorem dX2_passTick_88 : decode cX2_passTick 88 = .ok (.goto (-69), 3) := by decide +kernel
theorem dX2_passTick_91 : decode cX2_passTick 91 = .ok (.return_, 1) := by decide +kernel
set_option maxRecDepth 20000 in
theorem ggX2_seekCell_X0_bestOther : GoodIn wsX2_seekCell wsX0_bestOther := goodIn_r _ [9, 10, 11, 12, 13, 14, 8, 15, 16, 17, 18, 19, 20, 21, 22, 23, 24, 38, 39, 40, 41, 42, 43, 44, 45, 46, 47, 48, 49, 50] (by decide +kernel) (by decide +kernel)
set_option maxRecDepth 20000 in
theorem gX2_seekCell_X0_bestOther : GoodIn wsX2_seekCell (wsV RX2 166 RX0 yX0_bestOther wsX0_bestOther) := goodIn_app (goodIn_of _ (by decide +kernel)) ggX2_seekCell_X0_bestOther
theorem dX2_seekCell_0 : decode cX2_seekCell 0 = .ok (.aload_n 0, 1) := by decide +kernel
theorem dX2_seekCell_1 : decode cX2_seekCell 1 = .ok (.getfield 10, 3) := by decide +kernel
theorem dX2_seekCell_4 : decode cX2_seekCell 4 = .ok (.iload_n 1, 1) := by decide +kernel
theorem dX2_seekCell_5 : decode cX2_seekCell 5 = .ok (.invokevirtual 166, 3) := by decide +kernel
theorem dX2_seekCell_8 : decode cX2_seekCell 8 = .ok (.istore_n 2, 1) := by decide +kernel
theorem dX2_seekCell_9 : decode cX2_seekCell 9 = .ok (.iload_n 2, 1) := by decide +kernel
theorem dX2_seekCell_10 : decode cX2_seekCell 10 = .ok (.iconst (-1), 1) := by decide +kernel
theorem dX2_seekCell_11 : decode cX2_seekCell 11 = .ok (.if_icmp .eq 31, 3) := by decide +kernel
theorem dX2_seekCell_14 : decode cX2_seekCell 14 = .ok (.aload_n 0, 1) := by decide +kernel
theorem dX2_seekCell_15 : decode cX2_seekCell 15 = .ok (.getfield 10, 3) := by decide +kernel
theorem dX2_seekCell_18 : decode cX2_seekCell 18 = .ok (.getfield 117, 3) := by decide +kernel
theorem dX2_seekCell_21 : decode cX2_seekCell 21 = .ok (.iload_n 1, 1) := by decide +kernel
theorem dX2_seekCell_22 : decode cX2_seekCell 22 = .ok (.aaload, 1) := by decide +kernel
theorem dX2_seekCell_23 : decode cX2_seekCell 23 = .ok (.iload_n 2, 1) := by decide +kernel
theorem dX2_seekCell_24 : decode cX2_seekCell 24 = .ok (.iaload, 1) := by decide +kernel
theorem dX2_seekCell_25 : decode cX2_seekCell 25 = .ok (.aload_n 0, 1) := by decide +kernel
theorem dX2_seekCell_26 : decode cX2_seekCell 26 = .ok (.getfield 45, 3) := by decide +kernel
theorem dX2_seekCell_29 : decode cX2_seekCell 29 = .ok (.if_icmp .lt 13, 3) := by decide +kernel
theorem dX2_seekCell_32 : decode cX2_seekCell 32 = .ok (.aload_n 0, 1) := by decide +kernel
theorem dX2_seekCell_33 : decode cX2_seekCell 33 = .ok (.getfield 10, 3) := by decide +kernel
theorem dX2_seekCell_36 : decode cX2_seekCell 36 = .ok (.getfield 128, 3) := by decide +kernel
theorem dX2_seekCell_39 : decode cX2_seekCell 39 = .ok (.iload_n 1, 1) := by decide +kernel
theorem dX2_seekCell_40 : decode cX2_seekCell 40 = .ok (.iload_n 2, 1) := by decide +kernel
theorem dX2_seekCell_41 : decode cX2_seekCell 41 = .ok (.iastore, 1) := by decide +kernel
theorem dX2_seekCell_42 : decode cX2_seekCell 42 = .ok (.return_, 1) := by decide +kernel
set_option maxRecDepth 20000 in
theorem ggX2_loseCell_X2_dropFavourite : GoodIn wsX2_loseCell wsX2_dropFavourite := goodIn_r _ [9, 10, 11, 12, 13, 14, 15, 16, 17, 18, 19, 20, 21, 22, 23, 24] (by decide +kernel) (by decide +kernel)
set_option maxRecDepth 20000 in
theorem gX2_loseCell_X2_dropFavourite : GoodIn wsX2_loseCell (wsV RX2 89 RX2 yX2_dropFavourite wsX2_dropFavourite) := goodIn_app (goodIn_of _ (by decide +kernel)) ggX2_loseCell_X2_dropFavourite
theorem dX2_loseCell_0 : decode cX2_loseCell 0 = .ok (.aload_n 0, 1) := by decide +kernel
theorem dX2_loseCell_1 : decode cX2_loseCell 1 = .ok (.dup, 1) := by decide +kernel
theorem dX2_loseCell_2 : decode cX2_loseCell 2 = .ok (.getfield 134, 3) := by decide +kernel
theorem dX2_loseCell_5 : decode cX2_loseCell 5 = .ok (.iconst 1, 1) := by decide +kernel
theorem dX2_loseCell_6 : decode cX2_loseCell 6 = .ok (.iadd, 1) := by decide +kernel
theorem dX2_loseCell_7 : decode cX2_loseCell 7 = .ok (.putfield 134, 3) := by decide +kernel
theorem dX2_loseCell_10 : decode cX2_loseCell 10 = .ok (.aload_n 0, 1) := by decide +kernel
theorem dX2_loseCell_11 : decode cX2_loseCell 11 = .ok (.getfield 10, 3) := by decide +kernel
theorem dX2_loseCell_14 : decode cX2_loseCell 14 = .ok (.getfield 128, 3) := by decide +kernel
theorem dX2_loseCell_17 : decode cX2_loseCell 17 = .ok (.iload_n 1, 1) := by decide +kernel
theorem dX2_loseCell_18 : decode cX2_loseCell 18 = .ok (.iconst (-1), 1) := by decide +kernel
theorem dX2_loseCell_19 : decode cX2_loseCell 19 = .ok (.iastore, 1) := by decide +kernel
theorem dX2_loseCell_20 : decode cX2_loseCell 20 = .ok (.aload_n 0, 1) := by decide +kernel
theorem dX2_loseCell_21 : decode cX2_loseCell 21 = .ok (.iload_n 1, 1) := by decide +kernel
theorem dX2_loseCell_22 : decode cX2_loseCell 22 = .ok (.invokevirtual 89, 3) := by decide +kernel
theorem dX2_loseCell_25 : decode cX2_loseCell 25 = .ok (.aload_n 0, 1) := by decide +kernel
theorem dX2_loseCell_26 : decode cX2_loseCell 26 = .ok (.getfield 32, 3) := by decide +kernel
theorem dX2_loseCell_29 : decode cX2_loseCell 29 = .ok (.iload_n 1, 1) := by decide +kernel
theorem dX2_loseCell_30 : decode cX2_loseCell 30 = .ok (.iconst (-1), 1) := by decide +kernel
theorem dX2_loseCell_31 : decode cX2_loseCell 31 = .ok (.iastore, 1) := by decide +kernel
theorem dX2_loseCell_32 : decode cX2_loseCell 32 = .ok (.return_, 1) := by decide +kernel
set_option maxRecDepth 20000 in
theorem ggX2_weighFavourite_X0_bestOther : GoodIn wsX2_weighFavourite wsX0_bestOther := goodIn_r _ [11, 12, 13, 14, 15, 16, 10, 17, 18, 19, 20, 21, 22, 23, 24, 25, 26, 55, 56, 57, 58, 59, 60, 61, 62, 63, 64, 65, 66, 67] (by decide +kernel) (by decide +kernel)
set_option maxRecDepth 20000 in
theorem gX2_weighFavourite_X0_bestOther : GoodIn wsX2_weighFavourite (wsV RX2 166 RX0 yX0_bestOther wsX0_bestOther) := goodIn_app (goodIn_of _ (by decide +kernel)) ggX2_weighFavourite_X0_bestOther
set_option maxRecDepth 20000 in
theorem ggX2_weighFavourite_X2_dropFavourite : GoodIn wsX2_weighFavourite wsX2_dropFavourite := goodIn_r _ [31, 5, 4, 42, 43, 44, 45, 46, 47, 48, 49, 50, 51, 52, 53, 54] (by decide +kernel) (by decide +kernel)
set_option maxRecDepth 20000 in
theorem gX2_weighFavourite_X2_dropFavourite : GoodIn wsX2_weighFavourite (wsV RX2 89 RX2 yX2_dropFavourite wsX2_dropFavourite) := goodIn_app (goodIn_of _ (by decide +kernel)) ggX2_weighFavourite_X2_dropFavourite
set_option maxRecDepth 20000 in
theorem ggX2_weighFavourite_X2_handOver : GoodIn wsX2_weighFavourite wsX2_handOver := goodIn_r _ [35, 36, 37, 38, 39, 40, 1, 41, 27, 28, 29, 30, 31, 5, 4, 42, 43, 44, 45, 46, 47, 48, 49, 50, 51, 52, 53, 54, 55, 56, 57, 58, 59, 60, 61, 62, 63, 64, 65, 66, 67] (by decide +kernel) (by decide +kernel)
set_option maxRecDepth 20000 in
theorem gX2_weighFavourite_X2_handOver : GoodIn wsX2_weighFavourite (wsV RX2 169 RX2 yX2_handOver wsX2_handOver) := goodIn_app (goodIn_of _ (by decide +kernel)) ggX2_weighFavourite_X2_handOver
theorem dX2_weighFavourite_0 : decode cX2_weighFavourite 0 = .ok (.aload_n 0, 1) := by decide +kernel
theorem dX2_weighFavourite_1 : decode cX2_weighFavourite 1 = .ok (.getfield 10, 3) := by decide +kernel
theorem dX2_weighFavourite_4 : decode cX2_weighFavourite 4 = .ok (.iload_n 1, 1) := by decide +kernel
theorem dX2_weighFavourite_5 : decode cX2_weighFavourite 5 = .ok (.invokevirtual 166, 3) := by decide +kernel
theorem dX2_weighFavourite_8 : decode cX2_weighFavourite 8 = .ok (.istore_n 3, 1) := by decide +kernel
theorem dX2_weighFavourite_9 : decode cX2_weighFavourite 9 = .ok (.iload_n 3, 1) := by decide +kernel
theorem dX2_weighFavourite_10 : decode cX2_weighFavourite 10 = .ok (.iconst (-1), 1) := by decide +kernel
theorem dX2_weighFavourite_11 : decode cX2_weighFavourite 11 = .ok (.if_icmp .eq 33, 3) := by decide +kernel
theorem dX2_weighFavourite_14 : decode cX2_weighFavourite 14 = .ok (.aload_n 0, 1) := by decide +kernel
theorem dX2_weighFavourite_15 : decode cX2_weighFavourite 15 = .ok (.getfield 10, 3) := by decide +kernel
theorem dX2_weighFavourite_18 : decode cX2_weighFavourite 18 = .ok (.getfield 117, 3) := by decide +kernel
theorem dX2_weighFavourite_21 : decode cX2_weighFavourite 21 = .ok (.iload_n 1, 1) := by decide +kernel
theorem dX2_weighFavourite_22 : decode cX2_weighFavourite 22 = .ok (.aaload, 1) := by decide +kernel
theorem dX2_weighFavourite_23 : decode cX2_weighFavourite 23 = .ok (.iload_n 3, 1) := by decide +kernel
theorem dX2_weighFavourite_24 : decode cX2_weighFavourite 24 = .ok (.iaload, 1) := by decide +kernel
theorem dX2_weighFavourite_25 : decode cX2_weighFavourite 25 = .ok (.aload_n 0, 1) := by decide +kernel
theorem dX2_weighFavourite_26 : decode cX2_weighFavourite 26 = .ok (.getfield 10, 3) := by decide +kernel
theorem dX2_weighFavourite_29 : decode cX2_weighFavourite 29 = .ok (.getfield 117, 3) := by decide +kernel
theorem dX2_weighFavourite_32 : decode cX2_weighFavourite 32 = .ok (.iload_n 1, 1) := by decide +kernel
theorem dX2_weighFavourite_33 : decode cX2_weighFavourite 33 = .ok (.aaload, 1) := by decide +kernel
theorem dX2_weighFavourite_34 : decode cX2_weighFavourite 34 = .ok (.iload_n 2, 1) := by decide +kernel
theorem dX2_weighFavourite_35 : decode cX2_weighFavourite 35 = .ok (.iaload, 1) := by decide +kernel
theorem dX2_weighFavourite_36 : decode cX2_weighFavourite 36 = .ok (.aload_n 0, 1) := by decide +kernel
theorem dX2_weighFavourite_37 : decode cX2_weighFavourite 37 = .ok (.getfield 38, 3) := by decide +kernel
theorem dX2_weighFavourite_40 : decode cX2_weighFavourite 40 = .ok (.iadd, 1) := by decide +kernel
theorem dX2_weighFavourite_41 : decode cX2_weighFavourite 41 = .ok (.if_icmp .ge 9, 3) := by decide +kernel
theorem dX2_weighFavourite_44 : decode cX2_weighFavourite 44 = .ok (.aload_n 0, 1) := by decide +kernel
theorem dX2_weighFavourite_45 : decode cX2_weighFavourite 45 = .ok (.iload_n 1, 1) := by decide +kernel
theorem dX2_weighFavourite_46 : decode cX2_weighFavourite 46 = .ok (.invokevirtual 89, 3) := by decide +kernel
theorem dX2_weighFavourite_49 : decode cX2_weighFavourite 49 = .ok (.return_, 1) := by decide +kernel
theorem dX2_weighFavourite_50 : decode cX2_weighFavourite 50 = .ok (.aload_n 0, 1) := by decide +kernel
theorem dX2_weighFavourite_51 : decode cX2_weighFavourite 51 = .ok (.getfield 29, 3) := by decide +kernel
theorem dX2_weighFavourite_54 : decode cX2_weighFavourite 54 = .ok (.iload_n 1, 1) := by decide +kernel
theorem dX2_weighFavourite_55 : decode cX2_weighFavourite 55 = .ok (.iload_n 3, 1) := by decide +kernel
theorem dX2_weighFavourite_56 : decode cX2_weighFavourite 56 = .ok (.aload_n 0, 1) := by decide +kernel
theorem dX2_weighFavourite_57 : decode cX2_weighFavourite 57 = .ok (.getfield 25, 3) := by decide +kernel
theorem dX2_weighFavourite_60 : decode cX2_weighFavourite 60 = .ok (.iload_n 1, 1) := by decide +kernel
theorem dX2_weighFavourite_61 : decode cX2_weighFavourite 61 = .ok (.iaload, 1) := by decide +kernel
theorem dX2_weighFavourite_62 : decode cX2_weighFavourite 62 = .ok (.if_icmp .ne 14, 3) := by decide +kernel
theorem dX2_weighFavourite_65 : decode cX2_weighFavourite 65 = .ok (.aload_n 0, 1) := by decide +kernel
theorem dX2_weighFavourite_66 : decode cX2_weighFavourite 66 = .ok (.getfield 29, 3) := by decide +kernel
theorem dX2_weighFavourite_69 : decode cX2_weighFavourite 69 = .ok (.iload_n 1, 1) := by decide +kernel
theorem dX2_weighFavourite_70 : decode cX2_weighFavourite 70 = .ok (.iaload, 1) := by decide +kernel
theorem dX2_weighFavourite_71 : decode cX2_weighFavourite 71 = .ok (.iconst 1, 1) := by decide +kernel
theorem dX2_weighFavourite_72 : decode cX2_weighFavourite 72 = .ok (.iadd, 1) := by decide +kernel
theorem dX2_weighFavourite_73 : decode cX2_weighFavourite 73 = .ok (.goto 4, 3) := by decide +kernel
theorem dX2_weighFavourite_76 : decode cX2_weighFavourite 76 = .ok (.iconst 1, 1) := by decide +kernel
theorem dX2_weighFavourite_77 : decode cX2_weighFavourite 77 = .ok (.iastore, 1) := by decide +kernel
theorem dX2_weighFavourite_78 : decode cX2_weighFavourite 78 = .ok (.aload_n 0, 1) := by decide +kernel
theorem dX2_weighFavourite_79 : decode cX2_weighFavourite 79 = .ok (.getfield 25, 3) := by decide +kernel
theorem dX2_weighFavourite_82 : decode cX2_weighFavourite 82 = .ok (.iload_n 1, 1) := by decide +kernel
theorem dX2_weighFavourite_83 : decode cX2_weighFavourite 83 = .ok (.iload_n 3, 1) := by decide +kernel
theorem dX2_weighFavourite_84 : decode cX2_weighFavourite 84 = .ok (.iastore, 1) := by decide +kernel
theorem dX2_weighFavourite_85 : decode cX2_weighFavourite 85 = .ok (.aload_n 0, 1) := by decide +kernel
theorem dX2_weighFavourite_86 : decode cX2_weighFavourite 86 = .ok (.getfield 29, 3) := by decide +kernel
theorem dX2_weighFavourite_89 : decode cX2_weighFavourite 89 = .ok (.iload_n 1, 1) := by decide +kernel
theorem dX2_weighFavourite_90 : decode cX2_weighFavourite 90 = .ok (.iaload, 1) := by decide +kernel
theorem dX2_weighFavourite_91 : decode cX2_weighFavourite 91 = .ok (.aload_n 0, 1) := by decide +kernel
theorem dX2_weighFavourite_92 : decode cX2_weighFavourite 92 = .ok (.getfield 42, 3) := by decide +kernel
theorem dX2_weighFavourite_95 : decode cX2_weighFavourite 95 = .ok (.if_icmp .lt 10, 3) := by decide +kernel
theorem dX2_weighFavourite_98 : decode cX2_weighFavourite 98 = .ok (.aload_n 0, 1) := by decide +kernel
theorem dX2_weighFavourite_99 : decode cX2_weighFavourite 99 = .ok (.iload_n 1, 1) := by decide +kernel
theorem dX2_weighFavourite_100 : decode cX2_weighFavourite 100 = .ok (.iload_n 2, 1) := by decide +kernel
theorem dX2_weighFavourite_101 : decode cX2_weighFavourite 101 = .ok (.iload_n 3, 1) := by decide +kernel
theorem dX2_weighFavourite_102 : decode cX2_weighFavourite 102 = .ok (.invokevirtual 169, 3) := by decide +kernel
theorem dX2_weighFavourite_105 : decode cX2_weighFavourite 105 = .ok (.return_, 1) := by decide +kernel
set_option maxRecDepth 20000 in
theorem ggX2_handOver_X2_dropFavourite : GoodIn wsX2_handOver wsX2_dropFavourite := goodIn_r _ [12, 13, 14, 15, 16, 17, 18, 19, 20, 21, 22, 23, 24, 25, 26, 27] (by decide +kernel) (by decide +kernel)
set_option maxRecDepth 20000 in
theorem gX2_handOver_X2_dropFavourite : GoodIn wsX2_handOver (wsV RX2 89 RX2 yX2_dropFavourite wsX2_dropFavourite) := goodIn_app (goodIn_of _ (by decide +kernel)) ggX2_handOver_X2_dropFavourite
theorem dX2_handOver_0 : decode cX2_handOver 0 = .ok (.aload_n 0, 1) := by decide +kernel
theorem dX2_handOver_1 : decode cX2_handOver 1 = .ok (.dup, 1) := by decide +kernel
theorem dX2_handOver_2 : decode cX2_handOver 2 = .ok (.getfield 101, 3) := by decide +kernel
theorem dX2_handOver_5 : decode cX2_handOver 5 = .ok (.iconst 1, 1) := by decide +kernel
theorem dX2_handOver_6 : decode cX2_handOver 6 = .ok (.iadd, 1) := by decide +kernel
theorem dX2_handOver_7 : decode cX2_handOver 7 = .ok (.putfield 101, 3) := by decide +kernel
theorem dX2_handOver_10 : decode cX2_handOver 10 = .ok (.iload_n 3, 1) := by decide +kernel
theorem dX2_handOver_11 : decode cX2_handOver 11 = .ok (.aload_n 0, 1) := by decide +kernel
theorem dX2_handOver_12 : decode cX2_handOver 12 = .ok (.getfield 32, 3) := by decide +kernel
theorem dX2_handOver_15 : decode cX2_handOver 15 = .ok (.iload_n 1, 1) := by decide +kernel
theorem dX2_handOver_16 : decode cX2_handOver 16 = .ok (.iaload, 1) := by decide +kernel
theorem dX2_handOver_17 : decode cX2_handOver 17 = .ok (.if_icmp .ne 28, 3) := by decide +kernel
theorem dX2_handOver_20 : decode cX2_handOver 20 = .ok (.aload_n 0, 1) := by decide +kernel
theorem dX2_handOver_21 : decode cX2_handOver 21 = .ok (.getfield 107, 3) := by decide +kernel
theorem dX2_handOver_24 : decode cX2_handOver 24 = .ok (.aload_n 0, 1) := by decide +kernel
theorem dX2_handOver_25 : decode cX2_handOver 25 = .ok (.getfield 35, 3) := by decide +kernel
theorem dX2_handOver_28 : decode cX2_handOver 28 = .ok (.iload_n 1, 1) := by decide +kernel
theorem dX2_handOver_29 : decode cX2_handOver 29 = .ok (.iaload, 1) := by decide +kernel
theorem dX2_handOver_30 : decode cX2_handOver 30 = .ok (.isub, 1) := by decide +kernel
theorem dX2_handOver_31 : decode cX2_handOver 31 = .ok (.iconst 5, 1) := by decide +kernel
theorem dX2_handOver_32 : decode cX2_handOver 32 = .ok (.if_icmp .gt 13, 3) := by decide +kernel
theorem dX2_handOver_35 : decode cX2_handOver 35 = .ok (.aload_n 0, 1) := by decide +kernel
theorem dX2_handOver_36 : decode cX2_handOver 36 = .ok (.dup, 1) := by decide +kernel
theorem dX2_handOver_37 : decode cX2_handOver 37 = .ok (.getfield 131, 3) := by decide +kernel
theorem dX2_handOver_40 : decode cX2_handOver 40 = .ok (.iconst 1, 1) := by decide +kernel
theorem dX2_handOver_41 : decode cX2_handOver 41 = .ok (.iadd, 1) := by decide +kernel
theorem dX2_handOver_42 : decode cX2_handOver 42 = .ok (.putfield 131, 3) := by decide +kernel
theorem dX2_handOver_45 : decode cX2_handOver 45 = .ok (.aload_n 0, 1) := by decide +kernel
theorem dX2_handOver_46 : decode cX2_handOver 46 = .ok (.getfield 32, 3) := by decide +kernel
theorem dX2_handOver_49 : decode cX2_handOver 49 = .ok (.iload_n 1, 1) := by decide +kernel
theorem dX2_handOver_50 : decode cX2_handOver 50 = .ok (.iload_n 2, 1) := by decide +kernel
theorem dX2_handOver_51 : decode cX2_handOver 51 = .ok (.iastore, 1) := by decide +kernel
theorem dX2_handOver_52 : decode cX2_handOver 52 = .ok (.aload_n 0, 1) := by decide +kernel
theorem dX2_handOver_53 : decode cX2_handOver 53 = .ok (.getfield 35, 3) := by decide +kernel
theorem dX2_handOver_56 : decode cX2_handOver 56 = .ok (.iload_n 1, 1) := by decide +kernel
theorem dX2_handOver_57 : decode cX2_handOver 57 = .ok (.aload_n 0, 1) := by decide +kernel
theorem dX2_handOver_58 : decode cX2_handOver 58 = .ok (.getfield 107, 3) := by decide +kernel
theorem dX2_handOver_61 : decode cX2_handOver 61 = .ok (.iastore, 1) := by decide +kernel
theorem dX2_handOver_62 : decode cX2_handOver 62 = .ok (.aload_n 0, 1) := by decide +kernel
theorem dX2_handOver_63 : decode cX2_handOver 63 = .ok (.getfield 10, 3) := by decide +kernel
theorem dX2_handOver_66 : decode cX2_handOver 66 = .ok (.getfield 128, 3) := by decide +kernel
theorem dX2_handOver_69 : decode cX2_handOver 69 = .ok (.iload_n 1, 1) := by decide +kernel
theorem dX2_handOver_70 : decode cX2_handOver 70 = .ok (.iload_n 3, 1) := by decide +kernel
theorem dX2_handOver_71 : decode cX2_handOver 71 = .ok (.iastore, 1) := by decide +kernel
theorem dX2_handOver_72 : decode cX2_handOver 72 = .ok (.aload_n 0, 1) := by decide +kernel
theorem dX2_handOver_73 : decode cX2_handOver 73 = .ok (.iload_n 1, 1) := by decide +kernel
theorem dX2_handOver_74 : decode cX2_handOver 74 = .ok (.invokevirtual 89, 3) := by decide +kernel
theorem dX2_handOver_77 : decode cX2_handOver 77 = .ok (.return_, 1) := by decide +kernel
end
section
/-! what a state of the system is: the worlds, and the numbers read off them -/
abbrev T5 (cI cZ cJ cG cW : ClassId) : List (ClassId × FieldType) := [(cI, .int), (cZ, .boolean), (cJ, .int), (cG, .array .int), (cW, .array .int)]
def wL (cI cZ cG : ClassId) (a r : Nat → Nat) (nc nw : Nat) (cx cy ch rm on wx wy dm sv mu : Nat → Int32) (qq : Nat → Nat → Int32) : va_W :=
  [(a 0, .inr (0, [.ref (a 1), .ref (a 2), .ref (a 3), .ref (a 4), .ref (a 5), .int (nI nc), .ref (a 6), .ref (a 7), .ref (a 8), .ref (a 9), .int (nI nw), .ref (a 10), .ref (a 11)])),
   (a 1, .inl (cI, 5, .inl cx)), (a 2, .inl (cI, 5, .inl cy)), (a 3, .inl (cI, 5, .inl ch)), (a 4, .inl (cI, 5, .inl rm)), (a 5, .inl (cZ, 5, .inl on)),
   (a 6, .inl (cI, 6, .inl wx)), (a 7, .inl (cI, 6, .inl wy)), (a 8, .inl (cI, 6, .inl dm)), (a 9, .inl (cI, 6, .inl sv)), (a 10, .inl (cI, 5, .inl mu)),
   (a 11, .inl (cG, 6, .inr (.inr (.inr (.inr (fun i => if i < 6 then some (r i) else none)))))),
   (r 0, .inl (cI, 5, .inl (qq 0))), (r 1, .inl (cI, 5, .inl (qq 1))), (r 2, .inl (cI, 5, .inl (qq 2))), (r 3, .inl (cI, 5, .inl (qq 3))), (r 4, .inl (cI, 5, .inl (qq 4))), (r 5, .inl (cI, 5, .inl (qq 5)))]
def wSo (cI cW : ClassId) (a b r2 : Nat → Nat) (hp rl cn be : Nat → Int32) (bw : Int32) (wo : Nat → Nat → Int32) : va_W :=
  [(b 0, .inr (1, [.ref (a 0), .ref (b 1), .ref (b 2), .ref (b 3), .ref (b 4), .ref (b 5), .int bw])),
   (b 1, .inl (cW, 6, .inr (.inr (.inr (.inr (fun i => if i < 6 then some (r2 i) else none)))))),
   (b 2, .inl (cI, 7, .inl hp)), (b 3, .inl (cI, 5, .inl rl)), (b 4, .inl (cI, 6, .inl cn)), (b 5, .inl (cI, 6, .inl be)),
   (r2 0, .inl (cI, 5, .inl (wo 0))), (r2 1, .inl (cI, 5, .inl (wo 1))), (r2 2, .inl (cI, 5, .inl (wo 2))), (r2 3, .inl (cI, 5, .inl (wo 3))), (r2 4, .inl (cI, 5, .inl (wo 4))), (r2 5, .inl (cI, 5, .inl (wo 5)))]
def wCo (cI : ClassId) (a b d : Nat → Nat) (mg pt bd tk ho ri lo : Int32) (fv hd lf la : Nat → Int32) : va_W :=
  [(d 0, .inr (2, [.ref (a 0), .ref (b 0), .ref (d 1), .ref (d 2), .ref (d 3), .ref (d 4), .int mg, .int pt, .int bd, .int tk, .int ho, .int ri, .int lo])),
   (d 1, .inl (cI, 6, .inl fv)), (d 2, .inl (cI, 6, .inl hd)), (d 3, .inl (cI, 6, .inl lf)), (d 4, .inl (cI, 6, .inl la))]
def wM (cI cZ : ClassId) (q : Nat → Nat) (nc nw : Nat) (cx cy ch rm on wx wy dm sv fv hd lf la : Nat → Int32) (mg pt bd tk ho ri lo : Int32) (us gv bs ld qs : Nat → Int32) (mS mD th : Int32) : va_W :=
  [(q 0, .inr (3, [.int (nI nc), .ref (q 1), .ref (q 2), .ref (q 3), .ref (q 4), .ref (q 5), .int (nI nw), .ref (q 6), .ref (q 7), .ref (q 8), .ref (q 9), .ref (q 10), .ref (q 11), .ref (q 12), .ref (q 13), .int mg, .int pt, .int bd, .int tk, .int ho, .int ri, .int lo, .ref (q 14), .ref (q 15), .ref (q 16), .ref (q 17), .ref (q 18), .int mS, .int mD, .int th])),
   (q 1, .inl (cI, 5, .inl cx)), (q 2, .inl (cI, 5, .inl cy)), (q 3, .inl (cI, 5, .inl ch)), (q 4, .inl (cI, 5, .inl rm)), (q 5, .inl (cZ, 5, .inl on)),
   (q 6, .inl (cI, 6, .inl wx)), (q 7, .inl (cI, 6, .inl wy)), (q 8, .inl (cI, 6, .inl dm)), (q 9, .inl (cI, 6, .inl sv)), (q 10, .inl (cI, 6, .inl fv)), (q 11, .inl (cI, 6, .inl hd)), (q 12, .inl (cI, 6, .inl lf)), (q 13, .inl (cI, 6, .inl la)),
   (q 14, .inl (cI, 5, .inl us)), (q 15, .inl (cI, 6, .inl gv)), (q 16, .inl (cI, 6, .inl bs)), (q 17, .inl (cI, 5, .inl ld)), (q 18, .inl (cI, 30, .inl qs))]
def wO (cJ : ClassId) (o : Nat) (ot : Nat → Int64) : va_W := [(o, .inl (cJ, 1, .inr (.inl ot)))]
/-- a table, one place of it written -/
def up2 (f : Nat → Nat → Int32) (w j : Nat) (x : Int32) : Nat → Nat → Int32 := fun u => if u = w then upd (f w) j x else f u
theorem wL_row {cI cZ cG : ClassId} {a r : Nat → Nat} {nc nw : Nat} {cx cy ch rm on wx wy dm sv mu : Nat → Int32} {qq : Nat → Nat → Int32} {w : Nat} (h : w < 6) :
    (wL cI cZ cG a r nc nw cx cy ch rm on wx wy dm sv mu qq)[12 + w]? = some (r w, .inl (cI, 5, .inl (qq w))) :=
  match w, h with
  | 0, _ => rfl | 1, _ => rfl | 2, _ => rfl | 3, _ => rfl | 4, _ => rfl | 5, _ => rfl
theorem wL_set {cI cZ cG : ClassId} {a r : Nat → Nat} {nc nw : Nat} {cx cy ch rm on wx wy dm sv mu : Nat → Int32} {qq : Nat → Nat → Int32} {w : Nat} (h : w < 6) {j : Nat} {x : Int32} :
    (wL cI cZ cG a r nc nw cx cy ch rm on wx wy dm sv mu qq).set (12 + w) (r w, .inl (cI, 5, .inl (upd (qq w) j x))) = wL cI cZ cG a r nc nw cx cy ch rm on wx wy dm sv mu (up2 qq w j x) :=
  match w, h with
  | 0, _ => rfl | 1, _ => rfl | 2, _ => rfl | 3, _ => rfl | 4, _ => rfl | 5, _ => rfl
theorem wS_row {cI cZ cG cW : ClassId} {a b r r2 : Nat → Nat} {hp rl cn be : Nat → Int32} {bw : Int32} {wo : Nat → Nat → Int32} {nc nw : Nat} {cx cy ch rm on wx wy dm sv mu : Nat → Int32} {qq : Nat → Nat → Int32} {w : Nat} (h : w < 6) :
    (wSo cI cW a b r2 hp rl cn be bw wo ++ wL cI cZ cG a r nc nw cx cy ch rm on wx wy dm sv mu qq)[24 + w]? = some (r w, .inl (cI, 5, .inl (qq w))) :=
  match w, h with
  | 0, _ => rfl | 1, _ => rfl | 2, _ => rfl | 3, _ => rfl | 4, _ => rfl | 5, _ => rfl
theorem wS_row2 {cI cZ cG cW : ClassId} {a b r r2 : Nat → Nat} {hp rl cn be : Nat → Int32} {bw : Int32} {wo : Nat → Nat → Int32} {nc nw : Nat} {cx cy ch rm on wx wy dm sv mu : Nat → Int32} {qq : Nat → Nat → Int32} {w : Nat} (h : w < 6) :
    (wSo cI cW a b r2 hp rl cn be bw wo ++ wL cI cZ cG a r nc nw cx cy ch rm on wx wy dm sv mu qq)[6 + w]? = some (r2 w, .inl (cI, 5, .inl (wo w))) :=
  match w, h with
  | 0, _ => rfl | 1, _ => rfl | 2, _ => rfl | 3, _ => rfl | 4, _ => rfl | 5, _ => rfl
theorem wS_set2 {cI cZ cG cW : ClassId} {a b r r2 : Nat → Nat} {hp rl cn be : Nat → Int32} {bw : Int32} {wo : Nat → Nat → Int32} {nc nw : Nat} {cx cy ch rm on wx wy dm sv mu : Nat → Int32} {qq : Nat → Nat → Int32} {w : Nat} (h : w < 6) {j : Nat} {x : Int32} :
    (wSo cI cW a b r2 hp rl cn be bw wo ++ wL cI cZ cG a r nc nw cx cy ch rm on wx wy dm sv mu qq).set (6 + w) (r2 w, .inl (cI, 5, .inl (upd (wo w) j x))) = (wSo cI cW a b r2 hp rl cn be bw (up2 wo w j x) ++ wL cI cZ cG a r nc nw cx cy ch rm on wx wy dm sv mu qq) :=
  match w, h with
  | 0, _ => rfl | 1, _ => rfl | 2, _ => rfl | 3, _ => rfl | 4, _ => rfl | 5, _ => rfl
theorem wC_row {cI cZ cG cW : ClassId} {a b d r r2 : Nat → Nat} {mg pt bd tk ho ri lo : Int32} {fv hd lf la : Nat → Int32} {hp rl cn be : Nat → Int32} {bw : Int32} {wo : Nat → Nat → Int32} {nc nw : Nat} {cx cy ch rm on wx wy dm sv mu : Nat → Int32} {qq : Nat → Nat → Int32} {w : Nat} (h : w < 6) :
    ((wCo cI a b d mg pt bd tk ho ri lo fv hd lf la ++ wSo cI cW a b r2 hp rl cn be bw wo) ++ wL cI cZ cG a r nc nw cx cy ch rm on wx wy dm sv mu qq)[29 + w]? = some (r w, .inl (cI, 5, .inl (qq w))) :=
  match w, h with
  | 0, _ => rfl | 1, _ => rfl | 2, _ => rfl | 3, _ => rfl | 4, _ => rfl | 5, _ => rfl
/-! the document's numbers -/
def ab (x : Int32) : Int32 := if 0 ≤ x then x else 0 - x
def mx (x y : Int32) : Int32 := if x < y then y else x
def dsq (x y u v : Int32) : Int32 := (ab (x - u) + ab (y - v) + 2) * (ab (x - u) + ab (y - v) + 2)
/-- the signal of cell c for walker w -/
def sg (cx cy wx wy : Nat → Int32) (c w : Nat) : Int32 := 16000 / dsq (cx c) (cy c) (wx w) (wy w)
def sgw (cx cy wx wy : Nat → Int32) (w : Nat) : Nat → Int32 := fun c => sg cx cy wx wy c w
/-- the load of a cell, of the first walkers -/
def fld (sv dm : Nat → Int32) (c : Int32) : Nat → Int32
  | 0 => 0
  | n + 1 => if sv n = c then fld sv dm c n + dm n else fld sv dm c n
def fus (rm sv dm : Nat → Int32) (nw c : Nat) : Int32 := 100 * fld sv dm (nI c) nw / rm c
/-- the disturbances of cell c by the first cells -/
def fdi (ch on us s : Nat → Int32) (c : Nat) : Nat → Int32
  | 0 => 0
  | n + 1 => if n = c then fdi ch on us s c n else if on n = 0 then fdi ch on us s c n else if ch n = ch c then fdi ch on us s c n + s n * us n / 100 else fdi ch on us s c n
/-- the quality of cell c for walker w, with the uses us -/
def fqu (cx cy ch on wx wy us : Nat → Int32) (nc w c : Nat) : Int32 := 100 * sg cx cy wx wy c w / (10 + fdi ch on us (sgw cx cy wx wy w) c nc)
def fil (n : Nat) (f g : Nat → Int32) : Nat → Int32 := fun j => if j < n then f j else g j
def fil2 (n k : Nat) (f g : Nat → Nat → Int32) : Nat → Nat → Int32 := fun i j => if i < n ∧ j < k then f i j else g i j
/-- whether cell c could take walker w -/
def ftk (on sv dm rm : Nat → Int32) (nw w c : Nat) : Int32 := if on c = 0 then 0 else if sv w = nI c then 0 else if rm c < fld sv dm (nI c) nw + dm w then 0 else 1
/-- a cell's number, none being -1 -/
def en : Option Nat → Int32
  | none => -1
  | some k => nI k
/-- the first of the greatest q among the first cells that t allows -/
def fbo (t q : Nat → Int32) : Nat → Option Nat
  | 0 => none
  | n + 1 => if t n = 0 then fbo t q n else match fbo t q n with
    | none => some n
    | some b => if q n ≤ q b then some b else some n
theorem fbo_lt {t q : Nat → Int32} : ∀ {n b : Nat}, fbo t q n = some b → b < n
  | 0, b, h => by cases h
  | n + 1, b, h => by
    have ih : ∀ c, fbo t q n = some c → c < n := fun c hc => fbo_lt hc
    unfold fbo at h
    split at h
    · have := ih b h; omega
    · split at h
      · cases h; omega
      · next c hc =>
        have h1 := ih c hc
        split at h
        · cases h; omega
        · cases h; omega
theorem en_m1 {k : Nat} (h : k < 2 ^ 31) : ¬ nI k = -1 := fun e => nI_pos h (by rw [e]; decide)
theorem en_some {o : Option Nat} (h : ¬ en o = -1) : ∃ b, o = some b := by
  cases o with
  | none => exact absurd rfl h
  | some b => exact ⟨b, rfl⟩
theorem en_none {o : Option Nat} (hb : ∀ b, o = some b → b < 2 ^ 31) (h : en o = -1) : o = none := by
  cases o with
  | none => rfl
  | some b => exact absurd h (en_m1 (hb b rfl))
theorem fil_step {M f g : Nat → Int32} {i : Nat} {x : Int32} (h : ∀ j, M j = if j < i then f j else g j) (hx : x = f i) : ∀ j, upd M i x j = if j < i + 1 then f j else g j := by
  intro j
  show (if j = i then x else M j) = _
  by_cases h1 : j = i
  · rw [if_pos h1, if_pos (by omega), hx, h1]
  · rw [if_neg h1, h]
    by_cases h2 : j < i
    · rw [if_pos h2, if_pos (by omega)]
    · rw [if_neg h2, if_neg (by omega)]
theorem fil2_cell {f Z Y : Nat → Nat → Int32} {u v : Nat} {x : Int32} (h : ∀ j c, Y j c = if j = u ∧ c < v then f u c else Z j c) (hx : x = f u v) : ∀ j c, up2 Y u v x j c = if j = u ∧ c < v + 1 then f u c else Z j c := by
  intro j c
  show (if j = u then upd (Y u) v x else Y j) c = _
  by_cases h1 : j = u
  · rw [if_pos h1]
    show (if c = v then x else Y u c) = _
    by_cases h2 : c = v
    · rw [if_pos h2, if_pos ⟨h1, by omega⟩, hx, h2]
    · rw [if_neg h2, h]
      by_cases h3 : c < v
      · rw [if_pos ⟨rfl, h3⟩, if_pos ⟨h1, by omega⟩]
      · rw [if_neg (fun q => h3 q.2), if_neg (fun q => h3 (by omega)), h1]
  · rw [if_neg h1, h, if_neg (fun q => h1 q.1), if_neg (fun q => h1 q.1)]
theorem fil2_row {f g Z Y : Nat → Nat → Int32} {u v k : Nat} (hv : v = k) (g2 : ∀ j c, Z j c = if j < u ∧ c < k then f j c else g j c) (e2 : ∀ j c, Y j c = if j = u ∧ c < v then f u c else Z j c) : ∀ j c, Y j c = if j < u + 1 ∧ c < k then f j c else g j c := by
  intro j c
  rw [e2, g2]
  by_cases h1 : j = u
  · subst h1
    by_cases h2 : c < k
    · rw [if_pos ⟨rfl, by omega⟩, if_pos ⟨by omega, h2⟩]
    · rw [if_neg (fun h => h2 (by omega)), if_neg (fun h => h2 h.2), if_neg (fun h => h2 h.2)]
  · by_cases h2 : j < u ∧ c < k
    · rw [if_neg (fun h => h1 h.1), if_pos h2, if_pos ⟨by omega, h2.2⟩]
    · rw [if_neg (fun h => h1 h.1), if_neg h2, if_neg (fun h => h2 ⟨by omega, h.2⟩)]
/-! the search, as its methods go -/
abbrev S4 : Type := (Nat → Int32) × (Nat → Int32) × (Nat → Int32) × Int32
def fwv (on : Nat → Int32) (bd gain pq : Int32) (q : Nat → Int32) (c : Nat) : Int32 := if on c = 0 then 0 else if q c < bd then 0 else gain + pq * q c
def fmx (f : Nat → Int32) : Nat → Int32
  | 0 => 0
  | n + 1 => mx (fmx f n) (f n)
def fwr (w k : Nat) (f : Nat → Int32) (wo : Nat → Nat → Int32) : Nat → Nat → Int32 := fun j c => if j = w ∧ c < k then f c else wo j c
theorem up2_self {f : Nat → Nat → Int32} {w j : Nat} {x : Int32} : up2 f w j x w j = x := by simp [up2, upd]
theorem dec1 (x : Int32) : x + Int32.ofInt (-1) = x - 1 := by rw [Int32.sub_eq_add_neg]; rfl
def fpi (f : Int32 → S4 → S4) (wow : Nat → Int32) (need : Int32) (w : Nat) (g : Int32) (s : S4) : Nat → S4
  | 0 => s
  | c + 1 => if wow c ≤ 0 then fpi f wow need w g s c else if (fpi f wow need w g s c).1 c < need then fpi f wow need w g s c else
    (upd (f (g + wow c) (upd (fpi f wow need w g s c).1 c ((fpi f wow need w g s c).1 c - need), upd (fpi f wow need w g s c).2.1 w (nI c), (fpi f wow need w g s c).2.2.1, (fpi f wow need w g s c).2.2.2)).1 c
        ((f (g + wow c) (upd (fpi f wow need w g s c).1 c ((fpi f wow need w g s c).1 c - need), upd (fpi f wow need w g s c).2.1 w (nI c), (fpi f wow need w g s c).2.2.1, (fpi f wow need w g s c).2.2.2)).1 c + need),
      (f (g + wow c) (upd (fpi f wow need w g s c).1 c ((fpi f wow need w g s c).1 c - need), upd (fpi f wow need w g s c).2.1 w (nI c), (fpi f wow need w g s c).2.2.1, (fpi f wow need w g s c).2.2.2)).2)
def fpl (hp : Nat → Int32) (wo : Nat → Nat → Int32) (dm : Nat → Int32) (nc nw : Nat) : Nat → Nat → Int32 → S4 → S4
  | 0, _, _, s => s
  | k + 1, w, g, s => if g + hp w ≤ s.2.2.2 then s else if nw ≤ w then (s.1, s.2.1, va_cpy s.2.1 s.2.2.1 0 0 nw, g) else
    fpl hp wo dm nc nw k (w + 1) g ((fpi (fpl hp wo dm nc nw k (w + 1)) (wo w) (dm w) w g s nc).1, upd (fpi (fpl hp wo dm nc nw k (w + 1)) (wo w) (dm w) w g s nc).2.1 w (-1), (fpi (fpl hp wo dm nc nw k (w + 1)) (wo w) (dm w) w g s nc).2.2.1, (fpi (fpl hp wo dm nc nw k (w + 1)) (wo w) (dm w) w g s nc).2.2.2)
/-- what may be hoped for, of the last i walkers -/
def fho (f : Nat → Int32) (nw : Nat) : Nat → Int32
  | 0 => 0
  | i + 1 => fho f nw i + f (nw - (i + 1))
/-- what greatestWorth leaves -/
def GW (nc nw : Nat) (rm on dm : Nat → Int32) (qq : Nat → Nat → Int32) (bd pw pd pq : Int32) (rl cn be hp : Nat → Int32) (wo : Nat → Nat → Int32) (z : S4) : Prop :=
  z = fpl hp wo dm nc nw 7 0 0 (va_cpy rm rl 0 0 nc, cn, be, -1) ∧ (∀ t, t ≤ nw → hp t = fho (fun u => fmx (fwv on bd (pw + pd * dm u) pq (qq u)) nc) nw (nw - t)) ∧ ∀ t c, t < nw → c < nc → wo t c = fwv on bd (pw + pd * dm t) pq (qq t) c
theorem fho_step {f P : Nat → Int32} {nw j2 : Nat} {x : Int32} (h1 : j2 + 1 ≤ nw) (h2 : ∀ t, j2 + 1 ≤ t → t ≤ nw → P t = fho f nw (nw - t)) (hx : x = P (j2 + 1) + f j2) : ∀ t, j2 ≤ t → t ≤ nw → upd P j2 x t = fho f nw (nw - t) := by
  intro t ht ht2
  show (if t = j2 then x else P t) = _
  by_cases h : t = j2
  · rw [if_pos h, hx, h2 (j2 + 1) (Nat.le_refl _) h1, h, show nw - j2 = (nw - (j2 + 1)) + 1 by omega, fho, show nw - (nw - (j2 + 1) + 1) = j2 by omega]
  · rw [if_neg h]
    exact h2 t (by omega) ht2
theorem fwr_step {f : Nat → Nat → Int32} {Y : Nat → Nat → Int32} {nw nc j2 : Nat} (_ : j2 + 1 ≤ nw) (h3 : ∀ t c, j2 + 1 ≤ t → t < nw → c < nc → Y t c = f t c) : ∀ t c, j2 ≤ t → t < nw → c < nc → fwr j2 nc (f j2) Y t c = f t c := by
  intro t c ht ht2 hc
  show (if t = j2 ∧ c < nc then f j2 c else Y t c) = _
  by_cases h : t = j2
  · rw [if_pos ⟨h, hc⟩, h]
  · rw [if_neg (fun q => h q.1)]
    exact h3 t c (by omega) ht2 hc
/-! a tick, and what belongs to it -/
abbrev TS : Type := (Nat → Int32) × (Nat → Int32) × (Nat → Int32) × (Nat → Int32) × (Nat → Int32) × Int32 × Int32 × Int32
theorem upd_upd (f : Nat → Int32) (i : Nat) (x y : Int32) : upd (upd f i x) i y = upd f i y := by
  funext j
  unfold upd
  by_cases h : j = i <;> simp [h]
theorem upd_at {f : Nat → Int32} {i : Nat} {x : Int32} : upd f i x i = x := by simp [upd]
/-- what is held, if k is the favourite now -/
def fhe (fv hd : Nat → Int32) (w k : Nat) : Int32 := if nI k = fv w then hd w + 1 else 1
def frg (lf la : Nat → Int32) (w : Nat) (to tk ri : Int32) : Int32 := if to = lf w then (if 5 < tk - la w then ri else ri + 1) else ri
/-- a tick's step for walker w: served, favourites, held, left, when left, handovers, rings, losses -/
def fts (on dm rm : Nat → Int32) (nc nw : Nat) (Q : Nat → Nat → Int32) (mg pt bd tk : Int32) (w : Nat) (z : TS) : TS :=
  if z.1 w = -1 then
    match fbo (fun u => ftk on z.1 dm rm nw w u) (Q w) nc with
    | none => z
    | some k => if Q w k < bd then z else (upd z.1 w (nI k), z.2)
  else if bd ≤ Q w (z.1 w).toNatClampNeg then
    match fbo (fun u => ftk on z.1 dm rm nw w u) (Q w) nc with
    | none => (z.1, upd z.2.1 w (-1), upd z.2.2.1 w 0, z.2.2.2)
    | some k => if Q w (z.1 w).toNatClampNeg + mg ≤ Q w k then
        (if fhe z.2.1 z.2.2.1 w k < pt then (z.1, upd z.2.1 w (nI k), upd z.2.2.1 w (fhe z.2.1 z.2.2.1 w k), z.2.2.2)
         else (upd z.1 w (nI k), upd z.2.1 w (-1), upd z.2.2.1 w 0, upd z.2.2.2.1 w (z.1 w), upd z.2.2.2.2.1 w tk, z.2.2.2.2.2.1 + 1, frg z.2.2.2.1 z.2.2.2.2.1 w (nI k) tk z.2.2.2.2.2.2.1, z.2.2.2.2.2.2.2))
      else (z.1, upd z.2.1 w (-1), upd z.2.2.1 w 0, z.2.2.2)
  else (upd z.1 w (-1), upd z.2.1 w (-1), upd z.2.2.1 w 0, upd z.2.2.2.1 w (-1), z.2.2.2.2.1, z.2.2.2.2.2.1, z.2.2.2.2.2.2.1, z.2.2.2.2.2.2.2 + 1)
def ftw (on dm rm : Nat → Int32) (nc nw : Nat) (Q : Nat → Nat → Int32) (mg pt bd tk : Int32) (z : TS) : Nat → TS
  | 0 => z
  | n + 1 => fts on dm rm nc nw Q mg pt bd tk n (ftw on dm rm nc nw Q mg pt bd tk z n)
def SV (nc : Nat) (x : Int32) : Prop := x = -1 ∨ ∃ k, k < nc ∧ x = nI k
theorem SV_upd {nc w : Nat} {f : Nat → Int32} {x : Int32} {P : Nat → Prop} (h : ∀ j, P j → SV nc (f j)) (hx : SV nc x) : ∀ j, P j → SV nc (upd f w x j) := by
  intro j hj
  show SV nc (if j = w then x else f j)
  by_cases q : j = w
  · rw [if_pos q]; exact hx
  · rw [if_neg q]; exact h j hj
theorem fts_sv {on dm rm : Nat → Int32} {nc nw : Nat} {Q : Nat → Nat → Int32} {mg pt bd tk : Int32} {w : Nat} {z : TS} {P : Nat → Prop} (h : ∀ j, P j → SV nc (z.1 j)) : ∀ j, P j → SV nc ((fts on dm rm nc nw Q mg pt bd tk w z).1 j) := by
  have key : ∀ k, fbo (fun u => ftk on z.1 dm rm nw w u) (Q w) nc = some k → SV nc (nI k) := fun k hk => Or.inr ⟨k, fbo_lt hk, rfl⟩
  have m1 : SV nc (-1) := Or.inl rfl
  unfold fts
  split
  · split
    · exact h
    · next k hk =>
      split
      · exact h
      · exact SV_upd h (key k hk)
  · split
    · split
      · exact h
      · next k hk =>
        split
        · split
          · exact h
          · exact SV_upd h (key k hk)
        · exact h
    · exact SV_upd h m1
/-- the walkers of a cell that goes off -/
def frw (c : Int32) (z : (Nat → Int32) × (Nat → Int32) × (Nat → Int32)) : Nat → (Nat → Int32) × (Nat → Int32) × (Nat → Int32)
  | 0 => z
  | n + 1 => if (frw c z n).1 n = c then (upd (frw c z n).1 n (-1), upd (frw c z n).2.1 n (-1), upd (frw c z n).2.2 n 0) else frw c z n
def fun0 (sv : Nat → Int32) : Nat → Int32
  | 0 => 0
  | n + 1 => if sv n = -1 then fun0 sv n ||| ((1 : Int32) <<< (nI n &&& 31)) else fun0 sv n
end
section
/-! Land -/
theorem iX0_loadOf_X0 : ∀ w ∈ u_ws RX0 TX0 13, w ∈ wsX0_loadOf := by decide +kernel
set_option maxHeartbeats 1000000 in
set_option maxRecDepth 100000 in
/-- the load of a cell -/
theorem t_X0_loadOf {l : Launch} {D : va_G} {cI cZ cJ cG cW : ClassId} {a r : Nat → Nat} {nc nw : Nat} {cx cy ch rm on wx wy dm sv mu : Nat → Int32} {qq : Nat → Nat → Int32} {p0 : Int32} (h6 : nw ≤ 6) : CtI l yX0_loadOf wsX0_loadOf 0 0 0 0 D (T5 cI cZ cJ cG cW) [.ref (a 0), .int p0] (wL cI cZ cG a r nc nw cx cy ch rm on wx wy dm sv mu qq) (fun rv wv => rv = fld sv dm p0 nw ∧ wv = (wL cI cZ cG a r nc nw cx cy ch rm on wx wy dm sv mu qq)) := by
  refine ctI_of (cc := cX0_loadOf) (maxL := 4) RX0 2 [some (.ref (a 0)), some (.int p0), none, none] (by decide +kernel) rfl rfl (Nat.le_of_ble_eq_true rfl) rfl (fun p_ e_ s_ m_ as_ bl_ me_ co_ C hret => ?_)
  have f34 := C.ts (.fieldLink RX0 34 "CellPlanner$Land" "demand" "[I") (by decide +kernel)
  have f37 := C.ts (.fieldLink RX0 37 "CellPlanner$Land" "server" "[I") (by decide +kernel)
  have f52 := C.ts (.fieldLink RX0 52 "CellPlanner$Land" "walkers" "I") (by decide +kernel)
  refine g_iconst C 0 dX0_loadOf_0 (by decide +kernel) ?_
  refine g_istore_n C [some (.ref (a 0)), some (.int p0), some (.int 0), none] dX0_loadOf_1 (by decide) rfl rfl ?_
  refine g_iconst C 0 dX0_loadOf_2 (by decide +kernel) ?_
  refine g_istore_n C [some (.ref (a 0)), some (.int p0), some (.int 0), some (.int 0)] dX0_loadOf_3 (by decide) rfl rfl ?_
  refine g_loop2 0 0 (fun (i : Nat) (x : Int32) => i ≤ nw ∧ x = fld sv dm p0 i) (fun (i : Nat) (x : Int32) => (wL cI cZ cG a r nc nw cx cy ch rm on wx wy dm sv mu qq)) (fun (i : Nat) (x : Int32) => [some (.ref (a 0)), some (.int p0), some (.int x), some (.int (nI i))]) (fun (i : Nat) (x : Int32) => nw - i) ⟨Nat.zero_le _, rfl⟩ rfl rfl (fun i x hI ih => ?_)
  obtain ⟨h1, h2⟩ := hI
  refine g_iload_n C dX0_loadOf_4 rfl ?_
  refine g_aload_n C dX0_loadOf_5 rfl ?_
  refine g_get C 0 iX0_loadOf_X0 rfl rfl 10 (by decide) f52 rfl dX0_loadOf_6 ?_
  refine g_icmp_ge C 37 dX0_loadOf_9 (by decide) (fun c_9 => ?_) (fun c_9 => ?_)
  · skip
    have c_9 : nw ≤ i := (nI_leI (by omega) (by omega)).mp c_9
    refine g_iload_n C dX0_loadOf_37 rfl ?_
    exact g_iret C hret dX0_loadOf_38 (Nat.le_of_ble_eq_true rfl) (Nat.le_of_ble_eq_true rfl) ⟨(by rw [h2, show i = nw by omega]), rfl⟩
  · skip
    have c_9 : ¬ (nw ≤ i) := fun h9 => c_9 ((nI_leI (by omega) (by omega)).mpr h9)
    refine g_aload_n C dX0_loadOf_12 rfl ?_
    refine g_get C 0 iX0_loadOf_X0 rfl rfl 9 (by decide) f37 rfl dX0_loadOf_13 ?_
    refine g_iload_n C dX0_loadOf_16 rfl ?_
    refine g_iald C 9 0 rfl rfl i rfl (by omega) (by decide) (sv i) rfl dX0_loadOf_17 ?_
    refine g_iload_n C dX0_loadOf_18 rfl ?_
    refine g_icmp_ne C 31 dX0_loadOf_19 (by decide) (fun c_19 => ?_) (fun c_19 => ?_)
    · skip
      refine g_iinc C (nI (i + 1)) [some (.ref (a 0)), some (.int p0), some (.int x), some (.int (nI (i + 1)))] dX0_loadOf_31 rfl (nI_1 i) (by decide) rfl rfl ?_
      refine g_goto C 4 dX0_loadOf_34 (by decide) ?_
      exact ih (i + 1) x ⟨by omega, by rw [fld, if_neg c_19, h2]⟩ (by omega)
    · skip
      refine g_iload_n C dX0_loadOf_22 rfl ?_
      refine g_aload_n C dX0_loadOf_23 rfl ?_
      refine g_get C 0 iX0_loadOf_X0 rfl rfl 8 (by decide) f34 rfl dX0_loadOf_24 ?_
      refine g_iload_n C dX0_loadOf_27 rfl ?_
      refine g_iald C 8 0 rfl rfl i rfl (by omega) (by decide) (dm i) rfl dX0_loadOf_28 ?_
      refine g_iadd C (x + (dm i)) dX0_loadOf_29 rfl ?_
      refine g_istore_n C [some (.ref (a 0)), some (.int p0), some (.int (x + (dm i))), some (.int (nI i))] dX0_loadOf_30 (by decide) rfl rfl ?_
      refine g_iinc C (nI (i + 1)) [some (.ref (a 0)), some (.int p0), some (.int (x + (dm i))), some (.int (nI (i + 1)))] dX0_loadOf_31 rfl (nI_1 i) (by decide) rfl rfl ?_
      refine g_goto C 4 dX0_loadOf_34 (by decide) ?_
      exact ih (i + 1) (x + (dm i)) ⟨by omega, by rw [fld, if_pos c_19, h2]⟩ (by omega)
theorem iX0_useOf_X0 : ∀ w ∈ u_ws RX0 TX0 13, w ∈ wsX0_useOf := by decide +kernel
set_option maxHeartbeats 1000000 in
set_option maxRecDepth 100000 in
/-- the use of a cell -/
theorem t_X0_useOf {l : Launch} {D : va_G} {cI cZ cJ cG cW : ClassId} {a r : Nat → Nat} {nc nw : Nat} {cx cy ch rm on wx wy dm sv mu : Nat → Int32} {qq : Nat → Nat → Int32} {kc : Nat} (h6 : nw ≤ 6) (h5 : kc < 5) (hr : ¬ rm kc ≤ 0) : CtI l yX0_useOf wsX0_useOf 1 23 0 0 D (T5 cI cZ cJ cG cW) [.ref (a 0), .int (nI kc)] (wL cI cZ cG a r nc nw cx cy ch rm on wx wy dm sv mu qq) (fun rv wv => rv = fus rm sv dm nw kc ∧ wv = (wL cI cZ cG a r nc nw cx cy ch rm on wx wy dm sv mu qq)) := by
  refine ctI_of (cc := cX0_useOf) (maxL := 2) RX0 0 [some (.ref (a 0)), some (.int (nI kc))] (by decide +kernel) rfl rfl (Nat.le_of_ble_eq_true rfl) rfl (fun p_ e_ s_ m_ as_ bl_ me_ co_ C hret => ?_)
  have f21 := C.ts (.fieldLink RX0 21 "CellPlanner$Land" "room" "[I") (by decide +kernel)
  refine g_aload_n C dX0_useOf_0 rfl ?_
  refine g_get C 0 iX0_useOf_X0 rfl rfl 3 (by decide) f21 rfl dX0_useOf_1 ?_
  refine g_iload_n C dX0_useOf_4 rfl ?_
  refine g_iald C 4 0 rfl rfl kc rfl (by omega) (by decide) (rm kc) rfl dX0_useOf_5 ?_
  refine g_if_le C 27 dX0_useOf_6 (by decide) (fun c9 => absurd c9 hr) (fun _ => ?_)
  refine g_bipush C 100 dX0_useOf_9 (by decide +kernel) ?_
  refine g_aload_n C dX0_useOf_11 rfl ?_
  refine g_iload_n C dX0_useOf_12 rfl ?_
  refine g_callVi C [] (wL cI cZ cG a r nc nw cx cy ch rm on wx wy dm sv mu qq) [.int (nI kc)] (t_X0_loadOf h6) rfl rfl (cwV 1 C.ts gX0_useOf_X0_loadOf rfl rfl rfl (by decide +kernel) ⟨Nat.le_of_ble_eq_true rfl, Nat.le_of_ble_eq_true rfl⟩) rfl rfl rfl (Nat.le_of_ble_eq_true rfl) dX0_useOf_13 ⟨Nat.le_of_ble_eq_true rfl, Nat.le_of_ble_eq_true rfl⟩ (fun rv1 wv1 hp1 => ?_)
  obtain ⟨rfl, rfl⟩ := hp1
  refine g_imul C (100 * (fld sv dm (nI kc) nw)) dX0_useOf_16 rfl ?_
  refine g_aload_n C dX0_useOf_17 rfl ?_
  refine g_get C 0 iX0_useOf_X0 rfl rfl 3 (by decide) f21 rfl dX0_useOf_18 ?_
  refine g_iload_n C dX0_useOf_21 rfl ?_
  refine g_iald C 4 0 rfl rfl kc rfl (by omega) (by decide) (rm kc) rfl dX0_useOf_22 ?_
  refine g_idiv C ((100 * (fld sv dm (nI kc) nw)) / (rm kc)) dX0_useOf_23 (fun h => hr (by rw [h]; decide)) rfl ?_
  refine g_goto C 28 dX0_useOf_24 (by decide) ?_
  exact g_iret C hret dX0_useOf_28 (Nat.le_of_ble_eq_true rfl) (Nat.le_of_ble_eq_true rfl) ⟨rfl, rfl⟩
theorem iX0_signalOf_X0 : ∀ w ∈ u_ws RX0 TX0 13, w ∈ wsX0_signalOf := by decide +kernel
set_option maxHeartbeats 1000000 in
set_option maxRecDepth 100000 in
/-- the signal of a cell for a walker -/
theorem t_X0_signalOf {l : Launch} {D : va_G} {cI cZ cJ cG cW : ClassId} {a r : Nat → Nat} {nc nw : Nat} {cx cy ch rm on wx wy dm sv mu : Nat → Int32} {qq : Nat → Nat → Int32} {kc kw : Nat} (h5 : kc < 5) (h6 : kw < 6) (hd : ¬ dsq (cx kc) (cy kc) (wx kw) (wy kw) = 0) : CtI l yX0_signalOf wsX0_signalOf 1 40 0 0 D (T5 cI cZ cJ cG cW) [.ref (a 0), .int (nI kc), .int (nI kw)] (wL cI cZ cG a r nc nw cx cy ch rm on wx wy dm sv mu qq) (fun rv wv => rv = sg cx cy wx wy kc kw ∧ wv = (wL cI cZ cG a r nc nw cx cy ch rm on wx wy dm sv mu qq)) := by
  refine ctI_of (cc := cX0_signalOf) (maxL := 4) RX0 1 [some (.ref (a 0)), some (.int (nI kc)), some (.int (nI kw)), none] (by decide +kernel) rfl rfl (Nat.le_of_ble_eq_true rfl) rfl (fun p_ e_ s_ m_ as_ bl_ me_ co_ C hret => ?_)
  have f9 := C.ts (.fieldLink RX0 9 "CellPlanner$Land" "cellX" "[I") (by decide +kernel)
  have f15 := C.ts (.fieldLink RX0 15 "CellPlanner$Land" "cellY" "[I") (by decide +kernel)
  have f28 := C.ts (.fieldLink RX0 28 "CellPlanner$Land" "walkerX" "[I") (by decide +kernel)
  have f31 := C.ts (.fieldLink RX0 31 "CellPlanner$Land" "walkerY" "[I") (by decide +kernel)
  refine g_aload_n C dX0_signalOf_0 rfl ?_
  refine g_get C 0 iX0_signalOf_X0 rfl rfl 0 (by decide) f9 rfl dX0_signalOf_1 ?_
  refine g_iload_n C dX0_signalOf_4 rfl ?_
  refine g_iald C 1 0 rfl rfl kc rfl (by omega) (by decide) (cx kc) rfl dX0_signalOf_5 ?_
  refine g_aload_n C dX0_signalOf_6 rfl ?_
  refine g_get C 0 iX0_signalOf_X0 rfl rfl 6 (by decide) f28 rfl dX0_signalOf_7 ?_
  refine g_iload_n C dX0_signalOf_10 rfl ?_
  refine g_iald C 6 0 rfl rfl kw rfl (by omega) (by decide) (wx kw) rfl dX0_signalOf_11 ?_
  refine g_isub C ((cx kc) - (wx kw)) dX0_signalOf_12 rfl ?_
  refine g_mabs C (ab ((cx kc) - (wx kw))) (C.ts _ (by decide +kernel)) (C.ts _ (by decide +kernel)) (C.ts _ (by decide +kernel)) (C.ts _ (by decide +kernel)) (Nat.le_of_ble_eq_true rfl) (Nat.le_of_ble_eq_true rfl) (Nat.le_of_ble_eq_true rfl) (Nat.le_of_ble_eq_true rfl) rfl dX0_signalOf_13 ?_
  refine g_aload_n C dX0_signalOf_16 rfl ?_
  refine g_get C 0 iX0_signalOf_X0 rfl rfl 1 (by decide) f15 rfl dX0_signalOf_17 ?_
  refine g_iload_n C dX0_signalOf_20 rfl ?_
  refine g_iald C 2 0 rfl rfl kc rfl (by omega) (by decide) (cy kc) rfl dX0_signalOf_21 ?_
  refine g_aload_n C dX0_signalOf_22 rfl ?_
  refine g_get C 0 iX0_signalOf_X0 rfl rfl 7 (by decide) f31 rfl dX0_signalOf_23 ?_
  refine g_iload_n C dX0_signalOf_26 rfl ?_
  refine g_iald C 7 0 rfl rfl kw rfl (by omega) (by decide) (wy kw) rfl dX0_signalOf_27 ?_
  refine g_isub C ((cy kc) - (wy kw)) dX0_signalOf_28 rfl ?_
  refine g_mabs C (ab ((cy kc) - (wy kw))) (C.ts _ (by decide +kernel)) (C.ts _ (by decide +kernel)) (C.ts _ (by decide +kernel)) (C.ts _ (by decide +kernel)) (Nat.le_of_ble_eq_true rfl) (Nat.le_of_ble_eq_true rfl) (Nat.le_of_ble_eq_true rfl) (Nat.le_of_ble_eq_true rfl) rfl dX0_signalOf_29 ?_
  refine g_iadd C ((ab ((cx kc) - (wx kw))) + (ab ((cy kc) - (wy kw)))) dX0_signalOf_32 rfl ?_
  refine g_istore_n C [some (.ref (a 0)), some (.int (nI kc)), some (.int (nI kw)), some (.int ((ab ((cx kc) - (wx kw))) + (ab ((cy kc) - (wy kw)))))] dX0_signalOf_33 (by decide) rfl rfl ?_
  refine g_sipush C 16000 dX0_signalOf_34 (by decide +kernel) ?_
  refine g_iload_n C dX0_signalOf_37 rfl ?_
  refine g_iconst C 2 dX0_signalOf_38 (by decide +kernel) ?_
  refine g_iadd C (((ab ((cx kc) - (wx kw))) + (ab ((cy kc) - (wy kw)))) + 2) dX0_signalOf_39 rfl ?_
  refine g_iload_n C dX0_signalOf_40 rfl ?_
  refine g_iconst C 2 dX0_signalOf_41 (by decide +kernel) ?_
  refine g_iadd C (((ab ((cx kc) - (wx kw))) + (ab ((cy kc) - (wy kw)))) + 2) dX0_signalOf_42 rfl ?_
  refine g_imul C ((((ab ((cx kc) - (wx kw))) + (ab ((cy kc) - (wy kw)))) + 2) * (((ab ((cx kc) - (wx kw))) + (ab ((cy kc) - (wy kw)))) + 2)) dX0_signalOf_43 rfl ?_
  refine g_idiv C (16000 / ((((ab ((cx kc) - (wx kw))) + (ab ((cy kc) - (wy kw)))) + 2) * (((ab ((cx kc) - (wx kw))) + (ab ((cy kc) - (wy kw)))) + 2))) dX0_signalOf_44 hd rfl ?_
  exact g_iret C hret dX0_signalOf_45 (Nat.le_of_ble_eq_true rfl) (Nat.le_of_ble_eq_true rfl) ⟨rfl, rfl⟩
theorem iX0_disturbances_X0 : ∀ w ∈ u_ws RX0 TX0 13, w ∈ wsX0_disturbances := by decide +kernel
set_option maxHeartbeats 1000000 in
set_option maxRecDepth 100000 in
/-- the disturbances of a cell for a walker -/
theorem t_X0_disturbances {l : Launch} {D : va_G} {cI cZ cJ cG cW : ClassId} {a r : Nat → Nat} {nc nw : Nat} {cx cy ch rm on wx wy dm sv mu : Nat → Int32} {qq : Nat → Nat → Int32} {kc kw : Nat} (h5 : nc ≤ 5) (hc : kc < nc) (h6 : kw < 6) (hg : ∀ u, u < nc → ¬ dsq (cx u) (cy u) (wx kw) (wy kw) = 0) : CtI l yX0_disturbances wsX0_disturbances 2 63 0 0 D (T5 cI cZ cJ cG cW) [.ref (a 0), .int (nI kc), .int (nI kw)] (wL cI cZ cG a r nc nw cx cy ch rm on wx wy dm sv mu qq) (fun rv wv => rv = fdi ch on mu (sgw cx cy wx wy kw) kc nc ∧ wv = (wL cI cZ cG a r nc nw cx cy ch rm on wx wy dm sv mu qq)) := by
  refine ctI_of (cc := cX0_disturbances) (maxL := 5) RX0 2 [some (.ref (a 0)), some (.int (nI kc)), some (.int (nI kw)), none, none] (by decide +kernel) rfl rfl (Nat.le_of_ble_eq_true rfl) rfl (fun p_ e_ s_ m_ as_ bl_ me_ co_ C hret => ?_)
  have f18 := C.ts (.fieldLink RX0 18 "CellPlanner$Land" "channel" "[I") (by decide +kernel)
  have f24 := C.ts (.fieldLink RX0 24 "CellPlanner$Land" "on" "[Z") (by decide +kernel)
  have f40 := C.ts (.fieldLink RX0 40 "CellPlanner$Land" "measuredUse" "[I") (by decide +kernel)
  have f48 := C.ts (.fieldLink RX0 48 "CellPlanner$Land" "cells" "I") (by decide +kernel)
  refine g_iconst C 0 dX0_disturbances_0 (by decide +kernel) ?_
  refine g_istore_n C [some (.ref (a 0)), some (.int (nI kc)), some (.int (nI kw)), some (.int 0), none] dX0_disturbances_1 (by decide) rfl rfl ?_
  refine g_iconst C 0 dX0_disturbances_2 (by decide +kernel) ?_
  refine g_istore C [some (.ref (a 0)), some (.int (nI kc)), some (.int (nI kw)), some (.int 0), some (.int 0)] dX0_disturbances_3 (by decide) rfl rfl ?_
  refine g_loop2 0 0 (fun (i : Nat) (x : Int32) => i ≤ nc ∧ x = fdi ch on mu (sgw cx cy wx wy kw) kc i) (fun (i : Nat) (x : Int32) => (wL cI cZ cG a r nc nw cx cy ch rm on wx wy dm sv mu qq)) (fun (i : Nat) (x : Int32) => [some (.ref (a 0)), some (.int (nI kc)), some (.int (nI kw)), some (.int x), some (.int (nI i))]) (fun (i : Nat) (x : Int32) => nc - i) ⟨Nat.zero_le _, rfl⟩ rfl rfl (fun i x hI ih => ?_)
  obtain ⟨h1, h2⟩ := hI
  refine g_iload C dX0_disturbances_5 rfl ?_
  refine g_aload_n C dX0_disturbances_7 rfl ?_
  refine g_get C 0 iX0_disturbances_X0 rfl rfl 5 (by decide) f48 rfl dX0_disturbances_8 ?_
  refine g_icmp_ge C 73 dX0_disturbances_11 (by decide) (fun c_11 => ?_) (fun c_11 => ?_)
  · skip
    have c_11 : nc ≤ i := (nI_leI (by omega) (by omega)).mp c_11
    refine g_iload_n C dX0_disturbances_73 rfl ?_
    exact g_iret C hret dX0_disturbances_74 (Nat.le_of_ble_eq_true rfl) (Nat.le_of_ble_eq_true rfl) ⟨(by rw [h2, show i = nc by omega]), rfl⟩
  · skip
    have c_11 : ¬ (nc ≤ i) := fun h9 => c_11 ((nI_leI (by omega) (by omega)).mpr h9)
    refine g_iload C dX0_disturbances_14 rfl ?_
    refine g_iload_n C dX0_disturbances_16 rfl ?_
    refine g_icmp_eq C 67 dX0_disturbances_17 (by decide) (fun c_17 => ?_) (fun c_17 => ?_)
    · skip
      have c_17 : i = kc := (nI_eq (by omega) (by omega)).mp c_17
      refine g_iinc C (nI (i + 1)) [some (.ref (a 0)), some (.int (nI kc)), some (.int (nI kw)), some (.int x), some (.int (nI (i + 1)))] dX0_disturbances_67 rfl (nI_1 i) (by decide) rfl rfl ?_
      refine g_goto C 5 dX0_disturbances_70 (by decide) ?_
      exact ih (i + 1) x ⟨by omega, by first | rw [fdi, if_pos c_17, h2] | rw [fdi, if_neg c_17, if_pos c_27, h2] | rw [fdi, if_neg c_17, if_neg c_27, if_neg c_43, h2]⟩ (by omega)
    · skip
      have c_17 : ¬ (i = kc) := fun h9 => c_17 ((nI_eq (by omega) (by omega)).mpr h9)
      refine g_aload_n C dX0_disturbances_20 rfl ?_
      refine g_get C 0 iX0_disturbances_X0 rfl rfl 4 (by decide) f24 rfl dX0_disturbances_21 ?_
      refine g_iload C dX0_disturbances_24 rfl ?_
      refine g_zald C 5 1 rfl rfl i rfl (by omega) (by decide) (on i) rfl dX0_disturbances_26 ?_
      refine g_if_eq C 67 dX0_disturbances_27 (by decide) (fun c_27 => ?_) (fun c_27 => ?_)
      · skip
        refine g_iinc C (nI (i + 1)) [some (.ref (a 0)), some (.int (nI kc)), some (.int (nI kw)), some (.int x), some (.int (nI (i + 1)))] dX0_disturbances_67 rfl (nI_1 i) (by decide) rfl rfl ?_
        refine g_goto C 5 dX0_disturbances_70 (by decide) ?_
        exact ih (i + 1) x ⟨by omega, by first | rw [fdi, if_pos c_17, h2] | rw [fdi, if_neg c_17, if_pos c_27, h2] | rw [fdi, if_neg c_17, if_neg c_27, if_neg c_43, h2]⟩ (by omega)
      · skip
        refine g_aload_n C dX0_disturbances_30 rfl ?_
        refine g_get C 0 iX0_disturbances_X0 rfl rfl 2 (by decide) f18 rfl dX0_disturbances_31 ?_
        refine g_iload C dX0_disturbances_34 rfl ?_
        refine g_iald C 3 0 rfl rfl i rfl (by omega) (by decide) (ch i) rfl dX0_disturbances_36 ?_
        refine g_aload_n C dX0_disturbances_37 rfl ?_
        refine g_get C 0 iX0_disturbances_X0 rfl rfl 2 (by decide) f18 rfl dX0_disturbances_38 ?_
        refine g_iload_n C dX0_disturbances_41 rfl ?_
        refine g_iald C 3 0 rfl rfl kc rfl (by omega) (by decide) (ch kc) rfl dX0_disturbances_42 ?_
        refine g_icmp_ne C 67 dX0_disturbances_43 (by decide) (fun c_43 => ?_) (fun c_43 => ?_)
        · skip
          refine g_iinc C (nI (i + 1)) [some (.ref (a 0)), some (.int (nI kc)), some (.int (nI kw)), some (.int x), some (.int (nI (i + 1)))] dX0_disturbances_67 rfl (nI_1 i) (by decide) rfl rfl ?_
          refine g_goto C 5 dX0_disturbances_70 (by decide) ?_
          exact ih (i + 1) x ⟨by omega, by first | rw [fdi, if_pos c_17, h2] | rw [fdi, if_neg c_17, if_pos c_27, h2] | rw [fdi, if_neg c_17, if_neg c_27, if_neg c_43, h2]⟩ (by omega)
        · skip
          refine g_iload_n C dX0_disturbances_46 rfl ?_
          refine g_aload_n C dX0_disturbances_47 rfl ?_
          refine g_iload C dX0_disturbances_48 rfl ?_
          refine g_iload_n C dX0_disturbances_50 rfl ?_
          refine g_callVi C [] (wL cI cZ cG a r nc nw cx cy ch rm on wx wy dm sv mu qq) [.int (nI i), .int (nI kw)] (t_X0_signalOf (by omega) h6 (hg i (by omega))) rfl rfl (cwV 2 C.ts gX0_disturbances_X0_signalOf rfl rfl rfl (by decide +kernel) ⟨Nat.le_of_ble_eq_true rfl, Nat.le_of_ble_eq_true rfl⟩) rfl rfl rfl (Nat.le_of_ble_eq_true rfl) dX0_disturbances_51 ⟨Nat.le_of_ble_eq_true rfl, Nat.le_of_ble_eq_true rfl⟩ (fun rv1 wv1 hp1 => ?_)
          obtain ⟨rfl, rfl⟩ := hp1
          refine g_aload_n C dX0_disturbances_54 rfl ?_
          refine g_get C 0 iX0_disturbances_X0 rfl rfl 11 (by decide) f40 rfl dX0_disturbances_55 ?_
          refine g_iload C dX0_disturbances_58 rfl ?_
          refine g_iald C 10 0 rfl rfl i rfl (by omega) (by decide) (mu i) rfl dX0_disturbances_60 ?_
          refine g_imul C ((sg cx cy wx wy i kw) * (mu i)) dX0_disturbances_61 rfl ?_
          refine g_bipush C 100 dX0_disturbances_62 (by decide +kernel) ?_
          refine g_idiv C (((sg cx cy wx wy i kw) * (mu i)) / 100) dX0_disturbances_64 (by decide) rfl ?_
          refine g_iadd C (x + (((sg cx cy wx wy i kw) * (mu i)) / 100)) dX0_disturbances_65 rfl ?_
          refine g_istore_n C [some (.ref (a 0)), some (.int (nI kc)), some (.int (nI kw)), some (.int (x + (((sg cx cy wx wy i kw) * (mu i)) / 100))), some (.int (nI i))] dX0_disturbances_66 (by decide) rfl rfl ?_
          refine g_iinc C (nI (i + 1)) [some (.ref (a 0)), some (.int (nI kc)), some (.int (nI kw)), some (.int (x + (((sg cx cy wx wy i kw) * (mu i)) / 100))), some (.int (nI (i + 1)))] dX0_disturbances_67 rfl (nI_1 i) (by decide) rfl rfl ?_
          refine g_goto C 5 dX0_disturbances_70 (by decide) ?_
          exact ih (i + 1) (x + (((sg cx cy wx wy i kw) * (mu i)) / 100)) ⟨by omega, by rw [fdi, if_neg c_17, if_neg c_27, if_pos c_43, h2] <;> rfl⟩ (by omega)
theorem iX0_measure_X0 : ∀ w ∈ u_ws RX0 TX0 13, w ∈ wsX0_measure := by decide +kernel
set_option maxHeartbeats 1000000 in
set_option maxRecDepth 100000 in
/-- all uses and qualities of now -/
theorem t_X0_measure {l : Launch} {D : va_G} {cI cZ cJ cG cW : ClassId} {a r : Nat → Nat} {nc nw : Nat} {cx cy ch rm on wx wy dm sv mu : Nat → Int32} {qq : Nat → Nat → Int32}  (h5 : nc ≤ 5) (h6 : nw ≤ 6) (hr : ∀ c, c < nc → ¬ rm c ≤ 0) (hg : ∀ c w, c < nc → w < nw → ¬ dsq (cx c) (cy c) (wx w) (wy w) = 0) (hq : ∀ c w, c < nc → w < nw → ¬ 10 + fdi ch on (fil nc (fus rm sv dm nw) mu) (sgw cx cy wx wy w) c nc = 0) : CtV l yX0_measure wsX0_measure 3 87 0 0 D (T5 cI cZ cJ cG cW) [.ref (a 0)] (wL cI cZ cG a r nc nw cx cy ch rm on wx wy dm sv mu qq) (fun wv tv => wv = (wL cI cZ cG a r nc nw cx cy ch rm on wx wy dm sv (fil nc (fus rm sv dm nw) mu) (fil2 nw nc (fun w c => fqu cx cy ch on wx wy (fil nc (fus rm sv dm nw) mu) nc w c) qq)) ∧ tv = (T5 cI cZ cJ cG cW)) := by
  refine ctV_of (cc := cX0_measure) (maxL := 3) RX0 2 [some (.ref (a 0)), none, none] (by decide +kernel) rfl rfl (Nat.le_of_ble_eq_true rfl) rfl (fun p_ e_ s_ m_ as_ bl_ me_ co_ C hret hini => ?_)
  have f40 := C.ts (.fieldLink RX0 40 "CellPlanner$Land" "measuredUse" "[I") (by decide +kernel)
  have f45 := C.ts (.fieldLink RX0 45 "CellPlanner$Land" "quality" "[[I") (by decide +kernel)
  have f48 := C.ts (.fieldLink RX0 48 "CellPlanner$Land" "cells" "I") (by decide +kernel)
  have f52 := C.ts (.fieldLink RX0 52 "CellPlanner$Land" "walkers" "I") (by decide +kernel)
  refine g_iconst C 0 dX0_measure_0 (by decide +kernel) ?_
  refine g_istore_n C [some (.ref (a 0)), some (.int 0), none] dX0_measure_1 (by decide) rfl rfl ?_
  refine g_loop2 0 mu (fun (i : Nat) (M : Nat → Int32) => i ≤ nc ∧ ∀ j, M j = if j < i then fus rm sv dm nw j else mu j) (fun (i : Nat) (M : Nat → Int32) => (wL cI cZ cG a r nc nw cx cy ch rm on wx wy dm sv M qq)) (fun (i : Nat) (M : Nat → Int32) => [some (.ref (a 0)), some (.int (nI i)), none]) (fun (i : Nat) (M : Nat → Int32) => nc - i) ⟨Nat.zero_le _, fun j => (if_neg (Nat.not_lt_zero j)).symm⟩ rfl rfl (fun i M hI ih => ?_)
  obtain ⟨h1, h2⟩ := hI
  refine g_iload_n C dX0_measure_2 rfl ?_
  refine g_aload_n C dX0_measure_3 rfl ?_
  refine g_get C 0 iX0_measure_X0 rfl rfl 5 (by decide) f48 rfl dX0_measure_4 ?_
  refine g_icmp_ge C 27 dX0_measure_7 (by decide) (fun c_7 => ?_) (fun c_7 => ?_)
  · skip
    have c_7 : nc ≤ i := (nI_leI (by omega) (by omega)).mp c_7
    have hM : M = (fil nc (fus rm sv dm nw) mu) := funext fun j => by rw [h2, show i = nc by omega]; rfl
    subst hM
    refine g_iconst C 0 dX0_measure_27 (by decide +kernel) ?_
    refine g_istore_n C [some (.ref (a 0)), some (.int 0), none] dX0_measure_28 (by decide) rfl rfl ?_
    refine g_loop2 0 qq (fun (u : Nat) (Z : Nat → Nat → Int32) => u ≤ nw ∧ ∀ j c, Z j c = if j < u ∧ c < nc then fqu cx cy ch on wx wy (fil nc (fus rm sv dm nw) mu) nc j c else qq j c) (fun (u : Nat) (Z : Nat → Nat → Int32) => (wL cI cZ cG a r nc nw cx cy ch rm on wx wy dm sv (fil nc (fus rm sv dm nw) mu) Z)) (fun (u : Nat) (Z : Nat → Nat → Int32) => [some (.ref (a 0)), some (.int (nI u)), none]) (fun (u : Nat) (Z : Nat → Nat → Int32) => nw - u) ⟨Nat.zero_le _, fun j c => (if_neg (fun h => Nat.not_lt_zero _ h.1)).symm⟩ rfl rfl (fun u Z hI2 ih2 => ?_)
    obtain ⟨g1, g2⟩ := hI2
    refine g_iload_n C dX0_measure_29 rfl ?_
    refine g_aload_n C dX0_measure_30 rfl ?_
    refine g_get C 0 iX0_measure_X0 rfl rfl 10 (by decide) f52 rfl dX0_measure_31 ?_
    refine g_icmp_ge C 86 dX0_measure_34 (by decide) (fun c_34 => ?_) (fun c_34 => ?_)
    · skip
      have c_34 : nw ≤ u := (nI_leI (by omega) (by omega)).mp c_34
      exact g_vret C hret dX0_measure_86 (Nat.le_of_ble_eq_true rfl) (Nat.le_of_ble_eq_true rfl) ⟨(by rw [show Z = (fil2 nw nc (fun w c => fqu cx cy ch on wx wy (fil nc (fus rm sv dm nw) mu) nc w c) qq) from funext fun j => funext fun c => by rw [g2, show u = nw by omega]; rfl]), rfl⟩
    · skip
      have c_34 : ¬ (nw ≤ u) := fun h9 => c_34 ((nI_leI (by omega) (by omega)).mpr h9)
      refine g_iconst C 0 dX0_measure_37 (by decide +kernel) ?_
      refine g_istore_n C [some (.ref (a 0)), some (.int (nI u)), some (.int 0)] dX0_measure_38 (by decide) rfl rfl ?_
      refine g_loop2 0 Z (fun (v : Nat) (Y : Nat → Nat → Int32) => v ≤ nc ∧ ∀ j c, Y j c = if j = u ∧ c < v then fqu cx cy ch on wx wy (fil nc (fus rm sv dm nw) mu) nc u c else Z j c) (fun (v : Nat) (Y : Nat → Nat → Int32) => (wL cI cZ cG a r nc nw cx cy ch rm on wx wy dm sv (fil nc (fus rm sv dm nw) mu) Y)) (fun (v : Nat) (Y : Nat → Nat → Int32) => [some (.ref (a 0)), some (.int (nI u)), some (.int (nI v))]) (fun (v : Nat) (Y : Nat → Nat → Int32) => nc - v) ⟨Nat.zero_le _, fun j c => (if_neg (fun h => Nat.not_lt_zero _ h.2)).symm⟩ rfl rfl (fun v Y hI3 ih3 => ?_)
      obtain ⟨e1, e2⟩ := hI3
      refine g_iload_n C dX0_measure_39 rfl ?_
      refine g_aload_n C dX0_measure_40 rfl ?_
      refine g_get C 0 iX0_measure_X0 rfl rfl 5 (by decide) f48 rfl dX0_measure_41 ?_
      refine g_icmp_ge C 80 dX0_measure_44 (by decide) (fun c_44 => ?_) (fun c_44 => ?_)
      · skip
        have c_44 : nc ≤ v := (nI_leI (by omega) (by omega)).mp c_44
        refine g_iinc C (nI (u + 1)) [some (.ref (a 0)), some (.int (nI (u + 1))), some (.int (nI v))] dX0_measure_80 rfl (nI_1 u) (by decide) rfl rfl ?_
        refine g_goto C 29 dX0_measure_83 (by decide) ?_
        refine g_mask [true, true, false] rfl ?_
        exact ih2 (u + 1) Y ⟨by omega, fil2_row (by omega) g2 e2⟩ (by omega)
      · skip
        have c_44 : ¬ (nc ≤ v) := fun h9 => c_44 ((nI_leI (by omega) (by omega)).mpr h9)
        refine g_aload_n C dX0_measure_47 rfl ?_
        refine g_get C 0 iX0_measure_X0 rfl rfl 12 (by decide) f45 rfl dX0_measure_48 ?_
        refine g_iload_n C dX0_measure_51 rfl ?_
        refine g_aald C 11 3 rfl rfl u rfl (by omega) (by decide) (r u) (if_pos (by omega)) dX0_measure_52 ?_
        refine g_iload_n C dX0_measure_53 rfl ?_
        refine g_bipush C 100 dX0_measure_54 (by decide +kernel) ?_
        refine g_aload_n C dX0_measure_56 rfl ?_
        refine g_iload_n C dX0_measure_57 rfl ?_
        refine g_iload_n C dX0_measure_58 rfl ?_
        refine g_callVi C [] (wL cI cZ cG a r nc nw cx cy ch rm on wx wy dm sv (fil nc (fus rm sv dm nw) mu) Y) [.int (nI v), .int (nI u)] (t_X0_signalOf (by omega) (by omega) (hg v u (by omega) (by omega))) rfl rfl (cwV 2 C.ts gX0_measure_X0_signalOf rfl rfl rfl (by decide +kernel) ⟨Nat.le_of_ble_eq_true rfl, Nat.le_of_ble_eq_true rfl⟩) rfl rfl rfl (Nat.le_of_ble_eq_true rfl) dX0_measure_59 ⟨Nat.le_of_ble_eq_true rfl, Nat.le_of_ble_eq_true rfl⟩ (fun rv1 wv1 hp1 => ?_)
        obtain ⟨rfl, rfl⟩ := hp1
        refine g_imul C (100 * (sg cx cy wx wy v u)) dX0_measure_62 rfl ?_
        refine g_bipush C 10 dX0_measure_63 (by decide +kernel) ?_
        refine g_aload_n C dX0_measure_65 rfl ?_
        refine g_iload_n C dX0_measure_66 rfl ?_
        refine g_iload_n C dX0_measure_67 rfl ?_
        refine g_callVi C [] (wL cI cZ cG a r nc nw cx cy ch rm on wx wy dm sv (fil nc (fus rm sv dm nw) mu) Y) [.int (nI v), .int (nI u)] (t_X0_disturbances h5 (by omega) (by omega) (fun o ho => hg o u ho (by omega))) rfl rfl (cwV 2 C.ts gX0_measure_X0_disturbances rfl rfl rfl (by decide +kernel) ⟨Nat.le_of_ble_eq_true rfl, Nat.le_of_ble_eq_true rfl⟩) rfl rfl rfl (Nat.le_of_ble_eq_true rfl) dX0_measure_68 ⟨Nat.le_of_ble_eq_true rfl, Nat.le_of_ble_eq_true rfl⟩ (fun rv2 wv2 hp2 => ?_)
        obtain ⟨rfl, rfl⟩ := hp2
        refine g_iadd C (10 + (fdi ch on (fil nc (fus rm sv dm nw) mu) (sgw cx cy wx wy u) v nc)) dX0_measure_71 rfl ?_
        refine g_idiv C ((100 * (sg cx cy wx wy v u)) / (10 + (fdi ch on (fil nc (fus rm sv dm nw) mu) (sgw cx cy wx wy u) v nc))) dX0_measure_72 (hq v u (by omega) (by omega)) rfl ?_
        refine g_iast C (12 + u) 0 (wL_row (by omega)) rfl v rfl (by omega) (by decide) (wL cI cZ cG a r nc nw cx cy ch rm on wx wy dm sv (fil nc (fus rm sv dm nw) mu) (up2 Y u v ((100 * (sg cx cy wx wy v u)) / (10 + (fdi ch on (fil nc (fus rm sv dm nw) mu) (sgw cx cy wx wy u) v nc))))) (wL_set (by omega)) dX0_measure_73 ?_
        refine g_iinc C (nI (v + 1)) [some (.ref (a 0)), some (.int (nI u)), some (.int (nI (v + 1)))] dX0_measure_74 rfl (nI_1 v) (by decide) rfl rfl ?_
        refine g_goto C 39 dX0_measure_77 (by decide) ?_
        exact ih3 (v + 1) (up2 Y u v ((100 * (sg cx cy wx wy v u)) / (10 + (fdi ch on (fil nc (fus rm sv dm nw) mu) (sgw cx cy wx wy u) v nc)))) ⟨by omega, fil2_cell e2 rfl⟩ (by omega)
  · skip
    have c_7 : ¬ (nc ≤ i) := fun h9 => c_7 ((nI_leI (by omega) (by omega)).mpr h9)
    refine g_aload_n C dX0_measure_10 rfl ?_
    refine g_get C 0 iX0_measure_X0 rfl rfl 11 (by decide) f40 rfl dX0_measure_11 ?_
    refine g_iload_n C dX0_measure_14 rfl ?_
    refine g_aload_n C dX0_measure_15 rfl ?_
    refine g_iload_n C dX0_measure_16 rfl ?_
    refine g_callVi C [] (wL cI cZ cG a r nc nw cx cy ch rm on wx wy dm sv M qq) [.int (nI i)] (t_X0_useOf h6 (by omega) (hr i (by omega))) rfl rfl (cwV 1 C.ts gX0_measure_X0_useOf rfl rfl rfl (by decide +kernel) ⟨Nat.le_of_ble_eq_true rfl, Nat.le_of_ble_eq_true rfl⟩) rfl rfl rfl (Nat.le_of_ble_eq_true rfl) dX0_measure_17 ⟨Nat.le_of_ble_eq_true rfl, Nat.le_of_ble_eq_true rfl⟩ (fun rv3 wv3 hp3 => ?_)
    obtain ⟨rfl, rfl⟩ := hp3
    refine g_iast C 10 0 rfl rfl i rfl (by omega) (by decide) (wL cI cZ cG a r nc nw cx cy ch rm on wx wy dm sv (upd M i (fus rm sv dm nw i)) qq) rfl dX0_measure_20 ?_
    refine g_iinc C (nI (i + 1)) [some (.ref (a 0)), some (.int (nI (i + 1))), none] dX0_measure_21 rfl (nI_1 i) (by decide) rfl rfl ?_
    refine g_goto C 2 dX0_measure_24 (by decide) ?_
    exact ih (i + 1) (upd M i (fus rm sv dm nw i)) ⟨by omega, fil_step h2 rfl⟩ (by omega)
theorem iX0_couldTake_X0 : ∀ w ∈ u_ws RX0 TX0 13, w ∈ wsX0_couldTake := by decide +kernel
set_option maxHeartbeats 1000000 in
set_option maxRecDepth 100000 in
/-- whether a cell could take a walker -/
theorem t_X0_couldTake {l : Launch} {D : va_G} {cI cZ cJ cG cW : ClassId} {a r : Nat → Nat} {nc nw : Nat} {cx cy ch rm on wx wy dm sv mu : Nat → Int32} {qq : Nat → Nat → Int32} {kc kw : Nat} (h5 : kc < 5) (h6 : nw ≤ 6) (hw : kw < 6) : CtI l yX0_couldTake wsX0_couldTake 1 23 0 0 D (T5 cI cZ cJ cG cW) [.ref (a 0), .int (nI kc), .int (nI kw)] (wL cI cZ cG a r nc nw cx cy ch rm on wx wy dm sv mu qq) (fun rv wv => rv = ftk on sv dm rm nw kw kc ∧ wv = (wL cI cZ cG a r nc nw cx cy ch rm on wx wy dm sv mu qq)) := by
  refine ctI_of (cc := cX0_couldTake) (maxL := 3) RX0 0 [some (.ref (a 0)), some (.int (nI kc)), some (.int (nI kw))] (by decide +kernel) rfl rfl (Nat.le_of_ble_eq_true rfl) rfl (fun p_ e_ s_ m_ as_ bl_ me_ co_ C hret => ?_)
  have f21 := C.ts (.fieldLink RX0 21 "CellPlanner$Land" "room" "[I") (by decide +kernel)
  have f24 := C.ts (.fieldLink RX0 24 "CellPlanner$Land" "on" "[Z") (by decide +kernel)
  have f34 := C.ts (.fieldLink RX0 34 "CellPlanner$Land" "demand" "[I") (by decide +kernel)
  have f37 := C.ts (.fieldLink RX0 37 "CellPlanner$Land" "server" "[I") (by decide +kernel)
  refine g_aload_n C dX0_couldTake_0 rfl ?_
  refine g_get C 0 iX0_couldTake_X0 rfl rfl 4 (by decide) f24 rfl dX0_couldTake_1 ?_
  refine g_iload_n C dX0_couldTake_4 rfl ?_
  refine g_zald C 5 1 rfl rfl kc rfl (by omega) (by decide) (on kc) rfl dX0_couldTake_5 ?_
  refine g_if_eq C 44 dX0_couldTake_6 (by decide) (fun c_6 => ?_) (fun c_6 => ?_)
  · skip
    refine g_iconst C 0 dX0_couldTake_44 (by decide +kernel) ?_
    exact g_zret C hret rfl dX0_couldTake_45 (Nat.le_of_ble_eq_true rfl) (Nat.le_of_ble_eq_true rfl) ⟨(by unfold ftk; simp_all), rfl⟩
  · skip
    refine g_aload_n C dX0_couldTake_9 rfl ?_
    refine g_get C 0 iX0_couldTake_X0 rfl rfl 9 (by decide) f37 rfl dX0_couldTake_10 ?_
    refine g_iload_n C dX0_couldTake_13 rfl ?_
    refine g_iald C 9 0 rfl rfl kw rfl (by omega) (by decide) (sv kw) rfl dX0_couldTake_14 ?_
    refine g_iload_n C dX0_couldTake_15 rfl ?_
    refine g_icmp_eq C 44 dX0_couldTake_16 (by decide) (fun c_16 => ?_) (fun c_16 => ?_)
    · skip
      refine g_iconst C 0 dX0_couldTake_44 (by decide +kernel) ?_
      exact g_zret C hret rfl dX0_couldTake_45 (Nat.le_of_ble_eq_true rfl) (Nat.le_of_ble_eq_true rfl) ⟨(by unfold ftk; simp_all), rfl⟩
    · skip
      refine g_aload_n C dX0_couldTake_19 rfl ?_
      refine g_iload_n C dX0_couldTake_20 rfl ?_
      refine g_callVi C [] (wL cI cZ cG a r nc nw cx cy ch rm on wx wy dm sv mu qq) [.int (nI kc)] (t_X0_loadOf h6) rfl rfl (cwV 1 C.ts gX0_couldTake_X0_loadOf rfl rfl rfl (by decide +kernel) ⟨Nat.le_of_ble_eq_true rfl, Nat.le_of_ble_eq_true rfl⟩) rfl rfl rfl (Nat.le_of_ble_eq_true rfl) dX0_couldTake_21 ⟨Nat.le_of_ble_eq_true rfl, Nat.le_of_ble_eq_true rfl⟩ (fun rv1 wv1 hp1 => ?_)
      obtain ⟨rfl, rfl⟩ := hp1
      refine g_aload_n C dX0_couldTake_24 rfl ?_
      refine g_get C 0 iX0_couldTake_X0 rfl rfl 8 (by decide) f34 rfl dX0_couldTake_25 ?_
      refine g_iload_n C dX0_couldTake_28 rfl ?_
      refine g_iald C 8 0 rfl rfl kw rfl (by omega) (by decide) (dm kw) rfl dX0_couldTake_29 ?_
      refine g_iadd C ((fld sv dm (nI kc) nw) + (dm kw)) dX0_couldTake_30 rfl ?_
      refine g_aload_n C dX0_couldTake_31 rfl ?_
      refine g_get C 0 iX0_couldTake_X0 rfl rfl 3 (by decide) f21 rfl dX0_couldTake_32 ?_
      refine g_iload_n C dX0_couldTake_35 rfl ?_
      refine g_iald C 4 0 rfl rfl kc rfl (by omega) (by decide) (rm kc) rfl dX0_couldTake_36 ?_
      refine g_icmp_gt C 44 dX0_couldTake_37 (by decide) (fun c_37 => ?_) (fun c_37 => ?_)
      · skip
        refine g_iconst C 0 dX0_couldTake_44 (by decide +kernel) ?_
        exact g_zret C hret rfl dX0_couldTake_45 (Nat.le_of_ble_eq_true rfl) (Nat.le_of_ble_eq_true rfl) ⟨(by unfold ftk; simp_all), rfl⟩
      · skip
        refine g_iconst C 1 dX0_couldTake_40 (by decide +kernel) ?_
        refine g_goto C 45 dX0_couldTake_41 (by decide) ?_
        exact g_zret C hret rfl dX0_couldTake_45 (Nat.le_of_ble_eq_true rfl) (Nat.le_of_ble_eq_true rfl) ⟨(by unfold ftk; simp_all), rfl⟩
theorem iX0_bestOther_X0 : ∀ w ∈ u_ws RX0 TX0 13, w ∈ wsX0_bestOther := by decide +kernel
set_option maxHeartbeats 1000000 in
set_option maxRecDepth 100000 in
/-- the best other cell for a walker -/
theorem t_X0_bestOther {l : Launch} {D : va_G} {cI cZ cJ cG cW : ClassId} {a r : Nat → Nat} {nc nw : Nat} {cx cy ch rm on wx wy dm sv mu : Nat → Int32} {qq : Nat → Nat → Int32} {kw : Nat} (h5 : nc ≤ 5) (h6 : nw ≤ 6) (hw : kw < 6) : CtI l yX0_bestOther wsX0_bestOther 2 45 0 0 D (T5 cI cZ cJ cG cW) [.ref (a 0), .int (nI kw)] (wL cI cZ cG a r nc nw cx cy ch rm on wx wy dm sv mu qq) (fun rv wv => rv = en (fbo (fun u => ftk on sv dm rm nw kw u) (qq kw) nc) ∧ wv = (wL cI cZ cG a r nc nw cx cy ch rm on wx wy dm sv mu qq)) := by
  refine ctI_of (cc := cX0_bestOther) (maxL := 4) RX0 2 [some (.ref (a 0)), some (.int (nI kw)), none, none] (by decide +kernel) rfl rfl (Nat.le_of_ble_eq_true rfl) rfl (fun p_ e_ s_ m_ as_ bl_ me_ co_ C hret => ?_)
  have f45 := C.ts (.fieldLink RX0 45 "CellPlanner$Land" "quality" "[[I") (by decide +kernel)
  have f48 := C.ts (.fieldLink RX0 48 "CellPlanner$Land" "cells" "I") (by decide +kernel)
  refine g_iconst C (-1) dX0_bestOther_0 (by decide +kernel) ?_
  refine g_istore_n C [some (.ref (a 0)), some (.int (nI kw)), some (.int ((-1))), none] dX0_bestOther_1 (by decide) rfl rfl ?_
  refine g_iconst C 0 dX0_bestOther_2 (by decide +kernel) ?_
  refine g_istore_n C [some (.ref (a 0)), some (.int (nI kw)), some (.int ((-1))), some (.int 0)] dX0_bestOther_3 (by decide) rfl rfl ?_
  refine g_loop2 0 none (fun (i : Nat) (y : Option Nat) => i ≤ nc ∧ y = fbo (fun u => ftk on sv dm rm nw kw u) (qq kw) i) (fun (i : Nat) (y : Option Nat) => (wL cI cZ cG a r nc nw cx cy ch rm on wx wy dm sv mu qq)) (fun (i : Nat) (y : Option Nat) => [some (.ref (a 0)), some (.int (nI kw)), some (.int (en y)), some (.int (nI i))]) (fun (i : Nat) (y : Option Nat) => nc - i) ⟨Nat.zero_le _, rfl⟩ rfl rfl (fun i y hI ih => ?_)
  obtain ⟨h1, h2⟩ := hI
  have h3 : ∀ z, y = some z → z < i := fun z hb => fbo_lt (h2 ▸ hb)
  refine g_iload_n C dX0_bestOther_4 rfl ?_
  refine g_aload_n C dX0_bestOther_5 rfl ?_
  refine g_get C 0 iX0_bestOther_X0 rfl rfl 5 (by decide) f48 rfl dX0_bestOther_6 ?_
  refine g_icmp_ge C 53 dX0_bestOther_9 (by decide) (fun c_9 => ?_) (fun c_9 => ?_)
  · skip
    have c_9 : nc ≤ i := (nI_leI (by omega) (by omega)).mp c_9
    refine g_iload_n C dX0_bestOther_53 rfl ?_
    exact g_iret C hret dX0_bestOther_54 (Nat.le_of_ble_eq_true rfl) (Nat.le_of_ble_eq_true rfl) ⟨(by rw [h2, show i = nc by omega]), rfl⟩
  · skip
    have c_9 : ¬ (nc ≤ i) := fun h9 => c_9 ((nI_leI (by omega) (by omega)).mpr h9)
    refine g_aload_n C dX0_bestOther_12 rfl ?_
    refine g_iload_n C dX0_bestOther_13 rfl ?_
    refine g_iload_n C dX0_bestOther_14 rfl ?_
    refine g_callVi C [] (wL cI cZ cG a r nc nw cx cy ch rm on wx wy dm sv mu qq) [.int (nI i), .int (nI kw)] (t_X0_couldTake (by omega) h6 hw) rfl rfl (cwV 2 C.ts gX0_bestOther_X0_couldTake rfl rfl rfl (by decide +kernel) ⟨Nat.le_of_ble_eq_true rfl, Nat.le_of_ble_eq_true rfl⟩) rfl rfl rfl (Nat.le_of_ble_eq_true rfl) dX0_bestOther_15 ⟨Nat.le_of_ble_eq_true rfl, Nat.le_of_ble_eq_true rfl⟩ (fun rv1 wv1 hp1 => ?_)
    obtain ⟨rfl, rfl⟩ := hp1
    refine g_if_eq C 47 dX0_bestOther_18 (by decide) (fun c_18 => ?_) (fun c_18 => ?_)
    · skip
      refine g_iinc C (nI (i + 1)) [some (.ref (a 0)), some (.int (nI kw)), some (.int (en y)), some (.int (nI (i + 1)))] dX0_bestOther_47 rfl (nI_1 i) (by decide) rfl rfl ?_
      refine g_goto C 4 dX0_bestOther_50 (by decide) ?_
      exact ih (i + 1) y ⟨by omega, by unfold fbo; first | rw [if_pos c_18, h2] | (rw [if_neg c_18, ← h2, hb]; exact (if_pos c_42).symm) | (rw [if_neg c_18, ← h2, hb]; exact (if_neg c_42).symm) | (rw [if_neg c_18, ← h2, hb0])⟩ (by omega)
    · skip
      refine g_iload_n C dX0_bestOther_21 rfl ?_
      refine g_iconst C (-1) dX0_bestOther_22 (by decide +kernel) ?_
      refine g_icmp_eq C 45 dX0_bestOther_23 (by decide) (fun c_23 => ?_) (fun c_23 => ?_)
      · skip
        have hb0 : y = none := en_none (fun z hb => by have := h3 z hb; omega) c_23
        refine g_iload_n C dX0_bestOther_45 rfl ?_
        refine g_istore_n C [some (.ref (a 0)), some (.int (nI kw)), some (.int (nI i)), some (.int (nI i))] dX0_bestOther_46 (by decide) rfl rfl ?_
        refine g_iinc C (nI (i + 1)) [some (.ref (a 0)), some (.int (nI kw)), some (.int (nI i)), some (.int (nI (i + 1)))] dX0_bestOther_47 rfl (nI_1 i) (by decide) rfl rfl ?_
        refine g_goto C 4 dX0_bestOther_50 (by decide) ?_
        exact ih (i + 1) (some i) ⟨by omega, by unfold fbo; first | rw [if_pos c_18, h2] | (rw [if_neg c_18, ← h2, hb]; exact (if_pos c_42).symm) | (rw [if_neg c_18, ← h2, hb]; exact (if_neg c_42).symm) | (rw [if_neg c_18, ← h2, hb0])⟩ (by omega)
      · skip
        obtain ⟨bb, hb⟩ := en_some c_23
        have hb2 := h3 bb hb
        refine g_aload_n C dX0_bestOther_26 rfl ?_
        refine g_get C 0 iX0_bestOther_X0 rfl rfl 12 (by decide) f45 rfl dX0_bestOther_27 ?_
        refine g_iload_n C dX0_bestOther_30 rfl ?_
        refine g_aald C 11 3 rfl rfl kw rfl hw (by decide) (r kw) (if_pos hw) dX0_bestOther_31 ?_
        refine g_iload_n C dX0_bestOther_32 rfl ?_
        refine g_iald C (12 + kw) 0 (wL_row hw) rfl i rfl (by omega) (by decide) (qq kw i) rfl dX0_bestOther_33 ?_
        refine g_aload_n C dX0_bestOther_34 rfl ?_
        refine g_get C 0 iX0_bestOther_X0 rfl rfl 12 (by decide) f45 rfl dX0_bestOther_35 ?_
        refine g_iload_n C dX0_bestOther_38 rfl ?_
        refine g_aald C 11 3 rfl rfl kw rfl hw (by decide) (r kw) (if_pos hw) dX0_bestOther_39 ?_
        refine g_iload_n C dX0_bestOther_40 rfl ?_
        refine g_iald C (12 + kw) 0 (wL_row hw) rfl bb (by rw [hb]; rfl) (by omega) (by decide) (qq kw bb) rfl dX0_bestOther_41 ?_
        refine g_icmp_le C 47 dX0_bestOther_42 (by decide) (fun c_42 => ?_) (fun c_42 => ?_)
        · skip
          refine g_iinc C (nI (i + 1)) [some (.ref (a 0)), some (.int (nI kw)), some (.int (en y)), some (.int (nI (i + 1)))] dX0_bestOther_47 rfl (nI_1 i) (by decide) rfl rfl ?_
          refine g_goto C 4 dX0_bestOther_50 (by decide) ?_
          exact ih (i + 1) y ⟨by omega, by unfold fbo; first | rw [if_pos c_18, h2] | (rw [if_neg c_18, ← h2, hb]; exact (if_pos c_42).symm) | (rw [if_neg c_18, ← h2, hb]; exact (if_neg c_42).symm) | (rw [if_neg c_18, ← h2, hb0])⟩ (by omega)
        · skip
          refine g_iload_n C dX0_bestOther_45 rfl ?_
          refine g_istore_n C [some (.ref (a 0)), some (.int (nI kw)), some (.int (nI i)), some (.int (nI i))] dX0_bestOther_46 (by decide) rfl rfl ?_
          refine g_iinc C (nI (i + 1)) [some (.ref (a 0)), some (.int (nI kw)), some (.int (nI i)), some (.int (nI (i + 1)))] dX0_bestOther_47 rfl (nI_1 i) (by decide) rfl rfl ?_
          refine g_goto C 4 dX0_bestOther_50 (by decide) ?_
          exact ih (i + 1) (some i) ⟨by omega, by unfold fbo; first | rw [if_pos c_18, h2] | (rw [if_neg c_18, ← h2, hb]; exact (if_pos c_42).symm) | (rw [if_neg c_18, ← h2, hb]; exact (if_neg c_42).symm) | (rw [if_neg c_18, ← h2, hb0])⟩ (by omega)
theorem iX0_addCell_X0 : ∀ w ∈ u_ws RX0 TX0 13, w ∈ wsX0_addCell := by decide +kernel
set_option maxHeartbeats 1000000 in
set_option maxRecDepth 100000 in
/-- a new cell -/
theorem t_X0_addCell {l : Launch} {D : va_G} {cI cZ cJ cG cW : ClassId} {a r : Nat → Nat} {nc nw : Nat} {cx cy ch rm on wx wy dm sv mu : Nat → Int32} {qq : Nat → Nat → Int32} {p0 p1 p2 p3 : Int32} (h5 : nc < 5) : CtI l yX0_addCell wsX0_addCell 0 0 0 0 D (T5 cI cZ cJ cG cW) [.ref (a 0), .int p0, .int p1, .int p2, .int p3] (wL cI cZ cG a r nc nw cx cy ch rm on wx wy dm sv mu qq) (fun rv wv => rv = nI nc ∧ wv = (wL cI cZ cG a r (nc + 1) nw (upd cx nc p0) (upd cy nc p1) (upd ch nc p2) (upd rm nc p3) (upd on nc 1) wx wy dm sv mu qq)) := by
  refine ctI_of (cc := cX0_addCell) (maxL := 6) RX0 1 [some (.ref (a 0)), some (.int p0), some (.int p1), some (.int p2), some (.int p3), none] (by decide +kernel) rfl rfl (Nat.le_of_ble_eq_true rfl) rfl (fun p_ e_ s_ m_ as_ bl_ me_ co_ C hret => ?_)
  have f9 := C.ts (.fieldLink RX0 9 "CellPlanner$Land" "cellX" "[I") (by decide +kernel)
  have f15 := C.ts (.fieldLink RX0 15 "CellPlanner$Land" "cellY" "[I") (by decide +kernel)
  have f18 := C.ts (.fieldLink RX0 18 "CellPlanner$Land" "channel" "[I") (by decide +kernel)
  have f21 := C.ts (.fieldLink RX0 21 "CellPlanner$Land" "room" "[I") (by decide +kernel)
  have f24 := C.ts (.fieldLink RX0 24 "CellPlanner$Land" "on" "[Z") (by decide +kernel)
  have f48 := C.ts (.fieldLink RX0 48 "CellPlanner$Land" "cells" "I") (by decide +kernel)
  refine g_aload_n C dX0_addCell_0 rfl ?_
  refine g_get C 0 iX0_addCell_X0 rfl rfl 5 (by decide) f48 rfl dX0_addCell_1 ?_
  refine g_istore C [some (.ref (a 0)), some (.int p0), some (.int p1), some (.int p2), some (.int p3), some (.int (nI nc))] dX0_addCell_4 (by decide) rfl rfl ?_
  refine g_aload_n C dX0_addCell_6 rfl ?_
  refine g_get C 0 iX0_addCell_X0 rfl rfl 0 (by decide) f9 rfl dX0_addCell_7 ?_
  refine g_iload C dX0_addCell_10 rfl ?_
  refine g_iload_n C dX0_addCell_12 rfl ?_
  refine g_iast C 1 0 rfl rfl nc rfl (by omega) (by decide) (wL cI cZ cG a r nc nw (upd cx nc p0) cy ch rm on wx wy dm sv mu qq) rfl dX0_addCell_13 ?_
  refine g_aload_n C dX0_addCell_14 rfl ?_
  refine g_get C 0 iX0_addCell_X0 rfl rfl 1 (by decide) f15 rfl dX0_addCell_15 ?_
  refine g_iload C dX0_addCell_18 rfl ?_
  refine g_iload_n C dX0_addCell_20 rfl ?_
  refine g_iast C 2 0 rfl rfl nc rfl (by omega) (by decide) (wL cI cZ cG a r nc nw (upd cx nc p0) (upd cy nc p1) ch rm on wx wy dm sv mu qq) rfl dX0_addCell_21 ?_
  refine g_aload_n C dX0_addCell_22 rfl ?_
  refine g_get C 0 iX0_addCell_X0 rfl rfl 2 (by decide) f18 rfl dX0_addCell_23 ?_
  refine g_iload C dX0_addCell_26 rfl ?_
  refine g_iload_n C dX0_addCell_28 rfl ?_
  refine g_iast C 3 0 rfl rfl nc rfl (by omega) (by decide) (wL cI cZ cG a r nc nw (upd cx nc p0) (upd cy nc p1) (upd ch nc p2) rm on wx wy dm sv mu qq) rfl dX0_addCell_29 ?_
  refine g_aload_n C dX0_addCell_30 rfl ?_
  refine g_get C 0 iX0_addCell_X0 rfl rfl 3 (by decide) f21 rfl dX0_addCell_31 ?_
  refine g_iload C dX0_addCell_34 rfl ?_
  refine g_iload C dX0_addCell_36 rfl ?_
  refine g_iast C 4 0 rfl rfl nc rfl (by omega) (by decide) (wL cI cZ cG a r nc nw (upd cx nc p0) (upd cy nc p1) (upd ch nc p2) (upd rm nc p3) on wx wy dm sv mu qq) rfl dX0_addCell_38 ?_
  refine g_aload_n C dX0_addCell_39 rfl ?_
  refine g_get C 0 iX0_addCell_X0 rfl rfl 4 (by decide) f24 rfl dX0_addCell_40 ?_
  refine g_iload C dX0_addCell_43 rfl ?_
  refine g_iconst C 1 dX0_addCell_45 (by decide +kernel) ?_
  refine g_zast C 5 1 rfl rfl nc rfl (by omega) (by decide) (wL cI cZ cG a r nc nw (upd cx nc p0) (upd cy nc p1) (upd ch nc p2) (upd rm nc p3) (upd on nc 1) wx wy dm sv mu qq) rfl dX0_addCell_46 ?_
  refine g_aload_n C dX0_addCell_47 rfl ?_
  refine g_dup C dX0_addCell_48 rfl ?_
  refine g_get C 0 iX0_addCell_X0 rfl rfl 5 (by decide) f48 rfl dX0_addCell_49 ?_
  refine g_iconst C 1 dX0_addCell_52 (by decide +kernel) ?_
  refine g_iadd C (nI (nc + 1)) dX0_addCell_53 (nI_1 nc) ?_
  refine g_put C 0 iX0_addCell_X0 rfl rfl 5 (by decide) f48 rfl tyX0 tyX0_ok nmX0 (ty := .int) (by decide +kernel) rfl rfl (Nat.le_of_ble_eq_true rfl) (wL cI cZ cG a r (nc + 1) nw (upd cx nc p0) (upd cy nc p1) (upd ch nc p2) (upd rm nc p3) (upd on nc 1) wx wy dm sv mu qq) rfl dX0_addCell_54 ?_
  refine g_iload C dX0_addCell_57 rfl ?_
  exact g_iret C hret dX0_addCell_59 (Nat.le_of_ble_eq_true rfl) (Nat.le_of_ble_eq_true rfl) ⟨rfl, rfl⟩
theorem iX0_addWalker_X0 : ∀ w ∈ u_ws RX0 TX0 13, w ∈ wsX0_addWalker := by decide +kernel
set_option maxHeartbeats 1000000 in
set_option maxRecDepth 100000 in
/-- a new walker -/
theorem t_X0_addWalker {l : Launch} {D : va_G} {cI cZ cJ cG cW : ClassId} {a r : Nat → Nat} {nc nw : Nat} {cx cy ch rm on wx wy dm sv mu : Nat → Int32} {qq : Nat → Nat → Int32} {p0 p1 p2 : Int32} (h6 : nw < 6) : CtI l yX0_addWalker wsX0_addWalker 0 0 0 0 D (T5 cI cZ cJ cG cW) [.ref (a 0), .int p0, .int p1, .int p2] (wL cI cZ cG a r nc nw cx cy ch rm on wx wy dm sv mu qq) (fun rv wv => rv = nI nw ∧ wv = (wL cI cZ cG a r nc (nw + 1) cx cy ch rm on (upd wx nw p0) (upd wy nw p1) (upd dm nw p2) (upd sv nw (-1)) mu qq)) := by
  refine ctI_of (cc := cX0_addWalker) (maxL := 5) RX0 1 [some (.ref (a 0)), some (.int p0), some (.int p1), some (.int p2), none] (by decide +kernel) rfl rfl (Nat.le_of_ble_eq_true rfl) rfl (fun p_ e_ s_ m_ as_ bl_ me_ co_ C hret => ?_)
  have f28 := C.ts (.fieldLink RX0 28 "CellPlanner$Land" "walkerX" "[I") (by decide +kernel)
  have f31 := C.ts (.fieldLink RX0 31 "CellPlanner$Land" "walkerY" "[I") (by decide +kernel)
  have f34 := C.ts (.fieldLink RX0 34 "CellPlanner$Land" "demand" "[I") (by decide +kernel)
  have f37 := C.ts (.fieldLink RX0 37 "CellPlanner$Land" "server" "[I") (by decide +kernel)
  have f52 := C.ts (.fieldLink RX0 52 "CellPlanner$Land" "walkers" "I") (by decide +kernel)
  refine g_aload_n C dX0_addWalker_0 rfl ?_
  refine g_get C 0 iX0_addWalker_X0 rfl rfl 10 (by decide) f52 rfl dX0_addWalker_1 ?_
  refine g_istore C [some (.ref (a 0)), some (.int p0), some (.int p1), some (.int p2), some (.int (nI nw))] dX0_addWalker_4 (by decide) rfl rfl ?_
  refine g_aload_n C dX0_addWalker_6 rfl ?_
  refine g_get C 0 iX0_addWalker_X0 rfl rfl 6 (by decide) f28 rfl dX0_addWalker_7 ?_
  refine g_iload C dX0_addWalker_10 rfl ?_
  refine g_iload_n C dX0_addWalker_12 rfl ?_
  refine g_iast C 6 0 rfl rfl nw rfl (by omega) (by decide) (wL cI cZ cG a r nc nw cx cy ch rm on (upd wx nw p0) wy dm sv mu qq) rfl dX0_addWalker_13 ?_
  refine g_aload_n C dX0_addWalker_14 rfl ?_
  refine g_get C 0 iX0_addWalker_X0 rfl rfl 7 (by decide) f31 rfl dX0_addWalker_15 ?_
  refine g_iload C dX0_addWalker_18 rfl ?_
  refine g_iload_n C dX0_addWalker_20 rfl ?_
  refine g_iast C 7 0 rfl rfl nw rfl (by omega) (by decide) (wL cI cZ cG a r nc nw cx cy ch rm on (upd wx nw p0) (upd wy nw p1) dm sv mu qq) rfl dX0_addWalker_21 ?_
  refine g_aload_n C dX0_addWalker_22 rfl ?_
  refine g_get C 0 iX0_addWalker_X0 rfl rfl 8 (by decide) f34 rfl dX0_addWalker_23 ?_
  refine g_iload C dX0_addWalker_26 rfl ?_
  refine g_iload_n C dX0_addWalker_28 rfl ?_
  refine g_iast C 8 0 rfl rfl nw rfl (by omega) (by decide) (wL cI cZ cG a r nc nw cx cy ch rm on (upd wx nw p0) (upd wy nw p1) (upd dm nw p2) sv mu qq) rfl dX0_addWalker_29 ?_
  refine g_aload_n C dX0_addWalker_30 rfl ?_
  refine g_get C 0 iX0_addWalker_X0 rfl rfl 9 (by decide) f37 rfl dX0_addWalker_31 ?_
  refine g_iload C dX0_addWalker_34 rfl ?_
  refine g_iconst C (-1) dX0_addWalker_36 (by decide +kernel) ?_
  refine g_iast C 9 0 rfl rfl nw rfl (by omega) (by decide) (wL cI cZ cG a r nc nw cx cy ch rm on (upd wx nw p0) (upd wy nw p1) (upd dm nw p2) (upd sv nw ((-1))) mu qq) rfl dX0_addWalker_37 ?_
  refine g_aload_n C dX0_addWalker_38 rfl ?_
  refine g_dup C dX0_addWalker_39 rfl ?_
  refine g_get C 0 iX0_addWalker_X0 rfl rfl 10 (by decide) f52 rfl dX0_addWalker_40 ?_
  refine g_iconst C 1 dX0_addWalker_43 (by decide +kernel) ?_
  refine g_iadd C (nI (nw + 1)) dX0_addWalker_44 (nI_1 nw) ?_
  refine g_put C 0 iX0_addWalker_X0 rfl rfl 10 (by decide) f52 rfl tyX0 tyX0_ok nmX0 (ty := .int) (by decide +kernel) rfl rfl (Nat.le_of_ble_eq_true rfl) (wL cI cZ cG a r nc (nw + 1) cx cy ch rm on (upd wx nw p0) (upd wy nw p1) (upd dm nw p2) (upd sv nw ((-1))) mu qq) rfl dX0_addWalker_45 ?_
  refine g_iload C dX0_addWalker_48 rfl ?_
  exact g_iret C hret dX0_addWalker_50 (Nat.le_of_ble_eq_true rfl) (Nat.le_of_ble_eq_true rfl) ⟨rfl, rfl⟩
end
section
/-! Search -/
theorem iX1_keep_X0 : ∀ w ∈ u_ws RX0 TX0 13, w ∈ wsX1_keep := by decide +kernel
theorem iX1_keep_X1 : ∀ w ∈ u_ws RX1 TX1 7, w ∈ wsX1_keep := by decide +kernel
set_option maxHeartbeats 1000000 in
set_option maxRecDepth 100000 in
/-- the assignment is kept -/
theorem t_X1_keep {l : Launch} {D : va_G} {cI cZ cJ cG cW : ClassId} {a b r2 : Nat → Nat} {hp rl cn be : Nat → Int32} {bw : Int32} {wo : Nat → Nat → Int32} {r : Nat → Nat} {nc nw : Nat} {cx cy ch rm on wx wy dm sv mu : Nat → Int32} {qq : Nat → Nat → Int32} {p0 : Int32} (h6 : nw ≤ 6) : CtV l yX1_keep wsX1_keep 1 80 0 0 D (T5 cI cZ cJ cG cW) [.ref (b 0), .int p0] (wSo cI cW a b r2 hp rl cn be bw wo ++ (wL cI cZ cG a r nc nw cx cy ch rm on wx wy dm sv mu qq)) (fun wv tv => wv = (wSo cI cW a b r2 hp rl cn (va_cpy cn be 0 0 nw) p0 wo ++ (wL cI cZ cG a r nc nw cx cy ch rm on wx wy dm sv mu qq)) ∧ tv = (T5 cI cZ cJ cG cW)) := by
  refine ctV_of (cc := cX1_keep) (maxL := 2) RX1 0 [some (.ref (b 0)), some (.int p0)] (by decide +kernel) rfl rfl (Nat.le_of_ble_eq_true rfl) rfl (fun p_ e_ s_ m_ as_ bl_ me_ co_ C hret hini => ?_)
  have f23 := C.ts (.fieldLink RX1 23 "CellPlanner$Search" "chosen" "[I") (by decide +kernel)
  have f26 := C.ts (.fieldLink RX1 26 "CellPlanner$Search" "best" "[I") (by decide +kernel)
  have f29 := C.ts (.fieldLink RX1 29 "CellPlanner$Search" "land" "LCellPlanner$Land;") (by decide +kernel)
  have f38 := C.ts (.fieldLink RX1 38 "CellPlanner$Land" "walkers" "I") (by decide +kernel)
  have f61 := C.ts (.fieldLink RX1 61 "CellPlanner$Search" "bestWorth" "I") (by decide +kernel)
  refine g_aload_n C dX1_keep_0 rfl ?_
  refine g_iload_n C dX1_keep_1 rfl ?_
  refine g_put C 0 iX1_keep_X1 rfl rfl 6 (by decide) f61 rfl tyX1 tyX1_ok nmX1 (ty := .int) (by decide +kernel) rfl rfl (Nat.le_of_ble_eq_true rfl) (wSo cI cW a b r2 hp rl cn be p0 wo ++ (wL cI cZ cG a r nc nw cx cy ch rm on wx wy dm sv mu qq)) rfl dX1_keep_2 ?_
  refine g_aload_n C dX1_keep_5 rfl ?_
  refine g_get C 0 iX1_keep_X1 rfl rfl 4 (by decide) f23 rfl dX1_keep_6 ?_
  refine g_iconst C 0 dX1_keep_9 (by decide +kernel) ?_
  refine g_aload_n C dX1_keep_10 rfl ?_
  refine g_get C 0 iX1_keep_X1 rfl rfl 5 (by decide) f26 rfl dX1_keep_11 ?_
  refine g_iconst C 0 dX1_keep_14 (by decide +kernel) ?_
  refine g_aload_n C dX1_keep_15 rfl ?_
  refine g_get C 0 iX1_keep_X1 rfl rfl 0 (by decide) f29 rfl dX1_keep_16 ?_
  refine g_get C 12 iX1_keep_X0 rfl rfl 10 (by decide) f38 rfl dX1_keep_19 ?_
  refine g_copy C (C.ts _ (by decide +kernel)) (C.ts _ (by decide +kernel)) (C.ts _ (by decide +kernel)) (C.ts _ (by decide +kernel)) 4 5 rfl rfl rfl nw rfl (by omega) (by omega) (by omega) (Nat.le_of_ble_eq_true rfl) (Nat.le_of_ble_eq_true rfl) (wSo cI cW a b r2 hp rl cn (va_cpy cn be 0 0 nw) p0 wo ++ (wL cI cZ cG a r nc nw cx cy ch rm on wx wy dm sv mu qq)) rfl dX1_keep_22 ?_
  exact g_vret C hret dX1_keep_25 (Nat.le_of_ble_eq_true rfl) (Nat.le_of_ble_eq_true rfl) ⟨rfl, rfl⟩
theorem iX1_fillWorth_X0 : ∀ w ∈ u_ws RX0 TX0 13, w ∈ wsX1_fillWorth := by decide +kernel
theorem iX1_fillWorth_X1 : ∀ w ∈ u_ws RX1 TX1 7, w ∈ wsX1_fillWorth := by decide +kernel
set_option maxHeartbeats 1000000 in
set_option maxRecDepth 100000 in
/-- the worths of a walker with each cell -/
theorem t_X1_fillWorth {l : Launch} {D : va_G} {cI cZ cJ cG cW : ClassId} {a b r2 : Nat → Nat} {hp rl cn be : Nat → Int32} {bw : Int32} {wo : Nat → Nat → Int32} {r : Nat → Nat} {nc nw : Nat} {cx cy ch rm on wx wy dm sv mu : Nat → Int32} {qq : Nat → Nat → Int32} {kw : Nat} {p1 p2 p3 : Int32} (h5 : nc ≤ 5) (hw : kw < 6) : CtI l yX1_fillWorth wsX1_fillWorth 1 40 0 0 D (T5 cI cZ cJ cG cW) [.ref (b 0), .int (nI kw), .int p1, .int p2, .int p3] (wSo cI cW a b r2 hp rl cn be bw wo ++ (wL cI cZ cG a r nc nw cx cy ch rm on wx wy dm sv mu qq)) (fun rv wv => rv = fmx (fwv on p1 p2 p3 (qq kw)) nc ∧ wv = (wSo cI cW a b r2 hp rl cn be bw (fwr kw nc (fwv on p1 p2 p3 (qq kw)) wo) ++ (wL cI cZ cG a r nc nw cx cy ch rm on wx wy dm sv mu qq))) := by
  refine ctI_of (cc := cX1_fillWorth) (maxL := 9) RX1 4 [some (.ref (b 0)), some (.int (nI kw)), some (.int p1), some (.int p2), some (.int p3), none, none, none, none] (by decide +kernel) rfl rfl (Nat.le_of_ble_eq_true rfl) rfl (fun p_ e_ s_ m_ as_ bl_ me_ co_ C hret => ?_)
  have f11 := C.ts (.fieldLink RX1 11 "CellPlanner$Search" "worth" "[[I") (by decide +kernel)
  have f29 := C.ts (.fieldLink RX1 29 "CellPlanner$Search" "land" "LCellPlanner$Land;") (by decide +kernel)
  have f52 := C.ts (.fieldLink RX1 52 "CellPlanner$Land" "cells" "I") (by decide +kernel)
  have f68 := C.ts (.fieldLink RX1 68 "CellPlanner$Land" "quality" "[[I") (by decide +kernel)
  have f71 := C.ts (.fieldLink RX1 71 "CellPlanner$Land" "on" "[Z") (by decide +kernel)
  refine g_iconst C 0 dX1_fillWorth_0 (by decide +kernel) ?_
  refine g_istore C [some (.ref (b 0)), some (.int (nI kw)), some (.int p1), some (.int p2), some (.int p3), some (.int 0), none, none, none] dX1_fillWorth_1 (by decide) rfl rfl ?_
  refine g_iconst C 0 dX1_fillWorth_3 (by decide +kernel) ?_
  refine g_istore C [some (.ref (b 0)), some (.int (nI kw)), some (.int p1), some (.int p2), some (.int p3), some (.int 0), some (.int 0), none, none] dX1_fillWorth_4 (by decide) rfl rfl ?_
  refine g_loop3 0 0 wo (fun (i : Nat) (x : Int32) (Y : Nat → Nat → Int32) => i ≤ nc ∧ x = fmx (fwv on p1 p2 p3 (qq kw)) i ∧ ∀ j c, Y j c = if j = kw ∧ c < i then (fwv on p1 p2 p3 (qq kw)) c else wo j c) (fun (i : Nat) (x : Int32) (Y : Nat → Nat → Int32) => (wSo cI cW a b r2 hp rl cn be bw Y ++ (wL cI cZ cG a r nc nw cx cy ch rm on wx wy dm sv mu qq))) (fun (i : Nat) (x : Int32) (Y : Nat → Nat → Int32) => [some (.ref (b 0)), some (.int (nI kw)), some (.int p1), some (.int p2), some (.int p3), some (.int x), some (.int (nI i)), none, none]) (fun (i : Nat) (x : Int32) (Y : Nat → Nat → Int32) => nc - i) ⟨Nat.zero_le _, rfl, fun j c => (if_neg (fun h => Nat.not_lt_zero _ h.2)).symm⟩ rfl rfl (fun i x Y hI ih => ?_)
  obtain ⟨h1, h2, h3⟩ := hI
  refine g_iload C dX1_fillWorth_6 rfl ?_
  refine g_aload_n C dX1_fillWorth_8 rfl ?_
  refine g_get C 0 iX1_fillWorth_X1 rfl rfl 0 (by decide) f29 rfl dX1_fillWorth_9 ?_
  refine g_get C 12 iX1_fillWorth_X0 rfl rfl 5 (by decide) f52 rfl dX1_fillWorth_12 ?_
  refine g_icmp_ge C 105 dX1_fillWorth_15 (by decide) (fun c_15 => ?_) (fun c_15 => ?_)
  · skip
    have c_15 : nc ≤ i := (nI_leI (by omega) (by omega)).mp c_15
    refine g_iload C dX1_fillWorth_105 rfl ?_
    exact g_iret C hret dX1_fillWorth_107 (Nat.le_of_ble_eq_true rfl) (Nat.le_of_ble_eq_true rfl) ⟨(by rw [h2, show i = nc by omega]), (by rw [show Y = fwr kw nc (fwv on p1 p2 p3 (qq kw)) wo from funext fun j => funext fun c => by rw [h3, show i = nc by omega]; rfl])⟩
  · skip
    have c_15 : ¬ (nc ≤ i) := fun h9 => c_15 ((nI_leI (by omega) (by omega)).mpr h9)
    refine g_aload_n C dX1_fillWorth_18 rfl ?_
    refine g_get C 0 iX1_fillWorth_X1 rfl rfl 0 (by decide) f29 rfl dX1_fillWorth_19 ?_
    refine g_get C 12 iX1_fillWorth_X0 rfl rfl 12 (by decide) f68 rfl dX1_fillWorth_22 ?_
    refine g_iload_n C dX1_fillWorth_25 rfl ?_
    refine g_aald C 23 3 rfl rfl kw rfl hw (by decide) (r kw) (if_pos hw) dX1_fillWorth_26 ?_
    refine g_iload C dX1_fillWorth_27 rfl ?_
    refine g_iald C (24 + kw) 0 (wS_row hw) rfl i rfl (by omega) (by decide) (qq kw i) rfl dX1_fillWorth_29 ?_
    refine g_istore C [some (.ref (b 0)), some (.int (nI kw)), some (.int p1), some (.int p2), some (.int p3), some (.int x), some (.int (nI i)), some (.int (qq kw i)), none] dX1_fillWorth_30 (by decide) rfl rfl ?_
    refine g_aload_n C dX1_fillWorth_32 rfl ?_
    refine g_get C 0 iX1_fillWorth_X1 rfl rfl 0 (by decide) f29 rfl dX1_fillWorth_33 ?_
    refine g_get C 12 iX1_fillWorth_X0 rfl rfl 4 (by decide) f71 rfl dX1_fillWorth_36 ?_
    refine g_iload C dX1_fillWorth_39 rfl ?_
    refine g_zald C 17 1 rfl rfl i rfl (by omega) (by decide) (on i) rfl dX1_fillWorth_41 ?_
    refine g_if_eq C 55 dX1_fillWorth_42 (by decide) (fun c_42 => ?_) (fun c_42 => ?_)
    · skip
      refine g_iconst C 0 dX1_fillWorth_55 (by decide +kernel) ?_
      refine g_istore C [some (.ref (b 0)), some (.int (nI kw)), some (.int p1), some (.int p2), some (.int p3), some (.int x), some (.int (nI i)), some (.int (qq kw i)), some (.int 0)] dX1_fillWorth_56 (by decide) rfl rfl ?_
      refine g_aload_n C dX1_fillWorth_58 rfl ?_
      refine g_get C 0 iX1_fillWorth_X1 rfl rfl 1 (by decide) f11 rfl dX1_fillWorth_59 ?_
      refine g_iload_n C dX1_fillWorth_62 rfl ?_
      refine g_aald C 1 4 rfl rfl kw rfl hw (by decide) (r2 kw) (if_pos hw) dX1_fillWorth_63 ?_
      refine g_iload C dX1_fillWorth_64 rfl ?_
      refine g_iload C dX1_fillWorth_66 rfl ?_
      refine g_if_eq C 81 dX1_fillWorth_68 (by decide) (fun _ => ?_) (fun c9 => absurd rfl c9)
      refine g_iconst C 0 dX1_fillWorth_81 (by decide +kernel) ?_
      refine g_iast C (6 + kw) 0 (wS_row2 hw) rfl i rfl (by omega) (by decide) (wSo cI cW a b r2 hp rl cn be bw (up2 Y kw i 0) ++ (wL cI cZ cG a r nc nw cx cy ch rm on wx wy dm sv mu qq)) (wS_set2 hw) dX1_fillWorth_82 ?_
      refine g_iload C dX1_fillWorth_83 rfl ?_
      refine g_aload_n C dX1_fillWorth_85 rfl ?_
      refine g_get C 0 iX1_fillWorth_X1 rfl rfl 1 (by decide) f11 rfl dX1_fillWorth_86 ?_
      refine g_iload_n C dX1_fillWorth_89 rfl ?_
      refine g_aald C 1 4 rfl rfl kw rfl hw (by decide) (r2 kw) (if_pos hw) dX1_fillWorth_90 ?_
      refine g_iload C dX1_fillWorth_91 rfl ?_
      refine g_iald C (6 + kw) 0 (wS_row2 hw) rfl i rfl (by omega) (by decide) 0 up2_self dX1_fillWorth_93 ?_
      refine g_mmax C (mx x 0) (C.ts _ (by decide +kernel)) (C.ts _ (by decide +kernel)) (C.ts _ (by decide +kernel)) (C.ts _ (by decide +kernel)) (Nat.le_of_ble_eq_true rfl) (Nat.le_of_ble_eq_true rfl) (Nat.le_of_ble_eq_true rfl) (Nat.le_of_ble_eq_true rfl) rfl dX1_fillWorth_94 ?_
      refine g_istore C [some (.ref (b 0)), some (.int (nI kw)), some (.int p1), some (.int p2), some (.int p3), some (.int (mx x 0)), some (.int (nI i)), some (.int (qq kw i)), some (.int 0)] dX1_fillWorth_97 (by decide) rfl rfl ?_
      refine g_iinc C (nI (i + 1)) [some (.ref (b 0)), some (.int (nI kw)), some (.int p1), some (.int p2), some (.int p3), some (.int (mx x 0)), some (.int (nI (i + 1))), some (.int (qq kw i)), some (.int 0)] dX1_fillWorth_99 rfl (nI_1 i) (by decide) rfl rfl ?_
      refine g_goto C 6 dX1_fillWorth_102 (by decide) ?_
      refine g_mask [true, true, true, true, true, true, true, false, false] rfl ?_
      exact ih (i + 1) (mx x 0) (up2 Y kw i 0) ⟨by omega, by rw [fmx, ← h2, ← show 0 = (fwv on p1 p2 p3 (qq kw)) i from (by unfold fwv; first | rw [if_pos c_42] | rw [if_neg c_42, if_pos c_48])], fil2_cell (f := fun _ => (fwv on p1 p2 p3 (qq kw))) h3 (by unfold fwv; first | rw [if_pos c_42] | rw [if_neg c_42, if_pos c_48])⟩ (by omega)
    · skip
      refine g_iload C dX1_fillWorth_45 rfl ?_
      refine g_iload_n C dX1_fillWorth_47 rfl ?_
      refine g_icmp_lt C 55 dX1_fillWorth_48 (by decide) (fun c_48 => ?_) (fun c_48 => ?_)
      · skip
        refine g_iconst C 0 dX1_fillWorth_55 (by decide +kernel) ?_
        refine g_istore C [some (.ref (b 0)), some (.int (nI kw)), some (.int p1), some (.int p2), some (.int p3), some (.int x), some (.int (nI i)), some (.int (qq kw i)), some (.int 0)] dX1_fillWorth_56 (by decide) rfl rfl ?_
        refine g_aload_n C dX1_fillWorth_58 rfl ?_
        refine g_get C 0 iX1_fillWorth_X1 rfl rfl 1 (by decide) f11 rfl dX1_fillWorth_59 ?_
        refine g_iload_n C dX1_fillWorth_62 rfl ?_
        refine g_aald C 1 4 rfl rfl kw rfl hw (by decide) (r2 kw) (if_pos hw) dX1_fillWorth_63 ?_
        refine g_iload C dX1_fillWorth_64 rfl ?_
        refine g_iload C dX1_fillWorth_66 rfl ?_
        refine g_if_eq C 81 dX1_fillWorth_68 (by decide) (fun _ => ?_) (fun c9 => absurd rfl c9)
        refine g_iconst C 0 dX1_fillWorth_81 (by decide +kernel) ?_
        refine g_iast C (6 + kw) 0 (wS_row2 hw) rfl i rfl (by omega) (by decide) (wSo cI cW a b r2 hp rl cn be bw (up2 Y kw i 0) ++ (wL cI cZ cG a r nc nw cx cy ch rm on wx wy dm sv mu qq)) (wS_set2 hw) dX1_fillWorth_82 ?_
        refine g_iload C dX1_fillWorth_83 rfl ?_
        refine g_aload_n C dX1_fillWorth_85 rfl ?_
        refine g_get C 0 iX1_fillWorth_X1 rfl rfl 1 (by decide) f11 rfl dX1_fillWorth_86 ?_
        refine g_iload_n C dX1_fillWorth_89 rfl ?_
        refine g_aald C 1 4 rfl rfl kw rfl hw (by decide) (r2 kw) (if_pos hw) dX1_fillWorth_90 ?_
        refine g_iload C dX1_fillWorth_91 rfl ?_
        refine g_iald C (6 + kw) 0 (wS_row2 hw) rfl i rfl (by omega) (by decide) 0 up2_self dX1_fillWorth_93 ?_
        refine g_mmax C (mx x 0) (C.ts _ (by decide +kernel)) (C.ts _ (by decide +kernel)) (C.ts _ (by decide +kernel)) (C.ts _ (by decide +kernel)) (Nat.le_of_ble_eq_true rfl) (Nat.le_of_ble_eq_true rfl) (Nat.le_of_ble_eq_true rfl) (Nat.le_of_ble_eq_true rfl) rfl dX1_fillWorth_94 ?_
        refine g_istore C [some (.ref (b 0)), some (.int (nI kw)), some (.int p1), some (.int p2), some (.int p3), some (.int (mx x 0)), some (.int (nI i)), some (.int (qq kw i)), some (.int 0)] dX1_fillWorth_97 (by decide) rfl rfl ?_
        refine g_iinc C (nI (i + 1)) [some (.ref (b 0)), some (.int (nI kw)), some (.int p1), some (.int p2), some (.int p3), some (.int (mx x 0)), some (.int (nI (i + 1))), some (.int (qq kw i)), some (.int 0)] dX1_fillWorth_99 rfl (nI_1 i) (by decide) rfl rfl ?_
        refine g_goto C 6 dX1_fillWorth_102 (by decide) ?_
        refine g_mask [true, true, true, true, true, true, true, false, false] rfl ?_
        exact ih (i + 1) (mx x 0) (up2 Y kw i 0) ⟨by omega, by rw [fmx, ← h2, ← show 0 = (fwv on p1 p2 p3 (qq kw)) i from (by unfold fwv; first | rw [if_pos c_42] | rw [if_neg c_42, if_pos c_48])], fil2_cell (f := fun _ => (fwv on p1 p2 p3 (qq kw))) h3 (by unfold fwv; first | rw [if_pos c_42] | rw [if_neg c_42, if_pos c_48])⟩ (by omega)
      · skip
        refine g_iconst C 1 dX1_fillWorth_51 (by decide +kernel) ?_
        refine g_goto C 56 dX1_fillWorth_52 (by decide) ?_
        refine g_istore C [some (.ref (b 0)), some (.int (nI kw)), some (.int p1), some (.int p2), some (.int p3), some (.int x), some (.int (nI i)), some (.int (qq kw i)), some (.int 1)] dX1_fillWorth_56 (by decide) rfl rfl ?_
        refine g_aload_n C dX1_fillWorth_58 rfl ?_
        refine g_get C 0 iX1_fillWorth_X1 rfl rfl 1 (by decide) f11 rfl dX1_fillWorth_59 ?_
        refine g_iload_n C dX1_fillWorth_62 rfl ?_
        refine g_aald C 1 4 rfl rfl kw rfl hw (by decide) (r2 kw) (if_pos hw) dX1_fillWorth_63 ?_
        refine g_iload C dX1_fillWorth_64 rfl ?_
        refine g_iload C dX1_fillWorth_66 rfl ?_
        refine g_if_eq C 81 dX1_fillWorth_68 (by decide) (fun c9 => absurd c9 (by decide)) (fun _ => ?_)
        refine g_iload_n C dX1_fillWorth_71 rfl ?_
        refine g_iload C dX1_fillWorth_72 rfl ?_
        refine g_iload C dX1_fillWorth_74 rfl ?_
        refine g_imul C (p3 * (qq kw i)) dX1_fillWorth_76 rfl ?_
        refine g_iadd C (p2 + (p3 * (qq kw i))) dX1_fillWorth_77 rfl ?_
        refine g_goto C 82 dX1_fillWorth_78 (by decide) ?_
        refine g_iast C (6 + kw) 0 (wS_row2 hw) rfl i rfl (by omega) (by decide) (wSo cI cW a b r2 hp rl cn be bw (up2 Y kw i (p2 + (p3 * (qq kw i)))) ++ (wL cI cZ cG a r nc nw cx cy ch rm on wx wy dm sv mu qq)) (wS_set2 hw) dX1_fillWorth_82 ?_
        refine g_iload C dX1_fillWorth_83 rfl ?_
        refine g_aload_n C dX1_fillWorth_85 rfl ?_
        refine g_get C 0 iX1_fillWorth_X1 rfl rfl 1 (by decide) f11 rfl dX1_fillWorth_86 ?_
        refine g_iload_n C dX1_fillWorth_89 rfl ?_
        refine g_aald C 1 4 rfl rfl kw rfl hw (by decide) (r2 kw) (if_pos hw) dX1_fillWorth_90 ?_
        refine g_iload C dX1_fillWorth_91 rfl ?_
        refine g_iald C (6 + kw) 0 (wS_row2 hw) rfl i rfl (by omega) (by decide) (p2 + (p3 * (qq kw i))) up2_self dX1_fillWorth_93 ?_
        refine g_mmax C (mx x (p2 + (p3 * (qq kw i)))) (C.ts _ (by decide +kernel)) (C.ts _ (by decide +kernel)) (C.ts _ (by decide +kernel)) (C.ts _ (by decide +kernel)) (Nat.le_of_ble_eq_true rfl) (Nat.le_of_ble_eq_true rfl) (Nat.le_of_ble_eq_true rfl) (Nat.le_of_ble_eq_true rfl) rfl dX1_fillWorth_94 ?_
        refine g_istore C [some (.ref (b 0)), some (.int (nI kw)), some (.int p1), some (.int p2), some (.int p3), some (.int (mx x (p2 + (p3 * (qq kw i))))), some (.int (nI i)), some (.int (qq kw i)), some (.int 1)] dX1_fillWorth_97 (by decide) rfl rfl ?_
        refine g_iinc C (nI (i + 1)) [some (.ref (b 0)), some (.int (nI kw)), some (.int p1), some (.int p2), some (.int p3), some (.int (mx x (p2 + (p3 * (qq kw i))))), some (.int (nI (i + 1))), some (.int (qq kw i)), some (.int 1)] dX1_fillWorth_99 rfl (nI_1 i) (by decide) rfl rfl ?_
        refine g_goto C 6 dX1_fillWorth_102 (by decide) ?_
        refine g_mask [true, true, true, true, true, true, true, false, false] rfl ?_
        exact ih (i + 1) (mx x (p2 + (p3 * (qq kw i)))) (up2 Y kw i (p2 + (p3 * (qq kw i)))) ⟨by omega, by rw [fmx, ← h2, ← show (p2 + (p3 * (qq kw i))) = (fwv on p1 p2 p3 (qq kw)) i from (by unfold fwv; rw [if_neg c_42, if_neg c_48])], fil2_cell (f := fun _ => (fwv on p1 p2 p3 (qq kw))) h3 (by unfold fwv; rw [if_neg c_42, if_neg c_48])⟩ (by omega)
theorem iX1_place_X0 : ∀ w ∈ u_ws RX0 TX0 13, w ∈ wsX1_place := by decide +kernel
theorem iX1_place_X1 : ∀ w ∈ u_ws RX1 TX1 7, w ∈ wsX1_place := by decide +kernel
set_option maxHeartbeats 1000000 in
set_option maxRecDepth 100000 in
/-- the assignments of the walkers from one on, tried in their order -/
theorem t_X1_place {l : Launch} {D : va_G} {cI cZ cJ cG cW : ClassId} {a b r2 : Nat → Nat} {hp : Nat → Int32} {wo : Nat → Nat → Int32} {r : Nat → Nat} {nc nw : Nat} {cx cy ch rm on wx wy dm sv mu : Nat → Int32} {qq : Nat → Nat → Int32} (h5 : nc ≤ 5) (h6 : nw ≤ 6) : ∀ (k : Nat) {kw : Nat} {p0 : Int32} {rl cn be : Nat → Int32} {bw : Int32} (_ : nw < kw + k) (_ : kw ≤ nw), CtV l yX1_place wsX1_place (k + 3) (40 * k + 200) 0 0 D (T5 cI cZ cJ cG cW) [.ref (b 0), .int (nI kw), .int p0] (wSo cI cW a b r2 hp rl cn be bw wo ++ (wL cI cZ cG a r nc nw cx cy ch rm on wx wy dm sv mu qq)) (fun wv tv => wv = (wSo cI cW a b r2 hp ((fpl hp wo dm nc nw k kw p0 (rl, cn, be, bw)).1) ((fpl hp wo dm nc nw k kw p0 (rl, cn, be, bw)).2.1) ((fpl hp wo dm nc nw k kw p0 (rl, cn, be, bw)).2.2.1) ((fpl hp wo dm nc nw k kw p0 (rl, cn, be, bw)).2.2.2) wo ++ (wL cI cZ cG a r nc nw cx cy ch rm on wx wy dm sv mu qq)) ∧ tv = (T5 cI cZ cJ cG cW)) := by
  intro k
  induction k with
  | zero =>
    intro kw p0 rl cn be bw hk hw
    exact absurd hk (by omega)
  | succ k ih =>
    intro kw p0 rl cn be bw hk hw
    refine ctV_of (cc := cX1_place) (maxL := 6) RX1 3 [some (.ref (b 0)), some (.int (nI kw)), some (.int p0), none, none, none] (by decide +kernel) rfl rfl (Nat.le_of_ble_eq_true rfl) rfl (fun p_ e_ s_ m_ as_ bl_ me_ co_ C hret hini => ?_)
    have f11 := C.ts (.fieldLink RX1 11 "CellPlanner$Search" "worth" "[[I") (by decide +kernel)
    have f16 := C.ts (.fieldLink RX1 16 "CellPlanner$Search" "hope" "[I") (by decide +kernel)
    have f20 := C.ts (.fieldLink RX1 20 "CellPlanner$Search" "roomLeft" "[I") (by decide +kernel)
    have f23 := C.ts (.fieldLink RX1 23 "CellPlanner$Search" "chosen" "[I") (by decide +kernel)
    have f29 := C.ts (.fieldLink RX1 29 "CellPlanner$Search" "land" "LCellPlanner$Land;") (by decide +kernel)
    have f38 := C.ts (.fieldLink RX1 38 "CellPlanner$Land" "walkers" "I") (by decide +kernel)
    have f42 := C.ts (.fieldLink RX1 42 "CellPlanner$Land" "demand" "[I") (by decide +kernel)
    have f52 := C.ts (.fieldLink RX1 52 "CellPlanner$Land" "cells" "I") (by decide +kernel)
    have f61 := C.ts (.fieldLink RX1 61 "CellPlanner$Search" "bestWorth" "I") (by decide +kernel)
    refine g_iload_n C dX1_place_0 rfl ?_
    refine g_aload_n C dX1_place_1 rfl ?_
    refine g_get C 0 iX1_place_X1 rfl rfl 2 (by decide) f16 rfl dX1_place_2 ?_
    refine g_iload_n C dX1_place_5 rfl ?_
    refine g_iald C 2 0 rfl rfl kw rfl (by omega) (by decide) (hp kw) rfl dX1_place_6 ?_
    refine g_iadd C (p0 + (hp kw)) dX1_place_7 rfl ?_
    refine g_aload_n C dX1_place_8 rfl ?_
    refine g_get C 0 iX1_place_X1 rfl rfl 6 (by decide) f61 rfl dX1_place_9 ?_
    refine g_icmp_gt C 16 dX1_place_12 (by decide) (fun c_12 => ?_) (fun c_12 => ?_)
    · skip
      refine g_iload_n C dX1_place_16 rfl ?_
      refine g_aload_n C dX1_place_17 rfl ?_
      refine g_get C 0 iX1_place_X1 rfl rfl 0 (by decide) f29 rfl dX1_place_18 ?_
      refine g_get C 12 iX1_place_X0 rfl rfl 10 (by decide) f38 rfl dX1_place_21 ?_
      refine g_icmp_lt C 33 dX1_place_24 (by decide) (fun c_24 => ?_) (fun c_24 => ?_)
      · skip
        have c_24 : kw < nw := (nI_ltI (by omega) (by omega)).mp c_24
        refine g_aload_n C dX1_place_33 rfl ?_
        refine g_get C 0 iX1_place_X1 rfl rfl 0 (by decide) f29 rfl dX1_place_34 ?_
        refine g_get C 12 iX1_place_X0 rfl rfl 8 (by decide) f42 rfl dX1_place_37 ?_
        refine g_iload_n C dX1_place_40 rfl ?_
        refine g_iald C 20 0 rfl rfl kw rfl (by omega) (by decide) (dm kw) rfl dX1_place_41 ?_
        refine g_istore_n C [some (.ref (b 0)), some (.int (nI kw)), some (.int p0), some (.int (dm kw)), none, none] dX1_place_42 (by decide) rfl rfl ?_
        refine g_iconst C 0 dX1_place_43 (by decide +kernel) ?_
        refine g_istore C [some (.ref (b 0)), some (.int (nI kw)), some (.int p0), some (.int (dm kw)), some (.int 0), none] dX1_place_44 (by decide) rfl rfl ?_
        refine g_loop2 0 ((rl, cn, be, bw)) (fun (i : Nat) (z : S4) => i ≤ nc ∧ z = (fpi (fpl hp wo dm nc nw k (kw + 1)) (wo kw) (dm kw) kw p0 (rl, cn, be, bw) i)) (fun (i : Nat) (z : S4) => (wSo cI cW a b r2 hp z.1 z.2.1 z.2.2.1 z.2.2.2 wo ++ (wL cI cZ cG a r nc nw cx cy ch rm on wx wy dm sv mu qq))) (fun (i : Nat) (z : S4) => [some (.ref (b 0)), some (.int (nI kw)), some (.int p0), some (.int (dm kw)), some (.int (nI i)), none]) (fun (i : Nat) (z : S4) => nc - i) ⟨Nat.zero_le _, rfl⟩ rfl rfl (fun i z hI ihl => ?_)
        obtain ⟨h1, h2⟩ := hI
        refine g_iload C dX1_place_46 rfl ?_
        refine g_aload_n C dX1_place_48 rfl ?_
        refine g_get C 0 iX1_place_X1 rfl rfl 0 (by decide) f29 rfl dX1_place_49 ?_
        refine g_get C 12 iX1_place_X0 rfl rfl 5 (by decide) f52 rfl dX1_place_52 ?_
        refine g_icmp_ge C 132 dX1_place_55 (by decide) (fun c_55 => ?_) (fun c_55 => ?_)
        · skip
          have c_55 : nc ≤ i := (nI_leI (by omega) (by omega)).mp c_55
          refine g_aload_n C dX1_place_132 rfl ?_
          refine g_get C 0 iX1_place_X1 rfl rfl 4 (by decide) f23 rfl dX1_place_133 ?_
          refine g_iload_n C dX1_place_136 rfl ?_
          refine g_iconst C (-1) dX1_place_137 (by decide +kernel) ?_
          refine g_iast C 4 0 rfl rfl kw rfl (by omega) (by decide) (wSo cI cW a b r2 hp z.1 (upd z.2.1 kw ((-1))) z.2.2.1 z.2.2.2 wo ++ (wL cI cZ cG a r nc nw cx cy ch rm on wx wy dm sv mu qq)) rfl dX1_place_138 ?_
          refine g_aload_n C dX1_place_139 rfl ?_
          refine g_iload_n C dX1_place_140 rfl ?_
          refine g_iconst C 1 dX1_place_141 (by decide +kernel) ?_
          refine g_iadd C (nI (kw + 1)) dX1_place_142 (nI_1 kw) ?_
          refine g_iload_n C dX1_place_143 rfl ?_
          refine g_callSv C [] (wSo cI cW a b r2 hp z.1 (upd z.2.1 kw ((-1))) z.2.2.1 z.2.2.2 wo ++ (wL cI cZ cG a r nc nw cx cy ch rm on wx wy dm sv mu qq)) [.ref (b 0), .int (nI (kw + 1)), .int p0] (ih (by omega) (by omega)) (va_cwS 3 C.ts gX1_place_X1_place rfl rfl rfl (by decide +kernel) ⟨by show k + 3 + 1 ≤ k + 1 + 3; omega, by show 8 + (6 + 11) + (40 * k + 200) ≤ 40 * (k + 1) + 200; omega⟩) rfl rfl rfl (Nat.le_of_ble_eq_true rfl) dX1_place_144 ⟨Nat.le_of_ble_eq_true rfl, Nat.le_of_ble_eq_true rfl⟩ (fun wv1 tv1 hp1 => ?_)
          obtain ⟨rfl, rfl⟩ := hp1
          exact g_vret C hret dX1_place_147 (Nat.le_of_ble_eq_true rfl) (Nat.le_of_ble_eq_true rfl) ⟨(by rw [fpl, if_neg (by exact Int32.not_le.mpr c_12), if_neg (by omega), ← show z = (fpi (fpl hp wo dm nc nw k (kw + 1)) (wo kw) (dm kw) kw p0 (rl, cn, be, bw) nc) from (by rw [h2, show i = nc by omega])] <;> rfl), rfl⟩
        · skip
          have c_55 : ¬ (nc ≤ i) := fun h9 => c_55 ((nI_leI (by omega) (by omega)).mpr h9)
          refine g_aload_n C dX1_place_58 rfl ?_
          refine g_get C 0 iX1_place_X1 rfl rfl 1 (by decide) f11 rfl dX1_place_59 ?_
          refine g_iload_n C dX1_place_62 rfl ?_
          refine g_aald C 1 4 rfl rfl kw rfl (by omega) (by decide) (r2 kw) (if_pos (by omega)) dX1_place_63 ?_
          refine g_iload C dX1_place_64 rfl ?_
          refine g_iald C (6 + kw) 0 (wS_row2 (by omega)) rfl i rfl (by omega) (by decide) (wo kw i) rfl dX1_place_66 ?_
          refine g_istore C [some (.ref (b 0)), some (.int (nI kw)), some (.int p0), some (.int (dm kw)), some (.int (nI i)), some (.int (wo kw i))] dX1_place_67 (by decide) rfl rfl ?_
          refine g_iload C dX1_place_69 rfl ?_
          refine g_if_le C 126 dX1_place_71 (by decide) (fun c_71 => ?_) (fun c_71 => ?_)
          · skip
            refine g_iinc C (nI (i + 1)) [some (.ref (b 0)), some (.int (nI kw)), some (.int p0), some (.int (dm kw)), some (.int (nI (i + 1))), some (.int (wo kw i))] dX1_place_126 rfl (nI_1 i) (by decide) rfl rfl ?_
            refine g_goto C 46 dX1_place_129 (by decide) ?_
            refine g_mask [true, true, true, true, true, false] rfl ?_
            exact ihl (i + 1) z ⟨by omega, by rw [fpi, ← h2]; first | rw [if_pos c_71] | rw [if_neg c_71, if_pos c_82]⟩ (by omega)
          · skip
            refine g_aload_n C dX1_place_74 rfl ?_
            refine g_get C 0 iX1_place_X1 rfl rfl 3 (by decide) f20 rfl dX1_place_75 ?_
            refine g_iload C dX1_place_78 rfl ?_
            refine g_iald C 3 0 rfl rfl i rfl (by omega) (by decide) (z.1 i) rfl dX1_place_80 ?_
            refine g_iload_n C dX1_place_81 rfl ?_
            refine g_icmp_lt C 126 dX1_place_82 (by decide) (fun c_82 => ?_) (fun c_82 => ?_)
            · skip
              refine g_iinc C (nI (i + 1)) [some (.ref (b 0)), some (.int (nI kw)), some (.int p0), some (.int (dm kw)), some (.int (nI (i + 1))), some (.int (wo kw i))] dX1_place_126 rfl (nI_1 i) (by decide) rfl rfl ?_
              refine g_goto C 46 dX1_place_129 (by decide) ?_
              refine g_mask [true, true, true, true, true, false] rfl ?_
              exact ihl (i + 1) z ⟨by omega, by rw [fpi, ← h2]; first | rw [if_pos c_71] | rw [if_neg c_71, if_pos c_82]⟩ (by omega)
            · skip
              refine g_aload_n C dX1_place_85 rfl ?_
              refine g_get C 0 iX1_place_X1 rfl rfl 3 (by decide) f20 rfl dX1_place_86 ?_
              refine g_iload C dX1_place_89 rfl ?_
              refine g_dup2 C dX1_place_91 rfl rfl ?_
              refine g_iald C 3 0 rfl rfl i rfl (by omega) (by decide) (z.1 i) rfl dX1_place_92 ?_
              refine g_iload_n C dX1_place_93 rfl ?_
              refine g_isub C ((z.1 i) - (dm kw)) dX1_place_94 rfl ?_
              refine g_iast C 3 0 rfl rfl i rfl (by omega) (by decide) (wSo cI cW a b r2 hp (upd z.1 i ((z.1 i) - (dm kw))) z.2.1 z.2.2.1 z.2.2.2 wo ++ (wL cI cZ cG a r nc nw cx cy ch rm on wx wy dm sv mu qq)) rfl dX1_place_95 ?_
              refine g_aload_n C dX1_place_96 rfl ?_
              refine g_get C 0 iX1_place_X1 rfl rfl 4 (by decide) f23 rfl dX1_place_97 ?_
              refine g_iload_n C dX1_place_100 rfl ?_
              refine g_iload C dX1_place_101 rfl ?_
              refine g_iast C 4 0 rfl rfl kw rfl (by omega) (by decide) (wSo cI cW a b r2 hp (upd z.1 i ((z.1 i) - (dm kw))) (upd z.2.1 kw (nI i)) z.2.2.1 z.2.2.2 wo ++ (wL cI cZ cG a r nc nw cx cy ch rm on wx wy dm sv mu qq)) rfl dX1_place_103 ?_
              refine g_aload_n C dX1_place_104 rfl ?_
              refine g_iload_n C dX1_place_105 rfl ?_
              refine g_iconst C 1 dX1_place_106 (by decide +kernel) ?_
              refine g_iadd C (nI (kw + 1)) dX1_place_107 (nI_1 kw) ?_
              refine g_iload_n C dX1_place_108 rfl ?_
              refine g_iload C dX1_place_109 rfl ?_
              refine g_iadd C (p0 + (wo kw i)) dX1_place_111 rfl ?_
              refine g_callSv C [] (wSo cI cW a b r2 hp (upd z.1 i ((z.1 i) - (dm kw))) (upd z.2.1 kw (nI i)) z.2.2.1 z.2.2.2 wo ++ (wL cI cZ cG a r nc nw cx cy ch rm on wx wy dm sv mu qq)) [.ref (b 0), .int (nI (kw + 1)), .int (p0 + (wo kw i))] (ih (by omega) (by omega)) (va_cwS 3 C.ts gX1_place_X1_place rfl rfl rfl (by decide +kernel) ⟨by show k + 3 + 1 ≤ k + 1 + 3; omega, by show 8 + (6 + 11) + (40 * k + 200) ≤ 40 * (k + 1) + 200; omega⟩) rfl rfl rfl (Nat.le_of_ble_eq_true rfl) dX1_place_112 ⟨Nat.le_of_ble_eq_true rfl, Nat.le_of_ble_eq_true rfl⟩ (fun wv2 tv2 hp2 => ?_)
              obtain ⟨rfl, rfl⟩ := hp2
              refine g_aload_n C dX1_place_115 rfl ?_
              refine g_get C 0 iX1_place_X1 rfl rfl 3 (by decide) f20 rfl dX1_place_116 ?_
              refine g_iload C dX1_place_119 rfl ?_
              refine g_dup2 C dX1_place_121 rfl rfl ?_
              refine g_iald C 3 0 rfl rfl i rfl (by omega) (by decide) (((fpl hp wo dm nc nw k (kw + 1) (p0 + (wo kw i)) (upd z.1 i ((z.1 i) - (dm kw)), upd z.2.1 kw (nI i), z.2.2.1, z.2.2.2)).1) i) rfl dX1_place_122 ?_
              refine g_iload_n C dX1_place_123 rfl ?_
              refine g_iadd C ((((fpl hp wo dm nc nw k (kw + 1) (p0 + (wo kw i)) (upd z.1 i ((z.1 i) - (dm kw)), upd z.2.1 kw (nI i), z.2.2.1, z.2.2.2)).1) i) + (dm kw)) dX1_place_124 rfl ?_
              refine g_iast C 3 0 rfl rfl i rfl (by omega) (by decide) (wSo cI cW a b r2 hp (upd ((fpl hp wo dm nc nw k (kw + 1) (p0 + (wo kw i)) (upd z.1 i ((z.1 i) - (dm kw)), upd z.2.1 kw (nI i), z.2.2.1, z.2.2.2)).1) i ((((fpl hp wo dm nc nw k (kw + 1) (p0 + (wo kw i)) (upd z.1 i ((z.1 i) - (dm kw)), upd z.2.1 kw (nI i), z.2.2.1, z.2.2.2)).1) i) + (dm kw))) ((fpl hp wo dm nc nw k (kw + 1) (p0 + (wo kw i)) (upd z.1 i ((z.1 i) - (dm kw)), upd z.2.1 kw (nI i), z.2.2.1, z.2.2.2)).2.1) ((fpl hp wo dm nc nw k (kw + 1) (p0 + (wo kw i)) (upd z.1 i ((z.1 i) - (dm kw)), upd z.2.1 kw (nI i), z.2.2.1, z.2.2.2)).2.2.1) ((fpl hp wo dm nc nw k (kw + 1) (p0 + (wo kw i)) (upd z.1 i ((z.1 i) - (dm kw)), upd z.2.1 kw (nI i), z.2.2.1, z.2.2.2)).2.2.2) wo ++ (wL cI cZ cG a r nc nw cx cy ch rm on wx wy dm sv mu qq)) rfl dX1_place_125 ?_
              refine g_iinc C (nI (i + 1)) [some (.ref (b 0)), some (.int (nI kw)), some (.int p0), some (.int (dm kw)), some (.int (nI (i + 1))), some (.int (wo kw i))] dX1_place_126 rfl (nI_1 i) (by decide) rfl rfl ?_
              refine g_goto C 46 dX1_place_129 (by decide) ?_
              refine g_mask [true, true, true, true, true, false] rfl ?_
              exact ihl (i + 1) ((upd ((fpl hp wo dm nc nw k (kw + 1) (p0 + (wo kw i)) (upd z.1 i ((z.1 i) - (dm kw)), upd z.2.1 kw (nI i), z.2.2.1, z.2.2.2)).1) i ((((fpl hp wo dm nc nw k (kw + 1) (p0 + (wo kw i)) (upd z.1 i ((z.1 i) - (dm kw)), upd z.2.1 kw (nI i), z.2.2.1, z.2.2.2)).1) i) + (dm kw)), (fpl hp wo dm nc nw k (kw + 1) (p0 + (wo kw i)) (upd z.1 i ((z.1 i) - (dm kw)), upd z.2.1 kw (nI i), z.2.2.1, z.2.2.2)).2.1, (fpl hp wo dm nc nw k (kw + 1) (p0 + (wo kw i)) (upd z.1 i ((z.1 i) - (dm kw)), upd z.2.1 kw (nI i), z.2.2.1, z.2.2.2)).2.2.1, (fpl hp wo dm nc nw k (kw + 1) (p0 + (wo kw i)) (upd z.1 i ((z.1 i) - (dm kw)), upd z.2.1 kw (nI i), z.2.2.1, z.2.2.2)).2.2.2)) ⟨by omega, by rw [fpi, ← h2, if_neg c_71, if_neg c_82]⟩ (by omega)
      · skip
        have c_24 : ¬ (kw < nw) := fun h9 => c_24 ((nI_ltI (by omega) (by omega)).mpr h9)
        refine g_aload_n C dX1_place_27 rfl ?_
        refine g_iload_n C dX1_place_28 rfl ?_
        refine g_callVv C [] (wSo cI cW a b r2 hp rl cn be bw wo ++ (wL cI cZ cG a r nc nw cx cy ch rm on wx wy dm sv mu qq)) [.int p0] (t_X1_keep h6) rfl rfl (cwV 1 C.ts gX1_place_X1_keep rfl rfl rfl (by decide +kernel) ⟨by show 1 + 1 ≤ k + 1 + 3; omega, by show 8 + (2 + 11) + 80 ≤ 40 * (k + 1) + 200; omega⟩) rfl rfl rfl (Nat.le_of_ble_eq_true rfl) dX1_place_29 ⟨Nat.le_of_ble_eq_true rfl, Nat.le_of_ble_eq_true rfl⟩ (fun wv3 tv3 hp3 => ?_)
        obtain ⟨rfl, rfl⟩ := hp3
        exact g_vret C hret dX1_place_32 (Nat.le_of_ble_eq_true rfl) (Nat.le_of_ble_eq_true rfl) ⟨(by rw [fpl, if_neg (by exact Int32.not_le.mpr c_12), if_pos (by omega)] <;> rfl), rfl⟩
    · skip
      exact g_vret C hret dX1_place_15 (Nat.le_of_ble_eq_true rfl) (Nat.le_of_ble_eq_true rfl) ⟨(by rw [fpl, if_pos (by exact Int32.not_lt.mp c_12)]), rfl⟩
theorem iX1_greatestWorth_X0 : ∀ w ∈ u_ws RX0 TX0 13, w ∈ wsX1_greatestWorth := by decide +kernel
theorem iX1_greatestWorth_X1 : ∀ w ∈ u_ws RX1 TX1 7, w ∈ wsX1_greatestWorth := by decide +kernel
set_option maxHeartbeats 1000000 in
set_option maxRecDepth 100000 in
/-- the greatest worth of an assignment -/
theorem t_X1_greatestWorth {l : Launch} {D : va_G} {cI cZ cJ cG cW : ClassId} {a b r2 : Nat → Nat} {hp rl cn be : Nat → Int32} {bw : Int32} {wo : Nat → Nat → Int32} {r : Nat → Nat} {nc nw : Nat} {cx cy ch rm on wx wy dm sv mu : Nat → Int32} {qq : Nat → Nat → Int32} {p0 p1 p2 p3 : Int32} (h5 : nc ≤ 5) (h6 : nw ≤ 6) (hr : ∀ c, c < nc → ¬ rm c ≤ 0) (hg : ∀ c w, c < nc → w < nw → ¬ dsq (cx c) (cy c) (wx w) (wy w) = 0) (hq : ∀ c w, c < nc → w < nw → ¬ 10 + fdi ch on (fil nc (fus rm sv dm nw) mu) (sgw cx cy wx wy w) c nc = 0) : CtI l yX1_greatestWorth wsX1_greatestWorth 11 505 0 0 D (T5 cI cZ cJ cG cW) [.ref (b 0), .int p0, .int p1, .int p2, .int p3] (wSo cI cW a b r2 hp rl cn be bw wo ++ (wL cI cZ cG a r nc nw cx cy ch rm on wx wy dm sv mu qq)) (fun rv wv => ∃ (z : S4) (P : Nat → Int32) (Y : Nat → Nat → Int32), rv = z.2.2.2 ∧ wv = (wSo cI cW a b r2 P z.1 z.2.1 z.2.2.1 z.2.2.2 Y ++ (wL cI cZ cG a r nc nw cx cy ch rm on wx wy dm sv (fil nc (fus rm sv dm nw) mu) (fil2 nw nc (fun w c => fqu cx cy ch on wx wy (fil nc (fus rm sv dm nw) mu) nc w c) qq))) ∧ GW nc nw rm on dm (fil2 nw nc (fun w c => fqu cx cy ch on wx wy (fil nc (fus rm sv dm nw) mu) nc w c) qq) p0 p1 p2 p3 rl cn be P Y z) := by
  refine ctI_of (cc := cX1_greatestWorth) (maxL := 7) RX1 2 [some (.ref (b 0)), some (.int p0), some (.int p1), some (.int p2), some (.int p3), none, none] (by decide +kernel) rfl rfl (Nat.le_of_ble_eq_true rfl) rfl (fun p_ e_ s_ m_ as_ bl_ me_ co_ C hret => ?_)
  have f16 := C.ts (.fieldLink RX1 16 "CellPlanner$Search" "hope" "[I") (by decide +kernel)
  have f20 := C.ts (.fieldLink RX1 20 "CellPlanner$Search" "roomLeft" "[I") (by decide +kernel)
  have f29 := C.ts (.fieldLink RX1 29 "CellPlanner$Search" "land" "LCellPlanner$Land;") (by decide +kernel)
  have f38 := C.ts (.fieldLink RX1 38 "CellPlanner$Land" "walkers" "I") (by decide +kernel)
  have f42 := C.ts (.fieldLink RX1 42 "CellPlanner$Land" "demand" "[I") (by decide +kernel)
  have f49 := C.ts (.fieldLink RX1 49 "CellPlanner$Land" "room" "[I") (by decide +kernel)
  have f52 := C.ts (.fieldLink RX1 52 "CellPlanner$Land" "cells" "I") (by decide +kernel)
  have f61 := C.ts (.fieldLink RX1 61 "CellPlanner$Search" "bestWorth" "I") (by decide +kernel)
  refine g_aload_n C dX1_greatestWorth_0 rfl ?_
  refine g_get C 0 iX1_greatestWorth_X1 rfl rfl 0 (by decide) f29 rfl dX1_greatestWorth_1 ?_
  refine g_callVv C (wSo cI cW a b r2 hp rl cn be bw wo) (wL cI cZ cG a r nc nw cx cy ch rm on wx wy dm sv mu qq) [] (t_X0_measure h5 h6 hr hg hq) rfl rfl (cwV 0 C.ts gX1_greatestWorth_X0_measure rfl rfl rfl (by decide +kernel) ⟨Nat.le_of_ble_eq_true rfl, Nat.le_of_ble_eq_true rfl⟩) rfl rfl rfl (Nat.le_of_ble_eq_true rfl) dX1_greatestWorth_4 ⟨Nat.le_of_ble_eq_true rfl, Nat.le_of_ble_eq_true rfl⟩ (fun wv1 tv1 hp1 => ?_)
  obtain ⟨rfl, rfl⟩ := hp1
  refine g_aload_n C dX1_greatestWorth_7 rfl ?_
  refine g_get C 0 iX1_greatestWorth_X1 rfl rfl 2 (by decide) f16 rfl dX1_greatestWorth_8 ?_
  refine g_aload_n C dX1_greatestWorth_11 rfl ?_
  refine g_get C 0 iX1_greatestWorth_X1 rfl rfl 0 (by decide) f29 rfl dX1_greatestWorth_12 ?_
  refine g_get C 12 iX1_greatestWorth_X0 rfl rfl 10 (by decide) f38 rfl dX1_greatestWorth_15 ?_
  refine g_iconst C 0 dX1_greatestWorth_18 (by decide +kernel) ?_
  refine g_iast C 2 0 rfl rfl nw rfl (by omega) (by decide) (wSo cI cW a b r2 (upd hp nw 0) rl cn be bw wo ++ (wL cI cZ cG a r nc nw cx cy ch rm on wx wy dm sv (fil nc (fus rm sv dm nw) mu) (fil2 nw nc (fun w c => fqu cx cy ch on wx wy (fil nc (fus rm sv dm nw) mu) nc w c) qq))) rfl dX1_greatestWorth_19 ?_
  refine g_aload_n C dX1_greatestWorth_20 rfl ?_
  refine g_get C 0 iX1_greatestWorth_X1 rfl rfl 0 (by decide) f29 rfl dX1_greatestWorth_21 ?_
  refine g_get C 12 iX1_greatestWorth_X0 rfl rfl 10 (by decide) f38 rfl dX1_greatestWorth_24 ?_
  refine g_iconst C 1 dX1_greatestWorth_27 (by decide +kernel) ?_
  refine g_isub C ((nI nw) - 1) dX1_greatestWorth_28 rfl ?_
  refine g_istore C [some (.ref (b 0)), some (.int p0), some (.int p1), some (.int p2), some (.int p3), some (.int ((nI nw) - 1)), none] dX1_greatestWorth_29 (by decide) rfl rfl ?_
  refine g_loop3 nw (upd hp nw 0) wo (fun (j : Nat) (P : Nat → Int32) (Y : Nat → Nat → Int32) => j ≤ nw ∧ (∀ t, j ≤ t → t ≤ nw → P t = fho (fun u => fmx (fwv on p0 (p1 + p2 * dm u) p3 ((fil2 nw nc (fun w c => fqu cx cy ch on wx wy (fil nc (fus rm sv dm nw) mu) nc w c) qq) u)) nc) nw (nw - t)) ∧ ∀ t c, j ≤ t → t < nw → c < nc → Y t c = fwv on p0 (p1 + p2 * dm t) p3 ((fil2 nw nc (fun w c => fqu cx cy ch on wx wy (fil nc (fus rm sv dm nw) mu) nc w c) qq) t) c) (fun (j : Nat) (P : Nat → Int32) (Y : Nat → Nat → Int32) => (wSo cI cW a b r2 P rl cn be bw Y ++ (wL cI cZ cG a r nc nw cx cy ch rm on wx wy dm sv (fil nc (fus rm sv dm nw) mu) (fil2 nw nc (fun w c => fqu cx cy ch on wx wy (fil nc (fus rm sv dm nw) mu) nc w c) qq)))) (fun (j : Nat) (P : Nat → Int32) (Y : Nat → Nat → Int32) => [some (.ref (b 0)), some (.int p0), some (.int p1), some (.int p2), some (.int p3), some (.int (nI j - 1)), none]) (fun (j : Nat) (P : Nat → Int32) (Y : Nat → Nat → Int32) => j) ⟨Nat.le_refl _, fun t h1 h2 => by rw [show t = nw by omega, Nat.sub_self]; simp [upd, fho], fun t c h1 h2 => absurd h1 (by omega)⟩ rfl rfl (fun j P Y hI ih => ?_)
  obtain ⟨h1, h2, h3⟩ := hI
  refine g_iload C dX1_greatestWorth_31 rfl ?_
  refine g_if_lt C 86 dX1_greatestWorth_33 (by decide) (fun c_33 => ?_) (fun c_33 => ?_)
  · skip
    have e0 : j = 0 := by
      rcases Nat.eq_zero_or_pos j with q | q
      · exact q
      · exfalso
        obtain ⟨j2, rfl⟩ : ∃ j2, j = j2 + 1 := ⟨j - 1, by omega⟩
        rw [nI_pred] at c_33
        exact nI_pos (by omega) c_33
    refine g_aload_n C dX1_greatestWorth_86 rfl ?_
    refine g_get C 0 iX1_greatestWorth_X1 rfl rfl 0 (by decide) f29 rfl dX1_greatestWorth_87 ?_
    refine g_get C 12 iX1_greatestWorth_X0 rfl rfl 3 (by decide) f49 rfl dX1_greatestWorth_90 ?_
    refine g_iconst C 0 dX1_greatestWorth_93 (by decide +kernel) ?_
    refine g_aload_n C dX1_greatestWorth_94 rfl ?_
    refine g_get C 0 iX1_greatestWorth_X1 rfl rfl 3 (by decide) f20 rfl dX1_greatestWorth_95 ?_
    refine g_iconst C 0 dX1_greatestWorth_98 (by decide +kernel) ?_
    refine g_aload_n C dX1_greatestWorth_99 rfl ?_
    refine g_get C 0 iX1_greatestWorth_X1 rfl rfl 0 (by decide) f29 rfl dX1_greatestWorth_100 ?_
    refine g_get C 12 iX1_greatestWorth_X0 rfl rfl 5 (by decide) f52 rfl dX1_greatestWorth_103 ?_
    refine g_copy C (C.ts _ (by decide +kernel)) (C.ts _ (by decide +kernel)) (C.ts _ (by decide +kernel)) (C.ts _ (by decide +kernel)) 16 3 rfl rfl rfl nc rfl (by omega) (by omega) (by omega) (Nat.le_of_ble_eq_true rfl) (Nat.le_of_ble_eq_true rfl) (wSo cI cW a b r2 P (va_cpy rm rl 0 0 nc) cn be bw Y ++ (wL cI cZ cG a r nc nw cx cy ch rm on wx wy dm sv (fil nc (fus rm sv dm nw) mu) (fil2 nw nc (fun w c => fqu cx cy ch on wx wy (fil nc (fus rm sv dm nw) mu) nc w c) qq))) rfl dX1_greatestWorth_106 ?_
    refine g_aload_n C dX1_greatestWorth_109 rfl ?_
    refine g_iconst C (-1) dX1_greatestWorth_110 (by decide +kernel) ?_
    refine g_put C 0 iX1_greatestWorth_X1 rfl rfl 6 (by decide) f61 rfl tyX1 tyX1_ok nmX1 (ty := .int) (by decide +kernel) rfl rfl (Nat.le_of_ble_eq_true rfl) (wSo cI cW a b r2 P (va_cpy rm rl 0 0 nc) cn be ((-1)) Y ++ (wL cI cZ cG a r nc nw cx cy ch rm on wx wy dm sv (fil nc (fus rm sv dm nw) mu) (fil2 nw nc (fun w c => fqu cx cy ch on wx wy (fil nc (fus rm sv dm nw) mu) nc w c) qq))) rfl dX1_greatestWorth_111 ?_
    refine g_aload_n C dX1_greatestWorth_114 rfl ?_
    refine g_iconst C 0 dX1_greatestWorth_115 (by decide +kernel) ?_
    refine g_iconst C 0 dX1_greatestWorth_116 (by decide +kernel) ?_
    refine g_callSv C [] (wSo cI cW a b r2 P (va_cpy rm rl 0 0 nc) cn be ((-1)) Y ++ (wL cI cZ cG a r nc nw cx cy ch rm on wx wy dm sv (fil nc (fus rm sv dm nw) mu) (fil2 nw nc (fun w c => fqu cx cy ch on wx wy (fil nc (fus rm sv dm nw) mu) nc w c) qq))) [.ref (b 0), .int 0, .int 0] (t_X1_place h5 h6 7 (show nw < 0 + 7 by omega) (Nat.zero_le _)) (va_cwS 3 C.ts gX1_greatestWorth_X1_place rfl rfl rfl (by decide +kernel) ⟨Nat.le_of_ble_eq_true rfl, Nat.le_of_ble_eq_true rfl⟩) rfl rfl rfl (Nat.le_of_ble_eq_true rfl) dX1_greatestWorth_117 ⟨Nat.le_of_ble_eq_true rfl, Nat.le_of_ble_eq_true rfl⟩ (fun wv2 tv2 hp2 => ?_)
    obtain ⟨rfl, rfl⟩ := hp2
    refine g_aload_n C dX1_greatestWorth_120 rfl ?_
    refine g_get C 0 iX1_greatestWorth_X1 rfl rfl 6 (by decide) f61 rfl dX1_greatestWorth_121 ?_
    exact g_iret C hret dX1_greatestWorth_124 (Nat.le_of_ble_eq_true rfl) (Nat.le_of_ble_eq_true rfl) ⟨fpl P Y dm nc nw 7 0 0 (va_cpy rm rl 0 0 nc, cn, be, -1), P, Y, rfl, rfl, rfl, fun t ht => h2 t (by omega) ht, fun t c ht hc => h3 t c (by omega) ht hc⟩
  · skip
    have e0 : 0 < j := by
      rcases Nat.eq_zero_or_pos j with q | q
      · exfalso
        subst q
        exact c_33 (by decide)
      · exact q
    obtain ⟨j2, rfl⟩ : ∃ j2, j = j2 + 1 := ⟨j - 1, by omega⟩
    refine g_lv (lv' := [some (.ref (b 0)), some (.int p0), some (.int p1), some (.int p2), some (.int p3), some (.int (nI j2)), none]) (by rw [nI_pred]) ?_
    refine g_iload_n C dX1_greatestWorth_36 rfl ?_
    refine g_iload_n C dX1_greatestWorth_37 rfl ?_
    refine g_aload_n C dX1_greatestWorth_38 rfl ?_
    refine g_get C 0 iX1_greatestWorth_X1 rfl rfl 0 (by decide) f29 rfl dX1_greatestWorth_39 ?_
    refine g_get C 12 iX1_greatestWorth_X0 rfl rfl 8 (by decide) f42 rfl dX1_greatestWorth_42 ?_
    refine g_iload C dX1_greatestWorth_45 rfl ?_
    refine g_iald C 20 0 rfl rfl j2 rfl (by omega) (by decide) (dm j2) rfl dX1_greatestWorth_47 ?_
    refine g_imul C (p2 * (dm j2)) dX1_greatestWorth_48 rfl ?_
    refine g_iadd C (p1 + (p2 * (dm j2))) dX1_greatestWorth_49 rfl ?_
    refine g_istore C [some (.ref (b 0)), some (.int p0), some (.int p1), some (.int p2), some (.int p3), some (.int (nI j2)), some (.int (p1 + (p2 * (dm j2))))] dX1_greatestWorth_50 (by decide) rfl rfl ?_
    refine g_aload_n C dX1_greatestWorth_52 rfl ?_
    refine g_get C 0 iX1_greatestWorth_X1 rfl rfl 2 (by decide) f16 rfl dX1_greatestWorth_53 ?_
    refine g_iload C dX1_greatestWorth_56 rfl ?_
    refine g_aload_n C dX1_greatestWorth_58 rfl ?_
    refine g_get C 0 iX1_greatestWorth_X1 rfl rfl 2 (by decide) f16 rfl dX1_greatestWorth_59 ?_
    refine g_iload C dX1_greatestWorth_62 rfl ?_
    refine g_iconst C 1 dX1_greatestWorth_64 (by decide +kernel) ?_
    refine g_iadd C (nI (j2 + 1)) dX1_greatestWorth_65 (nI_1 j2) ?_
    refine g_iald C 2 0 rfl rfl (j2 + 1) rfl (by omega) (by decide) (P (j2 + 1)) rfl dX1_greatestWorth_66 ?_
    refine g_aload_n C dX1_greatestWorth_67 rfl ?_
    refine g_iload C dX1_greatestWorth_68 rfl ?_
    refine g_iload_n C dX1_greatestWorth_70 rfl ?_
    refine g_iload C dX1_greatestWorth_71 rfl ?_
    refine g_iload C dX1_greatestWorth_73 rfl ?_
    refine g_callVi C [] (wSo cI cW a b r2 P rl cn be bw Y ++ (wL cI cZ cG a r nc nw cx cy ch rm on wx wy dm sv (fil nc (fus rm sv dm nw) mu) (fil2 nw nc (fun w c => fqu cx cy ch on wx wy (fil nc (fus rm sv dm nw) mu) nc w c) qq))) [.int (nI j2), .int p0, .int (p1 + (p2 * (dm j2))), .int p3] (t_X1_fillWorth h5 (by omega)) rfl rfl (cwV 4 C.ts gX1_greatestWorth_X1_fillWorth rfl rfl rfl (by decide +kernel) ⟨Nat.le_of_ble_eq_true rfl, Nat.le_of_ble_eq_true rfl⟩) rfl rfl rfl (Nat.le_of_ble_eq_true rfl) dX1_greatestWorth_75 ⟨Nat.le_of_ble_eq_true rfl, Nat.le_of_ble_eq_true rfl⟩ (fun rv3 wv3 hp3 => ?_)
    obtain ⟨rfl, rfl⟩ := hp3
    refine g_iadd C ((P (j2 + 1)) + (fmx (fwv on p0 (p1 + (p2 * (dm j2))) p3 ((fil2 nw nc (fun w c => fqu cx cy ch on wx wy (fil nc (fus rm sv dm nw) mu) nc w c) qq) j2)) nc)) dX1_greatestWorth_78 rfl ?_
    refine g_iast C 2 0 rfl rfl j2 rfl (by omega) (by decide) (wSo cI cW a b r2 (upd P j2 ((P (j2 + 1)) + (fmx (fwv on p0 (p1 + (p2 * (dm j2))) p3 ((fil2 nw nc (fun w c => fqu cx cy ch on wx wy (fil nc (fus rm sv dm nw) mu) nc w c) qq) j2)) nc))) rl cn be bw (fwr j2 nc (fwv on p0 (p1 + (p2 * (dm j2))) p3 ((fil2 nw nc (fun w c => fqu cx cy ch on wx wy (fil nc (fus rm sv dm nw) mu) nc w c) qq) j2)) Y) ++ (wL cI cZ cG a r nc nw cx cy ch rm on wx wy dm sv (fil nc (fus rm sv dm nw) mu) (fil2 nw nc (fun w c => fqu cx cy ch on wx wy (fil nc (fus rm sv dm nw) mu) nc w c) qq))) rfl dX1_greatestWorth_79 ?_
    refine g_iinc C (nI j2 - 1) [some (.ref (b 0)), some (.int p0), some (.int p1), some (.int p2), some (.int p3), some (.int (nI j2 - 1)), some (.int (p1 + (p2 * (dm j2))))] dX1_greatestWorth_80 rfl (dec1 _) (by decide) rfl rfl ?_
    refine g_goto C 31 dX1_greatestWorth_83 (by decide) ?_
    refine g_mask [true, true, true, true, true, true, false] rfl ?_
    exact ih j2 (upd P j2 ((P (j2 + 1)) + (fmx (fwv on p0 (p1 + (p2 * (dm j2))) p3 ((fil2 nw nc (fun w c => fqu cx cy ch on wx wy (fil nc (fus rm sv dm nw) mu) nc w c) qq) j2)) nc))) (fwr j2 nc (fwv on p0 (p1 + (p2 * (dm j2))) p3 ((fil2 nw nc (fun w c => fqu cx cy ch on wx wy (fil nc (fus rm sv dm nw) mu) nc w c) qq) j2)) Y) ⟨by omega, fho_step h1 h2 rfl, fwr_step h1 h3⟩ (by omega)
end
section
/-! CellPlanner, what throws nothing -/
theorem iX2_ticks_X2 : ∀ w ∈ u_ws RX2 TX2 13, w ∈ wsX2_ticks := by decide +kernel
set_option maxHeartbeats 1000000 in
set_option maxRecDepth 100000 in
theorem t_X2_ticks {l : Launch} {D : va_G} {cI cZ cJ cG cW : ClassId} {a b d : Nat → Nat} {mg pt bd tk ho ri lo : Int32} {fv hd lf la : Nat → Int32} {r2 : Nat → Nat} {hp rl cn be : Nat → Int32} {bw : Int32} {wo : Nat → Nat → Int32} {r : Nat → Nat} {nc nw : Nat} {cx cy ch rm on wx wy dm sv mu : Nat → Int32} {qq : Nat → Nat → Int32}   : CtI l yX2_ticks wsX2_ticks 0 0 0 0 D (T5 cI cZ cJ cG cW) [.ref (d 0)] ((wCo cI a b d mg pt bd tk ho ri lo fv hd lf la ++ wSo cI cW a b r2 hp rl cn be bw wo) ++ wL cI cZ cG a r nc nw cx cy ch rm on wx wy dm sv mu qq) (fun rv wv => rv = tk ∧ wv = ((wCo cI a b d mg pt bd tk ho ri lo fv hd lf la ++ wSo cI cW a b r2 hp rl cn be bw wo) ++ wL cI cZ cG a r nc nw cx cy ch rm on wx wy dm sv mu qq)) := by
  refine ctI_of (cc := cX2_ticks) (maxL := 1) RX2 0 [some (.ref (d 0))] (by decide +kernel) rfl rfl (Nat.le_of_ble_eq_true rfl) rfl (fun p_ e_ s_ m_ as_ bl_ me_ co_ C hret => ?_)
  have f107 := C.ts (.fieldLink RX2 107 "CellPlanner" "ticks" "I") (by decide +kernel)
  refine g_aload_n C dX2_ticks_0 rfl ?_
  refine g_get C 0 iX2_ticks_X2 rfl rfl 9 (by decide) f107 rfl dX2_ticks_1 ?_
  exact g_iret C hret dX2_ticks_4 (Nat.le_of_ble_eq_true rfl) (Nat.le_of_ble_eq_true rfl) ⟨rfl, rfl⟩
theorem iX2_handovers_X2 : ∀ w ∈ u_ws RX2 TX2 13, w ∈ wsX2_handovers := by decide +kernel
set_option maxHeartbeats 1000000 in
set_option maxRecDepth 100000 in
theorem t_X2_handovers {l : Launch} {D : va_G} {cI cZ cJ cG cW : ClassId} {a b d : Nat → Nat} {mg pt bd tk ho ri lo : Int32} {fv hd lf la : Nat → Int32} {r2 : Nat → Nat} {hp rl cn be : Nat → Int32} {bw : Int32} {wo : Nat → Nat → Int32} {r : Nat → Nat} {nc nw : Nat} {cx cy ch rm on wx wy dm sv mu : Nat → Int32} {qq : Nat → Nat → Int32}   : CtI l yX2_handovers wsX2_handovers 0 0 0 0 D (T5 cI cZ cJ cG cW) [.ref (d 0)] ((wCo cI a b d mg pt bd tk ho ri lo fv hd lf la ++ wSo cI cW a b r2 hp rl cn be bw wo) ++ wL cI cZ cG a r nc nw cx cy ch rm on wx wy dm sv mu qq) (fun rv wv => rv = ho ∧ wv = ((wCo cI a b d mg pt bd tk ho ri lo fv hd lf la ++ wSo cI cW a b r2 hp rl cn be bw wo) ++ wL cI cZ cG a r nc nw cx cy ch rm on wx wy dm sv mu qq)) := by
  refine ctI_of (cc := cX2_handovers) (maxL := 1) RX2 0 [some (.ref (d 0))] (by decide +kernel) rfl rfl (Nat.le_of_ble_eq_true rfl) rfl (fun p_ e_ s_ m_ as_ bl_ me_ co_ C hret => ?_)
  have f101 := C.ts (.fieldLink RX2 101 "CellPlanner" "handovers" "I") (by decide +kernel)
  refine g_aload_n C dX2_handovers_0 rfl ?_
  refine g_get C 0 iX2_handovers_X2 rfl rfl 10 (by decide) f101 rfl dX2_handovers_1 ?_
  exact g_iret C hret dX2_handovers_4 (Nat.le_of_ble_eq_true rfl) (Nat.le_of_ble_eq_true rfl) ⟨rfl, rfl⟩
theorem iX2_rings_X2 : ∀ w ∈ u_ws RX2 TX2 13, w ∈ wsX2_rings := by decide +kernel
set_option maxHeartbeats 1000000 in
set_option maxRecDepth 100000 in
theorem t_X2_rings {l : Launch} {D : va_G} {cI cZ cJ cG cW : ClassId} {a b d : Nat → Nat} {mg pt bd tk ho ri lo : Int32} {fv hd lf la : Nat → Int32} {r2 : Nat → Nat} {hp rl cn be : Nat → Int32} {bw : Int32} {wo : Nat → Nat → Int32} {r : Nat → Nat} {nc nw : Nat} {cx cy ch rm on wx wy dm sv mu : Nat → Int32} {qq : Nat → Nat → Int32}   : CtI l yX2_rings wsX2_rings 0 0 0 0 D (T5 cI cZ cJ cG cW) [.ref (d 0)] ((wCo cI a b d mg pt bd tk ho ri lo fv hd lf la ++ wSo cI cW a b r2 hp rl cn be bw wo) ++ wL cI cZ cG a r nc nw cx cy ch rm on wx wy dm sv mu qq) (fun rv wv => rv = ri ∧ wv = ((wCo cI a b d mg pt bd tk ho ri lo fv hd lf la ++ wSo cI cW a b r2 hp rl cn be bw wo) ++ wL cI cZ cG a r nc nw cx cy ch rm on wx wy dm sv mu qq)) := by
  refine ctI_of (cc := cX2_rings) (maxL := 1) RX2 0 [some (.ref (d 0))] (by decide +kernel) rfl rfl (Nat.le_of_ble_eq_true rfl) rfl (fun p_ e_ s_ m_ as_ bl_ me_ co_ C hret => ?_)
  have f131 := C.ts (.fieldLink RX2 131 "CellPlanner" "rings" "I") (by decide +kernel)
  refine g_aload_n C dX2_rings_0 rfl ?_
  refine g_get C 0 iX2_rings_X2 rfl rfl 11 (by decide) f131 rfl dX2_rings_1 ?_
  exact g_iret C hret dX2_rings_4 (Nat.le_of_ble_eq_true rfl) (Nat.le_of_ble_eq_true rfl) ⟨rfl, rfl⟩
theorem iX2_losses_X2 : ∀ w ∈ u_ws RX2 TX2 13, w ∈ wsX2_losses := by decide +kernel
set_option maxHeartbeats 1000000 in
set_option maxRecDepth 100000 in
theorem t_X2_losses {l : Launch} {D : va_G} {cI cZ cJ cG cW : ClassId} {a b d : Nat → Nat} {mg pt bd tk ho ri lo : Int32} {fv hd lf la : Nat → Int32} {r2 : Nat → Nat} {hp rl cn be : Nat → Int32} {bw : Int32} {wo : Nat → Nat → Int32} {r : Nat → Nat} {nc nw : Nat} {cx cy ch rm on wx wy dm sv mu : Nat → Int32} {qq : Nat → Nat → Int32}   : CtI l yX2_losses wsX2_losses 0 0 0 0 D (T5 cI cZ cJ cG cW) [.ref (d 0)] ((wCo cI a b d mg pt bd tk ho ri lo fv hd lf la ++ wSo cI cW a b r2 hp rl cn be bw wo) ++ wL cI cZ cG a r nc nw cx cy ch rm on wx wy dm sv mu qq) (fun rv wv => rv = lo ∧ wv = ((wCo cI a b d mg pt bd tk ho ri lo fv hd lf la ++ wSo cI cW a b r2 hp rl cn be bw wo) ++ wL cI cZ cG a r nc nw cx cy ch rm on wx wy dm sv mu qq)) := by
  refine ctI_of (cc := cX2_losses) (maxL := 1) RX2 0 [some (.ref (d 0))] (by decide +kernel) rfl rfl (Nat.le_of_ble_eq_true rfl) rfl (fun p_ e_ s_ m_ as_ bl_ me_ co_ C hret => ?_)
  have f134 := C.ts (.fieldLink RX2 134 "CellPlanner" "losses" "I") (by decide +kernel)
  refine g_aload_n C dX2_losses_0 rfl ?_
  refine g_get C 0 iX2_losses_X2 rfl rfl 12 (by decide) f134 rfl dX2_losses_1 ?_
  exact g_iret C hret dX2_losses_4 (Nat.le_of_ble_eq_true rfl) (Nat.le_of_ble_eq_true rfl) ⟨rfl, rfl⟩
theorem iX2_cells_X0 : ∀ w ∈ u_ws RX0 TX0 13, w ∈ wsX2_cells := by decide +kernel
theorem iX2_cells_X2 : ∀ w ∈ u_ws RX2 TX2 13, w ∈ wsX2_cells := by decide +kernel
set_option maxHeartbeats 1000000 in
set_option maxRecDepth 100000 in
theorem t_X2_cells {l : Launch} {D : va_G} {cI cZ cJ cG cW : ClassId} {a b d : Nat → Nat} {mg pt bd tk ho ri lo : Int32} {fv hd lf la : Nat → Int32} {r2 : Nat → Nat} {hp rl cn be : Nat → Int32} {bw : Int32} {wo : Nat → Nat → Int32} {r : Nat → Nat} {nc nw : Nat} {cx cy ch rm on wx wy dm sv mu : Nat → Int32} {qq : Nat → Nat → Int32}   : CtI l yX2_cells wsX2_cells 0 0 0 0 D (T5 cI cZ cJ cG cW) [.ref (d 0)] ((wCo cI a b d mg pt bd tk ho ri lo fv hd lf la ++ wSo cI cW a b r2 hp rl cn be bw wo) ++ wL cI cZ cG a r nc nw cx cy ch rm on wx wy dm sv mu qq) (fun rv wv => rv = nI nc ∧ wv = ((wCo cI a b d mg pt bd tk ho ri lo fv hd lf la ++ wSo cI cW a b r2 hp rl cn be bw wo) ++ wL cI cZ cG a r nc nw cx cy ch rm on wx wy dm sv mu qq)) := by
  refine ctI_of (cc := cX2_cells) (maxL := 1) RX2 0 [some (.ref (d 0))] (by decide +kernel) rfl rfl (Nat.le_of_ble_eq_true rfl) rfl (fun p_ e_ s_ m_ as_ bl_ me_ co_ C hret => ?_)
  have f10 := C.ts (.fieldLink RX2 10 "CellPlanner" "land" "LCellPlanner$Land;") (by decide +kernel)
  have f52 := C.ts (.fieldLink RX2 52 "CellPlanner$Land" "cells" "I") (by decide +kernel)
  refine g_aload_n C dX2_cells_0 rfl ?_
  refine g_get C 0 iX2_cells_X2 rfl rfl 0 (by decide) f10 rfl dX2_cells_1 ?_
  refine g_get C 17 iX2_cells_X0 rfl rfl 5 (by decide) f52 rfl dX2_cells_4 ?_
  exact g_iret C hret dX2_cells_7 (Nat.le_of_ble_eq_true rfl) (Nat.le_of_ble_eq_true rfl) ⟨rfl, rfl⟩
theorem iX2_walkers_X0 : ∀ w ∈ u_ws RX0 TX0 13, w ∈ wsX2_walkers := by decide +kernel
theorem iX2_walkers_X2 : ∀ w ∈ u_ws RX2 TX2 13, w ∈ wsX2_walkers := by decide +kernel
set_option maxHeartbeats 1000000 in
set_option maxRecDepth 100000 in
theorem t_X2_walkers {l : Launch} {D : va_G} {cI cZ cJ cG cW : ClassId} {a b d : Nat → Nat} {mg pt bd tk ho ri lo : Int32} {fv hd lf la : Nat → Int32} {r2 : Nat → Nat} {hp rl cn be : Nat → Int32} {bw : Int32} {wo : Nat → Nat → Int32} {r : Nat → Nat} {nc nw : Nat} {cx cy ch rm on wx wy dm sv mu : Nat → Int32} {qq : Nat → Nat → Int32}   : CtI l yX2_walkers wsX2_walkers 0 0 0 0 D (T5 cI cZ cJ cG cW) [.ref (d 0)] ((wCo cI a b d mg pt bd tk ho ri lo fv hd lf la ++ wSo cI cW a b r2 hp rl cn be bw wo) ++ wL cI cZ cG a r nc nw cx cy ch rm on wx wy dm sv mu qq) (fun rv wv => rv = nI nw ∧ wv = ((wCo cI a b d mg pt bd tk ho ri lo fv hd lf la ++ wSo cI cW a b r2 hp rl cn be bw wo) ++ wL cI cZ cG a r nc nw cx cy ch rm on wx wy dm sv mu qq)) := by
  refine ctI_of (cc := cX2_walkers) (maxL := 1) RX2 0 [some (.ref (d 0))] (by decide +kernel) rfl rfl (Nat.le_of_ble_eq_true rfl) rfl (fun p_ e_ s_ m_ as_ bl_ me_ co_ C hret => ?_)
  have f10 := C.ts (.fieldLink RX2 10 "CellPlanner" "land" "LCellPlanner$Land;") (by decide +kernel)
  have f80 := C.ts (.fieldLink RX2 80 "CellPlanner$Land" "walkers" "I") (by decide +kernel)
  refine g_aload_n C dX2_walkers_0 rfl ?_
  refine g_get C 0 iX2_walkers_X2 rfl rfl 0 (by decide) f10 rfl dX2_walkers_1 ?_
  refine g_get C 17 iX2_walkers_X0 rfl rfl 10 (by decide) f80 rfl dX2_walkers_4 ?_
  exact g_iret C hret dX2_walkers_7 (Nat.le_of_ble_eq_true rfl) (Nat.le_of_ble_eq_true rfl) ⟨rfl, rfl⟩
theorem iX2_dropFavourite_X2 : ∀ w ∈ u_ws RX2 TX2 13, w ∈ wsX2_dropFavourite := by decide +kernel
set_option maxHeartbeats 1000000 in
set_option maxRecDepth 100000 in
theorem t_X2_dropFavourite {l : Launch} {D : va_G} {cI cZ cJ cG cW : ClassId} {a b d : Nat → Nat} {mg pt bd tk ho ri lo : Int32} {fv hd lf la : Nat → Int32} {r2 : Nat → Nat} {hp rl cn be : Nat → Int32} {bw : Int32} {wo : Nat → Nat → Int32} {r : Nat → Nat} {nc nw : Nat} {cx cy ch rm on wx wy dm sv mu : Nat → Int32} {qq : Nat → Nat → Int32} {kw : Nat} (hw : kw < 6) : CtV l yX2_dropFavourite wsX2_dropFavourite 0 0 0 0 D (T5 cI cZ cJ cG cW) [.ref (d 0), .int (nI kw)] ((wCo cI a b d mg pt bd tk ho ri lo fv hd lf la ++ wSo cI cW a b r2 hp rl cn be bw wo) ++ wL cI cZ cG a r nc nw cx cy ch rm on wx wy dm sv mu qq) (fun wv tv => wv = ((wCo cI a b d mg pt bd tk ho ri lo (upd fv kw (-1)) (upd hd kw 0) lf la ++ wSo cI cW a b r2 hp rl cn be bw wo) ++ wL cI cZ cG a r nc nw cx cy ch rm on wx wy dm sv mu qq) ∧ tv = (T5 cI cZ cJ cG cW)) := by
  refine ctV_of (cc := cX2_dropFavourite) (maxL := 2) RX2 0 [some (.ref (d 0)), some (.int (nI kw))] (by decide +kernel) rfl rfl (Nat.le_of_ble_eq_true rfl) rfl (fun p_ e_ s_ m_ as_ bl_ me_ co_ C hret hini => ?_)
  have f25 := C.ts (.fieldLink RX2 25 "CellPlanner" "favourite" "[I") (by decide +kernel)
  have f29 := C.ts (.fieldLink RX2 29 "CellPlanner" "held" "[I") (by decide +kernel)
  refine g_aload_n C dX2_dropFavourite_0 rfl ?_
  refine g_get C 0 iX2_dropFavourite_X2 rfl rfl 2 (by decide) f25 rfl dX2_dropFavourite_1 ?_
  refine g_iload_n C dX2_dropFavourite_4 rfl ?_
  refine g_iconst C (-1) dX2_dropFavourite_5 (by decide +kernel) ?_
  refine g_iast C 1 0 rfl rfl kw rfl (by omega) (by decide) ((wCo cI a b d mg pt bd tk ho ri lo (upd fv kw ((-1))) hd lf la ++ wSo cI cW a b r2 hp rl cn be bw wo) ++ wL cI cZ cG a r nc nw cx cy ch rm on wx wy dm sv mu qq) rfl dX2_dropFavourite_6 ?_
  refine g_aload_n C dX2_dropFavourite_7 rfl ?_
  refine g_get C 0 iX2_dropFavourite_X2 rfl rfl 3 (by decide) f29 rfl dX2_dropFavourite_8 ?_
  refine g_iload_n C dX2_dropFavourite_11 rfl ?_
  refine g_iconst C 0 dX2_dropFavourite_12 (by decide +kernel) ?_
  refine g_iast C 2 0 rfl rfl kw rfl (by omega) (by decide) ((wCo cI a b d mg pt bd tk ho ri lo (upd fv kw ((-1))) (upd hd kw 0) lf la ++ wSo cI cW a b r2 hp rl cn be bw wo) ++ wL cI cZ cG a r nc nw cx cy ch rm on wx wy dm sv mu qq) rfl dX2_dropFavourite_13 ?_
  exact g_vret C hret dX2_dropFavourite_14 (Nat.le_of_ble_eq_true rfl) (Nat.le_of_ble_eq_true rfl) ⟨rfl, rfl⟩
theorem iX2_releaseWalkers_X0 : ∀ w ∈ u_ws RX0 TX0 13, w ∈ wsX2_releaseWalkers := by decide +kernel
theorem iX2_releaseWalkers_X2 : ∀ w ∈ u_ws RX2 TX2 13, w ∈ wsX2_releaseWalkers := by decide +kernel
set_option maxHeartbeats 1000000 in
set_option maxRecDepth 100000 in
theorem t_X2_releaseWalkers {l : Launch} {D : va_G} {cI cZ cJ cG cW : ClassId} {a b d : Nat → Nat} {mg pt bd tk ho ri lo : Int32} {fv hd lf la : Nat → Int32} {r2 : Nat → Nat} {hp rl cn be : Nat → Int32} {bw : Int32} {wo : Nat → Nat → Int32} {r : Nat → Nat} {nc nw : Nat} {cx cy ch rm on wx wy dm sv mu : Nat → Int32} {qq : Nat → Nat → Int32} {p1 : Int32} (h6 : nw ≤ 6) : CtV l yX2_releaseWalkers wsX2_releaseWalkers 1 21 0 0 D (T5 cI cZ cJ cG cW) [.ref (d 0), .int p1] ((wCo cI a b d mg pt bd tk ho ri lo fv hd lf la ++ wSo cI cW a b r2 hp rl cn be bw wo) ++ wL cI cZ cG a r nc nw cx cy ch rm on wx wy dm sv mu qq) (fun wv tv => wv = ((wCo cI a b d mg pt bd tk ho ri lo ((frw p1 (sv, fv, hd) nw).2.1) ((frw p1 (sv, fv, hd) nw).2.2) lf la ++ wSo cI cW a b r2 hp rl cn be bw wo) ++ wL cI cZ cG a r nc nw cx cy ch rm on wx wy dm ((frw p1 (sv, fv, hd) nw).1) mu qq) ∧ tv = (T5 cI cZ cJ cG cW)) := by
  refine ctV_of (cc := cX2_releaseWalkers) (maxL := 3) RX2 1 [some (.ref (d 0)), some (.int p1), none] (by decide +kernel) rfl rfl (Nat.le_of_ble_eq_true rfl) rfl (fun p_ e_ s_ m_ as_ bl_ me_ co_ C hret hini => ?_)
  have f10 := C.ts (.fieldLink RX2 10 "CellPlanner" "land" "LCellPlanner$Land;") (by decide +kernel)
  have f80 := C.ts (.fieldLink RX2 80 "CellPlanner$Land" "walkers" "I") (by decide +kernel)
  have f128 := C.ts (.fieldLink RX2 128 "CellPlanner$Land" "server" "[I") (by decide +kernel)
  refine g_iconst C 0 dX2_releaseWalkers_0 (by decide +kernel) ?_
  refine g_istore_n C [some (.ref (d 0)), some (.int p1), some (.int 0)] dX2_releaseWalkers_1 (by decide) rfl rfl ?_
  refine g_loop2 0 ((sv, fv, hd)) (fun (i : Nat) (z : (Nat → Int32) × (Nat → Int32) × (Nat → Int32)) => i ≤ nw ∧ z = frw p1 (sv, fv, hd) i) (fun (i : Nat) (z : (Nat → Int32) × (Nat → Int32) × (Nat → Int32)) => ((wCo cI a b d mg pt bd tk ho ri lo z.2.1 z.2.2 lf la ++ wSo cI cW a b r2 hp rl cn be bw wo) ++ wL cI cZ cG a r nc nw cx cy ch rm on wx wy dm z.1 mu qq)) (fun (i : Nat) (z : (Nat → Int32) × (Nat → Int32) × (Nat → Int32)) => [some (.ref (d 0)), some (.int p1), some (.int (nI i))]) (fun (i : Nat) (z : (Nat → Int32) × (Nat → Int32) × (Nat → Int32)) => nw - i) ⟨Nat.zero_le _, rfl⟩ rfl rfl (fun i z hI ih => ?_)
  obtain ⟨h1, h2⟩ := hI
  refine g_iload_n C dX2_releaseWalkers_2 rfl ?_
  refine g_aload_n C dX2_releaseWalkers_3 rfl ?_
  refine g_get C 0 iX2_releaseWalkers_X2 rfl rfl 0 (by decide) f10 rfl dX2_releaseWalkers_4 ?_
  refine g_get C 17 iX2_releaseWalkers_X0 rfl rfl 10 (by decide) f80 rfl dX2_releaseWalkers_7 ?_
  refine g_icmp_ge C 47 dX2_releaseWalkers_10 (by decide) (fun c_10 => ?_) (fun c_10 => ?_)
  · skip
    have c_10 : nw ≤ i := (nI_leI (by omega) (by omega)).mp c_10
    exact g_vret C hret dX2_releaseWalkers_47 (Nat.le_of_ble_eq_true rfl) (Nat.le_of_ble_eq_true rfl) ⟨(by rw [← show z = frw p1 (sv, fv, hd) nw from (by rw [h2, show i = nw by omega])] <;> rfl), rfl⟩
  · skip
    have c_10 : ¬ (nw ≤ i) := fun h9 => c_10 ((nI_leI (by omega) (by omega)).mpr h9)
    refine g_aload_n C dX2_releaseWalkers_13 rfl ?_
    refine g_get C 0 iX2_releaseWalkers_X2 rfl rfl 0 (by decide) f10 rfl dX2_releaseWalkers_14 ?_
    refine g_get C 17 iX2_releaseWalkers_X0 rfl rfl 9 (by decide) f128 rfl dX2_releaseWalkers_17 ?_
    refine g_iload_n C dX2_releaseWalkers_20 rfl ?_
    refine g_iald C 26 0 rfl rfl i rfl (by omega) (by decide) (z.1 i) rfl dX2_releaseWalkers_21 ?_
    refine g_iload_n C dX2_releaseWalkers_22 rfl ?_
    refine g_icmp_ne C 41 dX2_releaseWalkers_23 (by decide) (fun c_23 => ?_) (fun c_23 => ?_)
    · skip
      refine g_iinc C (nI (i + 1)) [some (.ref (d 0)), some (.int p1), some (.int (nI (i + 1)))] dX2_releaseWalkers_41 rfl (nI_1 i) (by decide) rfl rfl ?_
      refine g_goto C 2 dX2_releaseWalkers_44 (by decide) ?_
      exact ih (i + 1) z ⟨by omega, by rw [frw, ← h2, if_neg c_23]⟩ (by omega)
    · skip
      refine g_aload_n C dX2_releaseWalkers_26 rfl ?_
      refine g_get C 0 iX2_releaseWalkers_X2 rfl rfl 0 (by decide) f10 rfl dX2_releaseWalkers_27 ?_
      refine g_get C 17 iX2_releaseWalkers_X0 rfl rfl 9 (by decide) f128 rfl dX2_releaseWalkers_30 ?_
      refine g_iload_n C dX2_releaseWalkers_33 rfl ?_
      refine g_iconst C (-1) dX2_releaseWalkers_34 (by decide +kernel) ?_
      refine g_iast C 26 0 rfl rfl i rfl (by omega) (by decide) ((wCo cI a b d mg pt bd tk ho ri lo z.2.1 z.2.2 lf la ++ wSo cI cW a b r2 hp rl cn be bw wo) ++ wL cI cZ cG a r nc nw cx cy ch rm on wx wy dm (upd z.1 i ((-1))) mu qq) rfl dX2_releaseWalkers_35 ?_
      refine g_aload_n C dX2_releaseWalkers_36 rfl ?_
      refine g_iload_n C dX2_releaseWalkers_37 rfl ?_
      refine g_callVv C [] ((wCo cI a b d mg pt bd tk ho ri lo z.2.1 z.2.2 lf la ++ wSo cI cW a b r2 hp rl cn be bw wo) ++ wL cI cZ cG a r nc nw cx cy ch rm on wx wy dm (upd z.1 i ((-1))) mu qq) [.int (nI i)] (t_X2_dropFavourite (by omega)) rfl rfl (cwV 1 C.ts gX2_releaseWalkers_X2_dropFavourite rfl rfl rfl (by decide +kernel) ⟨Nat.le_of_ble_eq_true rfl, Nat.le_of_ble_eq_true rfl⟩) rfl rfl rfl (Nat.le_of_ble_eq_true rfl) dX2_releaseWalkers_38 ⟨Nat.le_of_ble_eq_true rfl, Nat.le_of_ble_eq_true rfl⟩ (fun wv1 tv1 hp1 => ?_)
      obtain ⟨rfl, rfl⟩ := hp1
      refine g_iinc C (nI (i + 1)) [some (.ref (d 0)), some (.int p1), some (.int (nI (i + 1)))] dX2_releaseWalkers_41 rfl (nI_1 i) (by decide) rfl rfl ?_
      refine g_goto C 2 dX2_releaseWalkers_44 (by decide) ?_
      exact ih (i + 1) ((upd z.1 i ((-1)), upd z.2.1 i (-1), upd z.2.2 i 0)) ⟨by omega, by rw [frw, ← h2, if_pos c_23]⟩ (by omega)
theorem iX2_unserved_X0 : ∀ w ∈ u_ws RX0 TX0 13, w ∈ wsX2_unserved := by decide +kernel
theorem iX2_unserved_X2 : ∀ w ∈ u_ws RX2 TX2 13, w ∈ wsX2_unserved := by decide +kernel
set_option maxHeartbeats 1000000 in
set_option maxRecDepth 100000 in
theorem t_X2_unserved {l : Launch} {D : va_G} {cI cZ cJ cG cW : ClassId} {a b d : Nat → Nat} {mg pt bd tk ho ri lo : Int32} {fv hd lf la : Nat → Int32} {r2 : Nat → Nat} {hp rl cn be : Nat → Int32} {bw : Int32} {wo : Nat → Nat → Int32} {r : Nat → Nat} {nc nw : Nat} {cx cy ch rm on wx wy dm sv mu : Nat → Int32} {qq : Nat → Nat → Int32}  (h6 : nw ≤ 6) : CtI l yX2_unserved wsX2_unserved 0 0 0 0 D (T5 cI cZ cJ cG cW) [.ref (d 0)] ((wCo cI a b d mg pt bd tk ho ri lo fv hd lf la ++ wSo cI cW a b r2 hp rl cn be bw wo) ++ wL cI cZ cG a r nc nw cx cy ch rm on wx wy dm sv mu qq) (fun rv wv => rv = fun0 sv nw ∧ wv = ((wCo cI a b d mg pt bd tk ho ri lo fv hd lf la ++ wSo cI cW a b r2 hp rl cn be bw wo) ++ wL cI cZ cG a r nc nw cx cy ch rm on wx wy dm sv mu qq)) := by
  refine ctI_of (cc := cX2_unserved) (maxL := 3) RX2 2 [some (.ref (d 0)), none, none] (by decide +kernel) rfl rfl (Nat.le_of_ble_eq_true rfl) rfl (fun p_ e_ s_ m_ as_ bl_ me_ co_ C hret => ?_)
  have f10 := C.ts (.fieldLink RX2 10 "CellPlanner" "land" "LCellPlanner$Land;") (by decide +kernel)
  have f80 := C.ts (.fieldLink RX2 80 "CellPlanner$Land" "walkers" "I") (by decide +kernel)
  have f128 := C.ts (.fieldLink RX2 128 "CellPlanner$Land" "server" "[I") (by decide +kernel)
  refine g_iconst C 0 dX2_unserved_0 (by decide +kernel) ?_
  refine g_istore_n C [some (.ref (d 0)), some (.int 0), none] dX2_unserved_1 (by decide) rfl rfl ?_
  refine g_iconst C 0 dX2_unserved_2 (by decide +kernel) ?_
  refine g_istore_n C [some (.ref (d 0)), some (.int 0), some (.int 0)] dX2_unserved_3 (by decide) rfl rfl ?_
  refine g_loop2 0 0 (fun (i : Nat) (x : Int32) => i ≤ nw ∧ x = fun0 sv i) (fun (i : Nat) (x : Int32) => ((wCo cI a b d mg pt bd tk ho ri lo fv hd lf la ++ wSo cI cW a b r2 hp rl cn be bw wo) ++ wL cI cZ cG a r nc nw cx cy ch rm on wx wy dm sv mu qq)) (fun (i : Nat) (x : Int32) => [some (.ref (d 0)), some (.int x), some (.int (nI i))]) (fun (i : Nat) (x : Int32) => nw - i) ⟨Nat.zero_le _, rfl⟩ rfl rfl (fun i x hI ih => ?_)
  obtain ⟨h1, h2⟩ := hI
  refine g_iload_n C dX2_unserved_4 rfl ?_
  refine g_aload_n C dX2_unserved_5 rfl ?_
  refine g_get C 0 iX2_unserved_X2 rfl rfl 0 (by decide) f10 rfl dX2_unserved_6 ?_
  refine g_get C 17 iX2_unserved_X0 rfl rfl 10 (by decide) f80 rfl dX2_unserved_9 ?_
  refine g_icmp_ge C 40 dX2_unserved_12 (by decide) (fun c_12 => ?_) (fun c_12 => ?_)
  · skip
    have c_12 : nw ≤ i := (nI_leI (by omega) (by omega)).mp c_12
    refine g_iload_n C dX2_unserved_40 rfl ?_
    exact g_iret C hret dX2_unserved_41 (Nat.le_of_ble_eq_true rfl) (Nat.le_of_ble_eq_true rfl) ⟨(by rw [h2, show i = nw by omega]), rfl⟩
  · skip
    have c_12 : ¬ (nw ≤ i) := fun h9 => c_12 ((nI_leI (by omega) (by omega)).mpr h9)
    refine g_aload_n C dX2_unserved_15 rfl ?_
    refine g_get C 0 iX2_unserved_X2 rfl rfl 0 (by decide) f10 rfl dX2_unserved_16 ?_
    refine g_get C 17 iX2_unserved_X0 rfl rfl 9 (by decide) f128 rfl dX2_unserved_19 ?_
    refine g_iload_n C dX2_unserved_22 rfl ?_
    refine g_iald C 26 0 rfl rfl i rfl (by omega) (by decide) (sv i) rfl dX2_unserved_23 ?_
    refine g_iconst C (-1) dX2_unserved_24 (by decide +kernel) ?_
    refine g_icmp_ne C 34 dX2_unserved_25 (by decide) (fun c_25 => ?_) (fun c_25 => ?_)
    · skip
      refine g_iinc C (nI (i + 1)) [some (.ref (d 0)), some (.int x), some (.int (nI (i + 1)))] dX2_unserved_34 rfl (nI_1 i) (by decide) rfl rfl ?_
      refine g_goto C 4 dX2_unserved_37 (by decide) ?_
      exact ih (i + 1) x ⟨by omega, by rw [fun0, if_neg c_25, h2]⟩ (by omega)
    · skip
      refine g_iload_n C dX2_unserved_28 rfl ?_
      refine g_iconst C 1 dX2_unserved_29 (by decide +kernel) ?_
      refine g_iload_n C dX2_unserved_30 rfl ?_
      refine g_ishl C (1 <<< ((nI i) &&& 31)) dX2_unserved_31 rfl ?_
      refine g_ior C (x ||| (1 <<< ((nI i) &&& 31))) dX2_unserved_32 rfl ?_
      refine g_istore_n C [some (.ref (d 0)), some (.int (x ||| (1 <<< ((nI i) &&& 31)))), some (.int (nI i))] dX2_unserved_33 (by decide) rfl rfl ?_
      refine g_iinc C (nI (i + 1)) [some (.ref (d 0)), some (.int (x ||| (1 <<< ((nI i) &&& 31)))), some (.int (nI (i + 1)))] dX2_unserved_34 rfl (nI_1 i) (by decide) rfl rfl ?_
      refine g_goto C 4 dX2_unserved_37 (by decide) ?_
      exact ih (i + 1) (x ||| (1 <<< ((nI i) &&& 31))) ⟨by omega, by rw [fun0, if_pos c_25, h2]⟩ (by omega)
theorem iX2_seekCell_X0 : ∀ w ∈ u_ws RX0 TX0 13, w ∈ wsX2_seekCell := by decide +kernel
theorem iX2_seekCell_X2 : ∀ w ∈ u_ws RX2 TX2 13, w ∈ wsX2_seekCell := by decide +kernel
set_option maxHeartbeats 1000000 in
set_option maxRecDepth 100000 in
theorem t_X2_seekCell {l : Launch} {D : va_G} {cI cZ cJ cG cW : ClassId} {a b d : Nat → Nat} {mg pt bd tk ho ri lo : Int32} {fv hd lf la : Nat → Int32} {r2 : Nat → Nat} {hp rl cn be : Nat → Int32} {bw : Int32} {wo : Nat → Nat → Int32} {r : Nat → Nat} {nc nw : Nat} {cx cy ch rm on wx wy dm sv mu : Nat → Int32} {qq : Nat → Nat → Int32} {kw : Nat} (h5 : nc ≤ 5) (h6 : nw ≤ 6) (hw : kw < 6) (hs : sv kw = -1) : CtV l yX2_seekCell wsX2_seekCell 3 68 0 0 D (T5 cI cZ cJ cG cW) [.ref (d 0), .int (nI kw)] ((wCo cI a b d mg pt bd tk ho ri lo fv hd lf la ++ wSo cI cW a b r2 hp rl cn be bw wo) ++ wL cI cZ cG a r nc nw cx cy ch rm on wx wy dm sv mu qq) (fun wv tv => wv = ((wCo cI a b d mg pt bd tk ((fts on dm rm nc nw qq mg pt bd tk kw (sv, fv, hd, lf, la, ho, ri, lo)).2.2.2.2.2.1) ((fts on dm rm nc nw qq mg pt bd tk kw (sv, fv, hd, lf, la, ho, ri, lo)).2.2.2.2.2.2.1) ((fts on dm rm nc nw qq mg pt bd tk kw (sv, fv, hd, lf, la, ho, ri, lo)).2.2.2.2.2.2.2) ((fts on dm rm nc nw qq mg pt bd tk kw (sv, fv, hd, lf, la, ho, ri, lo)).2.1) ((fts on dm rm nc nw qq mg pt bd tk kw (sv, fv, hd, lf, la, ho, ri, lo)).2.2.1) ((fts on dm rm nc nw qq mg pt bd tk kw (sv, fv, hd, lf, la, ho, ri, lo)).2.2.2.1) ((fts on dm rm nc nw qq mg pt bd tk kw (sv, fv, hd, lf, la, ho, ri, lo)).2.2.2.2.1) ++ wSo cI cW a b r2 hp rl cn be bw wo) ++ wL cI cZ cG a r nc nw cx cy ch rm on wx wy dm ((fts on dm rm nc nw qq mg pt bd tk kw (sv, fv, hd, lf, la, ho, ri, lo)).1) mu qq) ∧ tv = (T5 cI cZ cJ cG cW)) := by
  refine ctV_of (cc := cX2_seekCell) (maxL := 3) RX2 1 [some (.ref (d 0)), some (.int (nI kw)), none] (by decide +kernel) rfl rfl (Nat.le_of_ble_eq_true rfl) rfl (fun p_ e_ s_ m_ as_ bl_ me_ co_ C hret hini => ?_)
  have f10 := C.ts (.fieldLink RX2 10 "CellPlanner" "land" "LCellPlanner$Land;") (by decide +kernel)
  have f45 := C.ts (.fieldLink RX2 45 "CellPlanner" "bound" "I") (by decide +kernel)
  have f117 := C.ts (.fieldLink RX2 117 "CellPlanner$Land" "quality" "[[I") (by decide +kernel)
  have f128 := C.ts (.fieldLink RX2 128 "CellPlanner$Land" "server" "[I") (by decide +kernel)
  refine g_aload_n C dX2_seekCell_0 rfl ?_
  refine g_get C 0 iX2_seekCell_X2 rfl rfl 0 (by decide) f10 rfl dX2_seekCell_1 ?_
  refine g_iload_n C dX2_seekCell_4 rfl ?_
  refine g_callVi C (wCo cI a b d mg pt bd tk ho ri lo fv hd lf la ++ wSo cI cW a b r2 hp rl cn be bw wo) (wL cI cZ cG a r nc nw cx cy ch rm on wx wy dm sv mu qq) [.int (nI kw)] (t_X0_bestOther h5 h6 hw) rfl rfl (cwV 1 C.ts gX2_seekCell_X0_bestOther rfl rfl rfl (by decide +kernel) ⟨Nat.le_of_ble_eq_true rfl, Nat.le_of_ble_eq_true rfl⟩) rfl rfl rfl (Nat.le_of_ble_eq_true rfl) dX2_seekCell_5 ⟨Nat.le_of_ble_eq_true rfl, Nat.le_of_ble_eq_true rfl⟩ (fun rv1 wv1 hp1 => ?_)
  obtain ⟨rfl, rfl⟩ := hp1
  refine g_istore_n C [some (.ref (d 0)), some (.int (nI kw)), some (.int (en (fbo (fun u => ftk on sv dm rm nw kw u) (qq kw) nc)))] dX2_seekCell_8 (by decide) rfl rfl ?_
  have hb0 : ∀ z, fbo (fun u => ftk on sv dm rm nw kw u) (qq kw) nc = some z → z < 2 ^ 31 := fun z hz => by have := fbo_lt hz; omega
  obtain ⟨ob, hbo⟩ : ∃ ob, fbo (fun u => ftk on sv dm rm nw kw u) (qq kw) nc = ob := ⟨_, rfl⟩
  refine g_iload_n C dX2_seekCell_9 rfl ?_
  refine g_iconst C (-1) dX2_seekCell_10 (by decide +kernel) ?_
  refine g_icmp_eq C 42 dX2_seekCell_11 (by decide) (fun c_11 => ?_) (fun c_11 => ?_)
  · skip
    have hbo : fbo (fun u => ftk on sv dm rm nw kw u) (qq kw) nc = none := en_none hb0 c_11
    exact g_vret C hret dX2_seekCell_42 (Nat.le_of_ble_eq_true rfl) (Nat.le_of_ble_eq_true rfl) ⟨(by rw [show fts on dm rm nc nw qq mg pt bd tk kw (sv, fv, hd, lf, la, ho, ri, lo) = (sv, fv, hd, lf, la, ho, ri, lo) from (by first | (simp [fts, hs, hbo]; done) | (simp [fts, hs, hbo, c_29]; done))] <;> rfl), rfl⟩
  · skip
    obtain ⟨bb, hb⟩ := en_some c_11
    have hb2 := fbo_lt hb
    have hbo : fbo (fun u => ftk on sv dm rm nw kw u) (qq kw) nc = some bb := hb
    refine g_aload_n C dX2_seekCell_14 rfl ?_
    refine g_get C 0 iX2_seekCell_X2 rfl rfl 0 (by decide) f10 rfl dX2_seekCell_15 ?_
    refine g_get C 17 iX2_seekCell_X0 rfl rfl 12 (by decide) f117 rfl dX2_seekCell_18 ?_
    refine g_iload_n C dX2_seekCell_21 rfl ?_
    refine g_aald C 28 3 rfl rfl kw rfl hw (by decide) (r kw) (if_pos hw) dX2_seekCell_22 ?_
    refine g_iload_n C dX2_seekCell_23 rfl ?_
    refine g_iald C (29 + kw) 0 (wC_row hw) rfl bb (by rw [hb]; rfl) (by omega) (by decide) (qq kw bb) rfl dX2_seekCell_24 ?_
    refine g_aload_n C dX2_seekCell_25 rfl ?_
    refine g_get C 0 iX2_seekCell_X2 rfl rfl 8 (by decide) f45 rfl dX2_seekCell_26 ?_
    refine g_icmp_lt C 42 dX2_seekCell_29 (by decide) (fun c_29 => ?_) (fun c_29 => ?_)
    · skip
      exact g_vret C hret dX2_seekCell_42 (Nat.le_of_ble_eq_true rfl) (Nat.le_of_ble_eq_true rfl) ⟨(by rw [show fts on dm rm nc nw qq mg pt bd tk kw (sv, fv, hd, lf, la, ho, ri, lo) = (sv, fv, hd, lf, la, ho, ri, lo) from (by first | (simp [fts, hs, hbo]; done) | (simp [fts, hs, hbo, c_29]; done))] <;> rfl), rfl⟩
    · skip
      refine g_aload_n C dX2_seekCell_32 rfl ?_
      refine g_get C 0 iX2_seekCell_X2 rfl rfl 0 (by decide) f10 rfl dX2_seekCell_33 ?_
      refine g_get C 17 iX2_seekCell_X0 rfl rfl 9 (by decide) f128 rfl dX2_seekCell_36 ?_
      refine g_iload_n C dX2_seekCell_39 rfl ?_
      refine g_iload_n C dX2_seekCell_40 rfl ?_
      refine g_iast C 26 0 rfl rfl kw rfl (by omega) (by decide) ((wCo cI a b d mg pt bd tk ho ri lo fv hd lf la ++ wSo cI cW a b r2 hp rl cn be bw wo) ++ wL cI cZ cG a r nc nw cx cy ch rm on wx wy dm (upd sv kw (nI bb)) mu qq) (by rw [hb]; rfl) dX2_seekCell_41 ?_
      exact g_vret C hret dX2_seekCell_42 (Nat.le_of_ble_eq_true rfl) (Nat.le_of_ble_eq_true rfl) ⟨(by rw [show fts on dm rm nc nw qq mg pt bd tk kw (sv, fv, hd, lf, la, ho, ri, lo) = (upd sv kw (nI bb), fv, hd, lf, la, ho, ri, lo) from (by simp [fts, hs, hbo, c_29])] <;> rfl), rfl⟩
theorem iX2_loseCell_X0 : ∀ w ∈ u_ws RX0 TX0 13, w ∈ wsX2_loseCell := by decide +kernel
theorem iX2_loseCell_X2 : ∀ w ∈ u_ws RX2 TX2 13, w ∈ wsX2_loseCell := by decide +kernel
set_option maxHeartbeats 1000000 in
set_option maxRecDepth 100000 in
theorem t_X2_loseCell {l : Launch} {D : va_G} {cI cZ cJ cG cW : ClassId} {a b d : Nat → Nat} {mg pt bd tk ho ri lo : Int32} {fv hd lf la : Nat → Int32} {r2 : Nat → Nat} {hp rl cn be : Nat → Int32} {bw : Int32} {wo : Nat → Nat → Int32} {r : Nat → Nat} {nc nw : Nat} {cx cy ch rm on wx wy dm sv mu : Nat → Int32} {qq : Nat → Nat → Int32} {kw : Nat} (hw : kw < 6) (hs : ¬ sv kw = -1) (hq : ¬ bd ≤ qq kw (sv kw).toNatClampNeg) : CtV l yX2_loseCell wsX2_loseCell 1 21 0 0 D (T5 cI cZ cJ cG cW) [.ref (d 0), .int (nI kw)] ((wCo cI a b d mg pt bd tk ho ri lo fv hd lf la ++ wSo cI cW a b r2 hp rl cn be bw wo) ++ wL cI cZ cG a r nc nw cx cy ch rm on wx wy dm sv mu qq) (fun wv tv => wv = ((wCo cI a b d mg pt bd tk ((fts on dm rm nc nw qq mg pt bd tk kw (sv, fv, hd, lf, la, ho, ri, lo)).2.2.2.2.2.1) ((fts on dm rm nc nw qq mg pt bd tk kw (sv, fv, hd, lf, la, ho, ri, lo)).2.2.2.2.2.2.1) ((fts on dm rm nc nw qq mg pt bd tk kw (sv, fv, hd, lf, la, ho, ri, lo)).2.2.2.2.2.2.2) ((fts on dm rm nc nw qq mg pt bd tk kw (sv, fv, hd, lf, la, ho, ri, lo)).2.1) ((fts on dm rm nc nw qq mg pt bd tk kw (sv, fv, hd, lf, la, ho, ri, lo)).2.2.1) ((fts on dm rm nc nw qq mg pt bd tk kw (sv, fv, hd, lf, la, ho, ri, lo)).2.2.2.1) ((fts on dm rm nc nw qq mg pt bd tk kw (sv, fv, hd, lf, la, ho, ri, lo)).2.2.2.2.1) ++ wSo cI cW a b r2 hp rl cn be bw wo) ++ wL cI cZ cG a r nc nw cx cy ch rm on wx wy dm ((fts on dm rm nc nw qq mg pt bd tk kw (sv, fv, hd, lf, la, ho, ri, lo)).1) mu qq) ∧ tv = (T5 cI cZ cJ cG cW)) := by
  refine ctV_of (cc := cX2_loseCell) (maxL := 2) RX2 0 [some (.ref (d 0)), some (.int (nI kw))] (by decide +kernel) rfl rfl (Nat.le_of_ble_eq_true rfl) rfl (fun p_ e_ s_ m_ as_ bl_ me_ co_ C hret hini => ?_)
  have f10 := C.ts (.fieldLink RX2 10 "CellPlanner" "land" "LCellPlanner$Land;") (by decide +kernel)
  have f32 := C.ts (.fieldLink RX2 32 "CellPlanner" "leftCell" "[I") (by decide +kernel)
  have f128 := C.ts (.fieldLink RX2 128 "CellPlanner$Land" "server" "[I") (by decide +kernel)
  have f134 := C.ts (.fieldLink RX2 134 "CellPlanner" "losses" "I") (by decide +kernel)
  refine g_aload_n C dX2_loseCell_0 rfl ?_
  refine g_dup C dX2_loseCell_1 rfl ?_
  refine g_get C 0 iX2_loseCell_X2 rfl rfl 12 (by decide) f134 rfl dX2_loseCell_2 ?_
  refine g_iconst C 1 dX2_loseCell_5 (by decide +kernel) ?_
  refine g_iadd C (lo + 1) dX2_loseCell_6 rfl ?_
  refine g_put C 0 iX2_loseCell_X2 rfl rfl 12 (by decide) f134 rfl tyX2 tyX2_ok nmX2 (ty := .int) (by decide +kernel) rfl rfl (Nat.le_of_ble_eq_true rfl) ((wCo cI a b d mg pt bd tk ho ri (lo + 1) fv hd lf la ++ wSo cI cW a b r2 hp rl cn be bw wo) ++ wL cI cZ cG a r nc nw cx cy ch rm on wx wy dm sv mu qq) rfl dX2_loseCell_7 ?_
  refine g_aload_n C dX2_loseCell_10 rfl ?_
  refine g_get C 0 iX2_loseCell_X2 rfl rfl 0 (by decide) f10 rfl dX2_loseCell_11 ?_
  refine g_get C 17 iX2_loseCell_X0 rfl rfl 9 (by decide) f128 rfl dX2_loseCell_14 ?_
  refine g_iload_n C dX2_loseCell_17 rfl ?_
  refine g_iconst C (-1) dX2_loseCell_18 (by decide +kernel) ?_
  refine g_iast C 26 0 rfl rfl kw rfl (by omega) (by decide) ((wCo cI a b d mg pt bd tk ho ri (lo + 1) fv hd lf la ++ wSo cI cW a b r2 hp rl cn be bw wo) ++ wL cI cZ cG a r nc nw cx cy ch rm on wx wy dm (upd sv kw ((-1))) mu qq) rfl dX2_loseCell_19 ?_
  refine g_aload_n C dX2_loseCell_20 rfl ?_
  refine g_iload_n C dX2_loseCell_21 rfl ?_
  refine g_callVv C [] ((wCo cI a b d mg pt bd tk ho ri (lo + 1) fv hd lf la ++ wSo cI cW a b r2 hp rl cn be bw wo) ++ wL cI cZ cG a r nc nw cx cy ch rm on wx wy dm (upd sv kw ((-1))) mu qq) [.int (nI kw)] (t_X2_dropFavourite hw) rfl rfl (cwV 1 C.ts gX2_loseCell_X2_dropFavourite rfl rfl rfl (by decide +kernel) ⟨Nat.le_of_ble_eq_true rfl, Nat.le_of_ble_eq_true rfl⟩) rfl rfl rfl (Nat.le_of_ble_eq_true rfl) dX2_loseCell_22 ⟨Nat.le_of_ble_eq_true rfl, Nat.le_of_ble_eq_true rfl⟩ (fun wv1 tv1 hp1 => ?_)
  obtain ⟨rfl, rfl⟩ := hp1
  refine g_aload_n C dX2_loseCell_25 rfl ?_
  refine g_get C 0 iX2_loseCell_X2 rfl rfl 4 (by decide) f32 rfl dX2_loseCell_26 ?_
  refine g_iload_n C dX2_loseCell_29 rfl ?_
  refine g_iconst C (-1) dX2_loseCell_30 (by decide +kernel) ?_
  refine g_iast C 3 0 rfl rfl kw rfl (by omega) (by decide) ((wCo cI a b d mg pt bd tk ho ri (lo + 1) (upd fv kw (-1)) (upd hd kw 0) (upd lf kw ((-1))) la ++ wSo cI cW a b r2 hp rl cn be bw wo) ++ wL cI cZ cG a r nc nw cx cy ch rm on wx wy dm (upd sv kw ((-1))) mu qq) rfl dX2_loseCell_31 ?_
  exact g_vret C hret dX2_loseCell_32 (Nat.le_of_ble_eq_true rfl) (Nat.le_of_ble_eq_true rfl) ⟨(by rw [show fts on dm rm nc nw qq mg pt bd tk kw (sv, fv, hd, lf, la, ho, ri, lo) = (upd sv kw ((-1)), upd fv kw (-1), upd hd kw 0, upd lf kw ((-1)), la, ho, ri, lo + 1) from (by simp [fts, hs, hq])] <;> rfl), rfl⟩
theorem iX2_handOver_X0 : ∀ w ∈ u_ws RX0 TX0 13, w ∈ wsX2_handOver := by decide +kernel
theorem iX2_handOver_X2 : ∀ w ∈ u_ws RX2 TX2 13, w ∈ wsX2_handOver := by decide +kernel
set_option maxHeartbeats 1000000 in
set_option maxRecDepth 100000 in
theorem t_X2_handOver {l : Launch} {D : va_G} {cI cZ cJ cG cW : ClassId} {a b d : Nat → Nat} {mg pt bd tk ho ri lo : Int32} {fv hd lf la : Nat → Int32} {r2 : Nat → Nat} {hp rl cn be : Nat → Int32} {bw : Int32} {wo : Nat → Nat → Int32} {r : Nat → Nat} {nc nw : Nat} {cx cy ch rm on wx wy dm sv mu : Nat → Int32} {qq : Nat → Nat → Int32} {kw : Nat} {p2 p3 : Int32} (hw : kw < 6) : CtV l yX2_handOver wsX2_handOver 1 21 0 0 D (T5 cI cZ cJ cG cW) [.ref (d 0), .int (nI kw), .int p2, .int p3] ((wCo cI a b d mg pt bd tk ho ri lo fv hd lf la ++ wSo cI cW a b r2 hp rl cn be bw wo) ++ wL cI cZ cG a r nc nw cx cy ch rm on wx wy dm sv mu qq) (fun wv tv => wv = ((wCo cI a b d mg pt bd tk (ho + 1) (frg lf la kw p3 tk ri) lo (upd fv kw (-1)) (upd hd kw 0) (upd lf kw p2) (upd la kw tk) ++ wSo cI cW a b r2 hp rl cn be bw wo) ++ wL cI cZ cG a r nc nw cx cy ch rm on wx wy dm (upd sv kw p3) mu qq) ∧ tv = (T5 cI cZ cJ cG cW)) := by
  refine ctV_of (cc := cX2_handOver) (maxL := 4) RX2 0 [some (.ref (d 0)), some (.int (nI kw)), some (.int p2), some (.int p3)] (by decide +kernel) rfl rfl (Nat.le_of_ble_eq_true rfl) rfl (fun p_ e_ s_ m_ as_ bl_ me_ co_ C hret hini => ?_)
  have f10 := C.ts (.fieldLink RX2 10 "CellPlanner" "land" "LCellPlanner$Land;") (by decide +kernel)
  have f32 := C.ts (.fieldLink RX2 32 "CellPlanner" "leftCell" "[I") (by decide +kernel)
  have f35 := C.ts (.fieldLink RX2 35 "CellPlanner" "leftAt" "[I") (by decide +kernel)
  have f101 := C.ts (.fieldLink RX2 101 "CellPlanner" "handovers" "I") (by decide +kernel)
  have f107 := C.ts (.fieldLink RX2 107 "CellPlanner" "ticks" "I") (by decide +kernel)
  have f128 := C.ts (.fieldLink RX2 128 "CellPlanner$Land" "server" "[I") (by decide +kernel)
  have f131 := C.ts (.fieldLink RX2 131 "CellPlanner" "rings" "I") (by decide +kernel)
  refine g_aload_n C dX2_handOver_0 rfl ?_
  refine g_dup C dX2_handOver_1 rfl ?_
  refine g_get C 0 iX2_handOver_X2 rfl rfl 10 (by decide) f101 rfl dX2_handOver_2 ?_
  refine g_iconst C 1 dX2_handOver_5 (by decide +kernel) ?_
  refine g_iadd C (ho + 1) dX2_handOver_6 rfl ?_
  refine g_put C 0 iX2_handOver_X2 rfl rfl 10 (by decide) f101 rfl tyX2 tyX2_ok nmX2 (ty := .int) (by decide +kernel) rfl rfl (Nat.le_of_ble_eq_true rfl) ((wCo cI a b d mg pt bd tk (ho + 1) ri lo fv hd lf la ++ wSo cI cW a b r2 hp rl cn be bw wo) ++ wL cI cZ cG a r nc nw cx cy ch rm on wx wy dm sv mu qq) rfl dX2_handOver_7 ?_
  refine g_iload_n C dX2_handOver_10 rfl ?_
  refine g_aload_n C dX2_handOver_11 rfl ?_
  refine g_get C 0 iX2_handOver_X2 rfl rfl 4 (by decide) f32 rfl dX2_handOver_12 ?_
  refine g_iload_n C dX2_handOver_15 rfl ?_
  refine g_iald C 3 0 rfl rfl kw rfl (by omega) (by decide) (lf kw) rfl dX2_handOver_16 ?_
  refine g_icmp_ne C 45 dX2_handOver_17 (by decide) (fun c_17 => ?_) (fun c_17 => ?_)
  · skip
    refine g_aload_n C dX2_handOver_45 rfl ?_
    refine g_get C 0 iX2_handOver_X2 rfl rfl 4 (by decide) f32 rfl dX2_handOver_46 ?_
    refine g_iload_n C dX2_handOver_49 rfl ?_
    refine g_iload_n C dX2_handOver_50 rfl ?_
    refine g_iast C 3 0 rfl rfl kw rfl (by omega) (by decide) ((wCo cI a b d mg pt bd tk (ho + 1) ri lo fv hd (upd lf kw p2) la ++ wSo cI cW a b r2 hp rl cn be bw wo) ++ wL cI cZ cG a r nc nw cx cy ch rm on wx wy dm sv mu qq) rfl dX2_handOver_51 ?_
    refine g_aload_n C dX2_handOver_52 rfl ?_
    refine g_get C 0 iX2_handOver_X2 rfl rfl 5 (by decide) f35 rfl dX2_handOver_53 ?_
    refine g_iload_n C dX2_handOver_56 rfl ?_
    refine g_aload_n C dX2_handOver_57 rfl ?_
    refine g_get C 0 iX2_handOver_X2 rfl rfl 9 (by decide) f107 rfl dX2_handOver_58 ?_
    refine g_iast C 4 0 rfl rfl kw rfl (by omega) (by decide) ((wCo cI a b d mg pt bd tk (ho + 1) ri lo fv hd (upd lf kw p2) (upd la kw tk) ++ wSo cI cW a b r2 hp rl cn be bw wo) ++ wL cI cZ cG a r nc nw cx cy ch rm on wx wy dm sv mu qq) rfl dX2_handOver_61 ?_
    refine g_aload_n C dX2_handOver_62 rfl ?_
    refine g_get C 0 iX2_handOver_X2 rfl rfl 0 (by decide) f10 rfl dX2_handOver_63 ?_
    refine g_get C 17 iX2_handOver_X0 rfl rfl 9 (by decide) f128 rfl dX2_handOver_66 ?_
    refine g_iload_n C dX2_handOver_69 rfl ?_
    refine g_iload_n C dX2_handOver_70 rfl ?_
    refine g_iast C 26 0 rfl rfl kw rfl (by omega) (by decide) ((wCo cI a b d mg pt bd tk (ho + 1) ri lo fv hd (upd lf kw p2) (upd la kw tk) ++ wSo cI cW a b r2 hp rl cn be bw wo) ++ wL cI cZ cG a r nc nw cx cy ch rm on wx wy dm (upd sv kw p3) mu qq) rfl dX2_handOver_71 ?_
    refine g_aload_n C dX2_handOver_72 rfl ?_
    refine g_iload_n C dX2_handOver_73 rfl ?_
    refine g_callVv C [] ((wCo cI a b d mg pt bd tk (ho + 1) ri lo fv hd (upd lf kw p2) (upd la kw tk) ++ wSo cI cW a b r2 hp rl cn be bw wo) ++ wL cI cZ cG a r nc nw cx cy ch rm on wx wy dm (upd sv kw p3) mu qq) [.int (nI kw)] (t_X2_dropFavourite hw) rfl rfl (cwV 1 C.ts gX2_handOver_X2_dropFavourite rfl rfl rfl (by decide +kernel) ⟨Nat.le_of_ble_eq_true rfl, Nat.le_of_ble_eq_true rfl⟩) rfl rfl rfl (Nat.le_of_ble_eq_true rfl) dX2_handOver_74 ⟨Nat.le_of_ble_eq_true rfl, Nat.le_of_ble_eq_true rfl⟩ (fun wv1 tv1 hp1 => ?_)
    obtain ⟨rfl, rfl⟩ := hp1
    exact g_vret C hret dX2_handOver_77 (Nat.le_of_ble_eq_true rfl) (Nat.le_of_ble_eq_true rfl) ⟨(by rw [show frg lf la kw p3 tk ri = ri from (by first | (simp [frg, c_17]; done) | (simp [frg, c_17, c_32]; done))] <;> rfl), rfl⟩
  · skip
    refine g_aload_n C dX2_handOver_20 rfl ?_
    refine g_get C 0 iX2_handOver_X2 rfl rfl 9 (by decide) f107 rfl dX2_handOver_21 ?_
    refine g_aload_n C dX2_handOver_24 rfl ?_
    refine g_get C 0 iX2_handOver_X2 rfl rfl 5 (by decide) f35 rfl dX2_handOver_25 ?_
    refine g_iload_n C dX2_handOver_28 rfl ?_
    refine g_iald C 4 0 rfl rfl kw rfl (by omega) (by decide) (la kw) rfl dX2_handOver_29 ?_
    refine g_isub C (tk - (la kw)) dX2_handOver_30 rfl ?_
    refine g_iconst C 5 dX2_handOver_31 (by decide +kernel) ?_
    refine g_icmp_gt C 45 dX2_handOver_32 (by decide) (fun c_32 => ?_) (fun c_32 => ?_)
    · skip
      refine g_aload_n C dX2_handOver_45 rfl ?_
      refine g_get C 0 iX2_handOver_X2 rfl rfl 4 (by decide) f32 rfl dX2_handOver_46 ?_
      refine g_iload_n C dX2_handOver_49 rfl ?_
      refine g_iload_n C dX2_handOver_50 rfl ?_
      refine g_iast C 3 0 rfl rfl kw rfl (by omega) (by decide) ((wCo cI a b d mg pt bd tk (ho + 1) ri lo fv hd (upd lf kw p2) la ++ wSo cI cW a b r2 hp rl cn be bw wo) ++ wL cI cZ cG a r nc nw cx cy ch rm on wx wy dm sv mu qq) rfl dX2_handOver_51 ?_
      refine g_aload_n C dX2_handOver_52 rfl ?_
      refine g_get C 0 iX2_handOver_X2 rfl rfl 5 (by decide) f35 rfl dX2_handOver_53 ?_
      refine g_iload_n C dX2_handOver_56 rfl ?_
      refine g_aload_n C dX2_handOver_57 rfl ?_
      refine g_get C 0 iX2_handOver_X2 rfl rfl 9 (by decide) f107 rfl dX2_handOver_58 ?_
      refine g_iast C 4 0 rfl rfl kw rfl (by omega) (by decide) ((wCo cI a b d mg pt bd tk (ho + 1) ri lo fv hd (upd lf kw p2) (upd la kw tk) ++ wSo cI cW a b r2 hp rl cn be bw wo) ++ wL cI cZ cG a r nc nw cx cy ch rm on wx wy dm sv mu qq) rfl dX2_handOver_61 ?_
      refine g_aload_n C dX2_handOver_62 rfl ?_
      refine g_get C 0 iX2_handOver_X2 rfl rfl 0 (by decide) f10 rfl dX2_handOver_63 ?_
      refine g_get C 17 iX2_handOver_X0 rfl rfl 9 (by decide) f128 rfl dX2_handOver_66 ?_
      refine g_iload_n C dX2_handOver_69 rfl ?_
      refine g_iload_n C dX2_handOver_70 rfl ?_
      refine g_iast C 26 0 rfl rfl kw rfl (by omega) (by decide) ((wCo cI a b d mg pt bd tk (ho + 1) ri lo fv hd (upd lf kw p2) (upd la kw tk) ++ wSo cI cW a b r2 hp rl cn be bw wo) ++ wL cI cZ cG a r nc nw cx cy ch rm on wx wy dm (upd sv kw p3) mu qq) rfl dX2_handOver_71 ?_
      refine g_aload_n C dX2_handOver_72 rfl ?_
      refine g_iload_n C dX2_handOver_73 rfl ?_
      refine g_callVv C [] ((wCo cI a b d mg pt bd tk (ho + 1) ri lo fv hd (upd lf kw p2) (upd la kw tk) ++ wSo cI cW a b r2 hp rl cn be bw wo) ++ wL cI cZ cG a r nc nw cx cy ch rm on wx wy dm (upd sv kw p3) mu qq) [.int (nI kw)] (t_X2_dropFavourite hw) rfl rfl (cwV 1 C.ts gX2_handOver_X2_dropFavourite rfl rfl rfl (by decide +kernel) ⟨Nat.le_of_ble_eq_true rfl, Nat.le_of_ble_eq_true rfl⟩) rfl rfl rfl (Nat.le_of_ble_eq_true rfl) dX2_handOver_74 ⟨Nat.le_of_ble_eq_true rfl, Nat.le_of_ble_eq_true rfl⟩ (fun wv2 tv2 hp2 => ?_)
      obtain ⟨rfl, rfl⟩ := hp2
      exact g_vret C hret dX2_handOver_77 (Nat.le_of_ble_eq_true rfl) (Nat.le_of_ble_eq_true rfl) ⟨(by rw [show frg lf la kw p3 tk ri = ri from (by first | (simp [frg, c_17]; done) | (simp [frg, c_17, c_32]; done))] <;> rfl), rfl⟩
    · skip
      refine g_aload_n C dX2_handOver_35 rfl ?_
      refine g_dup C dX2_handOver_36 rfl ?_
      refine g_get C 0 iX2_handOver_X2 rfl rfl 11 (by decide) f131 rfl dX2_handOver_37 ?_
      refine g_iconst C 1 dX2_handOver_40 (by decide +kernel) ?_
      refine g_iadd C (ri + 1) dX2_handOver_41 rfl ?_
      refine g_put C 0 iX2_handOver_X2 rfl rfl 11 (by decide) f131 rfl tyX2 tyX2_ok nmX2 (ty := .int) (by decide +kernel) rfl rfl (Nat.le_of_ble_eq_true rfl) ((wCo cI a b d mg pt bd tk (ho + 1) (ri + 1) lo fv hd lf la ++ wSo cI cW a b r2 hp rl cn be bw wo) ++ wL cI cZ cG a r nc nw cx cy ch rm on wx wy dm sv mu qq) rfl dX2_handOver_42 ?_
      refine g_aload_n C dX2_handOver_45 rfl ?_
      refine g_get C 0 iX2_handOver_X2 rfl rfl 4 (by decide) f32 rfl dX2_handOver_46 ?_
      refine g_iload_n C dX2_handOver_49 rfl ?_
      refine g_iload_n C dX2_handOver_50 rfl ?_
      refine g_iast C 3 0 rfl rfl kw rfl (by omega) (by decide) ((wCo cI a b d mg pt bd tk (ho + 1) (ri + 1) lo fv hd (upd lf kw p2) la ++ wSo cI cW a b r2 hp rl cn be bw wo) ++ wL cI cZ cG a r nc nw cx cy ch rm on wx wy dm sv mu qq) rfl dX2_handOver_51 ?_
      refine g_aload_n C dX2_handOver_52 rfl ?_
      refine g_get C 0 iX2_handOver_X2 rfl rfl 5 (by decide) f35 rfl dX2_handOver_53 ?_
      refine g_iload_n C dX2_handOver_56 rfl ?_
      refine g_aload_n C dX2_handOver_57 rfl ?_
      refine g_get C 0 iX2_handOver_X2 rfl rfl 9 (by decide) f107 rfl dX2_handOver_58 ?_
      refine g_iast C 4 0 rfl rfl kw rfl (by omega) (by decide) ((wCo cI a b d mg pt bd tk (ho + 1) (ri + 1) lo fv hd (upd lf kw p2) (upd la kw tk) ++ wSo cI cW a b r2 hp rl cn be bw wo) ++ wL cI cZ cG a r nc nw cx cy ch rm on wx wy dm sv mu qq) rfl dX2_handOver_61 ?_
      refine g_aload_n C dX2_handOver_62 rfl ?_
      refine g_get C 0 iX2_handOver_X2 rfl rfl 0 (by decide) f10 rfl dX2_handOver_63 ?_
      refine g_get C 17 iX2_handOver_X0 rfl rfl 9 (by decide) f128 rfl dX2_handOver_66 ?_
      refine g_iload_n C dX2_handOver_69 rfl ?_
      refine g_iload_n C dX2_handOver_70 rfl ?_
      refine g_iast C 26 0 rfl rfl kw rfl (by omega) (by decide) ((wCo cI a b d mg pt bd tk (ho + 1) (ri + 1) lo fv hd (upd lf kw p2) (upd la kw tk) ++ wSo cI cW a b r2 hp rl cn be bw wo) ++ wL cI cZ cG a r nc nw cx cy ch rm on wx wy dm (upd sv kw p3) mu qq) rfl dX2_handOver_71 ?_
      refine g_aload_n C dX2_handOver_72 rfl ?_
      refine g_iload_n C dX2_handOver_73 rfl ?_
      refine g_callVv C [] ((wCo cI a b d mg pt bd tk (ho + 1) (ri + 1) lo fv hd (upd lf kw p2) (upd la kw tk) ++ wSo cI cW a b r2 hp rl cn be bw wo) ++ wL cI cZ cG a r nc nw cx cy ch rm on wx wy dm (upd sv kw p3) mu qq) [.int (nI kw)] (t_X2_dropFavourite hw) rfl rfl (cwV 1 C.ts gX2_handOver_X2_dropFavourite rfl rfl rfl (by decide +kernel) ⟨Nat.le_of_ble_eq_true rfl, Nat.le_of_ble_eq_true rfl⟩) rfl rfl rfl (Nat.le_of_ble_eq_true rfl) dX2_handOver_74 ⟨Nat.le_of_ble_eq_true rfl, Nat.le_of_ble_eq_true rfl⟩ (fun wv3 tv3 hp3 => ?_)
      obtain ⟨rfl, rfl⟩ := hp3
      exact g_vret C hret dX2_handOver_77 (Nat.le_of_ble_eq_true rfl) (Nat.le_of_ble_eq_true rfl) ⟨(by rw [show frg lf la kw p3 tk ri = ri + 1 from (by first | (simp [frg, c_17]; done) | (simp [frg, c_17, c_32]; done))] <;> rfl), rfl⟩
theorem iX2_weighFavourite_X0 : ∀ w ∈ u_ws RX0 TX0 13, w ∈ wsX2_weighFavourite := by decide +kernel
theorem iX2_weighFavourite_X2 : ∀ w ∈ u_ws RX2 TX2 13, w ∈ wsX2_weighFavourite := by decide +kernel
set_option maxHeartbeats 1000000 in
set_option maxRecDepth 100000 in
theorem t_X2_weighFavourite {l : Launch} {D : va_G} {cI cZ cJ cG cW : ClassId} {a b d : Nat → Nat} {mg pt bd tk ho ri lo : Int32} {fv hd lf la : Nat → Int32} {r2 : Nat → Nat} {hp rl cn be : Nat → Int32} {bw : Int32} {wo : Nat → Nat → Int32} {r : Nat → Nat} {nc nw : Nat} {cx cy ch rm on wx wy dm sv mu : Nat → Int32} {qq : Nat → Nat → Int32} {kw ks : Nat} (h5 : nc ≤ 5) (h6 : nw ≤ 6) (hw : kw < 6) (hk : ks < 5) (hs : sv kw = nI ks) (hq : bd ≤ qq kw (sv kw).toNatClampNeg) : CtV l yX2_weighFavourite wsX2_weighFavourite 3 68 0 0 D (T5 cI cZ cJ cG cW) [.ref (d 0), .int (nI kw), .int (sv kw)] ((wCo cI a b d mg pt bd tk ho ri lo fv hd lf la ++ wSo cI cW a b r2 hp rl cn be bw wo) ++ wL cI cZ cG a r nc nw cx cy ch rm on wx wy dm sv mu qq) (fun wv tv => wv = ((wCo cI a b d mg pt bd tk ((fts on dm rm nc nw qq mg pt bd tk kw (sv, fv, hd, lf, la, ho, ri, lo)).2.2.2.2.2.1) ((fts on dm rm nc nw qq mg pt bd tk kw (sv, fv, hd, lf, la, ho, ri, lo)).2.2.2.2.2.2.1) ((fts on dm rm nc nw qq mg pt bd tk kw (sv, fv, hd, lf, la, ho, ri, lo)).2.2.2.2.2.2.2) ((fts on dm rm nc nw qq mg pt bd tk kw (sv, fv, hd, lf, la, ho, ri, lo)).2.1) ((fts on dm rm nc nw qq mg pt bd tk kw (sv, fv, hd, lf, la, ho, ri, lo)).2.2.1) ((fts on dm rm nc nw qq mg pt bd tk kw (sv, fv, hd, lf, la, ho, ri, lo)).2.2.2.1) ((fts on dm rm nc nw qq mg pt bd tk kw (sv, fv, hd, lf, la, ho, ri, lo)).2.2.2.2.1) ++ wSo cI cW a b r2 hp rl cn be bw wo) ++ wL cI cZ cG a r nc nw cx cy ch rm on wx wy dm ((fts on dm rm nc nw qq mg pt bd tk kw (sv, fv, hd, lf, la, ho, ri, lo)).1) mu qq) ∧ tv = (T5 cI cZ cJ cG cW)) := by
  refine ctV_of (cc := cX2_weighFavourite) (maxL := 4) RX2 1 [some (.ref (d 0)), some (.int (nI kw)), some (.int (sv kw)), none] (by decide +kernel) rfl rfl (Nat.le_of_ble_eq_true rfl) rfl (fun p_ e_ s_ m_ as_ bl_ me_ co_ C hret hini => ?_)
  have f10 := C.ts (.fieldLink RX2 10 "CellPlanner" "land" "LCellPlanner$Land;") (by decide +kernel)
  have f25 := C.ts (.fieldLink RX2 25 "CellPlanner" "favourite" "[I") (by decide +kernel)
  have f29 := C.ts (.fieldLink RX2 29 "CellPlanner" "held" "[I") (by decide +kernel)
  have f38 := C.ts (.fieldLink RX2 38 "CellPlanner" "margin" "I") (by decide +kernel)
  have f42 := C.ts (.fieldLink RX2 42 "CellPlanner" "patience" "I") (by decide +kernel)
  have f117 := C.ts (.fieldLink RX2 117 "CellPlanner$Land" "quality" "[[I") (by decide +kernel)
  refine g_aload_n C dX2_weighFavourite_0 rfl ?_
  refine g_get C 0 iX2_weighFavourite_X2 rfl rfl 0 (by decide) f10 rfl dX2_weighFavourite_1 ?_
  refine g_iload_n C dX2_weighFavourite_4 rfl ?_
  refine g_callVi C (wCo cI a b d mg pt bd tk ho ri lo fv hd lf la ++ wSo cI cW a b r2 hp rl cn be bw wo) (wL cI cZ cG a r nc nw cx cy ch rm on wx wy dm sv mu qq) [.int (nI kw)] (t_X0_bestOther h5 h6 hw) rfl rfl (cwV 1 C.ts gX2_weighFavourite_X0_bestOther rfl rfl rfl (by decide +kernel) ⟨Nat.le_of_ble_eq_true rfl, Nat.le_of_ble_eq_true rfl⟩) rfl rfl rfl (Nat.le_of_ble_eq_true rfl) dX2_weighFavourite_5 ⟨Nat.le_of_ble_eq_true rfl, Nat.le_of_ble_eq_true rfl⟩ (fun rv1 wv1 hp1 => ?_)
  obtain ⟨rfl, rfl⟩ := hp1
  refine g_istore_n C [some (.ref (d 0)), some (.int (nI kw)), some (.int (sv kw)), some (.int (en (fbo (fun u => ftk on sv dm rm nw kw u) (qq kw) nc)))] dX2_weighFavourite_8 (by decide) rfl rfl ?_
  have hb0 : ∀ z, fbo (fun u => ftk on sv dm rm nw kw u) (qq kw) nc = some z → z < 2 ^ 31 := fun z hz => by have := fbo_lt hz; omega
  obtain ⟨ob, hbo⟩ : ∃ ob, fbo (fun u => ftk on sv dm rm nw kw u) (qq kw) nc = ob := ⟨_, rfl⟩
  have hs9 : (nI ks).toNatClampNeg = ks := nI_clamp (by omega)
  rw [hs, hs9] at hq
  have hs8 : ¬ nI ks = -1 := en_m1 (by omega)
  refine g_iload_n C dX2_weighFavourite_9 rfl ?_
  refine g_iconst C (-1) dX2_weighFavourite_10 (by decide +kernel) ?_
  refine g_icmp_eq C 44 dX2_weighFavourite_11 (by decide) (fun c_11 => ?_) (fun c_11 => ?_)
  · skip
    have hbo : fbo (fun u => ftk on sv dm rm nw kw u) (qq kw) nc = none := en_none hb0 c_11
    refine g_aload_n C dX2_weighFavourite_44 rfl ?_
    refine g_iload_n C dX2_weighFavourite_45 rfl ?_
    refine g_callVv C [] ((wCo cI a b d mg pt bd tk ho ri lo fv hd lf la ++ wSo cI cW a b r2 hp rl cn be bw wo) ++ wL cI cZ cG a r nc nw cx cy ch rm on wx wy dm sv mu qq) [.int (nI kw)] (t_X2_dropFavourite hw) rfl rfl (cwV 1 C.ts gX2_weighFavourite_X2_dropFavourite rfl rfl rfl (by decide +kernel) ⟨Nat.le_of_ble_eq_true rfl, Nat.le_of_ble_eq_true rfl⟩) rfl rfl rfl (Nat.le_of_ble_eq_true rfl) dX2_weighFavourite_46 ⟨Nat.le_of_ble_eq_true rfl, Nat.le_of_ble_eq_true rfl⟩ (fun wv2 tv2 hp2 => ?_)
    obtain ⟨rfl, rfl⟩ := hp2
    exact g_vret C hret dX2_weighFavourite_49 (Nat.le_of_ble_eq_true rfl) (Nat.le_of_ble_eq_true rfl) ⟨(by rw [show fts on dm rm nc nw qq mg pt bd tk kw (sv, fv, hd, lf, la, ho, ri, lo) = (sv, upd fv kw (-1), upd hd kw 0, lf, la, ho, ri, lo) from (by first | (simp [fts, hs, hs8, hs9, hq, hbo]; done) | (simp [fts, hs, hs8, hs9, hq, hbo, c_41]; done))] <;> rfl), rfl⟩
  · skip
    obtain ⟨bb, hb⟩ := en_some c_11
    have hb2 := fbo_lt hb
    have hbo : fbo (fun u => ftk on sv dm rm nw kw u) (qq kw) nc = some bb := hb
    refine g_aload_n C dX2_weighFavourite_14 rfl ?_
    refine g_get C 0 iX2_weighFavourite_X2 rfl rfl 0 (by decide) f10 rfl dX2_weighFavourite_15 ?_
    refine g_get C 17 iX2_weighFavourite_X0 rfl rfl 12 (by decide) f117 rfl dX2_weighFavourite_18 ?_
    refine g_iload_n C dX2_weighFavourite_21 rfl ?_
    refine g_aald C 28 3 rfl rfl kw rfl hw (by decide) (r kw) (if_pos hw) dX2_weighFavourite_22 ?_
    refine g_iload_n C dX2_weighFavourite_23 rfl ?_
    refine g_iald C (29 + kw) 0 (wC_row hw) rfl bb (by rw [hb]; rfl) (by omega) (by decide) (qq kw bb) rfl dX2_weighFavourite_24 ?_
    refine g_aload_n C dX2_weighFavourite_25 rfl ?_
    refine g_get C 0 iX2_weighFavourite_X2 rfl rfl 0 (by decide) f10 rfl dX2_weighFavourite_26 ?_
    refine g_get C 17 iX2_weighFavourite_X0 rfl rfl 12 (by decide) f117 rfl dX2_weighFavourite_29 ?_
    refine g_iload_n C dX2_weighFavourite_32 rfl ?_
    refine g_aald C 28 3 rfl rfl kw rfl hw (by decide) (r kw) (if_pos hw) dX2_weighFavourite_33 ?_
    refine g_iload_n C dX2_weighFavourite_34 rfl ?_
    refine g_iald C (29 + kw) 0 (wC_row hw) rfl ks hs hk (by decide) (qq kw ks) rfl dX2_weighFavourite_35 ?_
    refine g_aload_n C dX2_weighFavourite_36 rfl ?_
    refine g_get C 0 iX2_weighFavourite_X2 rfl rfl 6 (by decide) f38 rfl dX2_weighFavourite_37 ?_
    refine g_iadd C ((qq kw ks) + mg) dX2_weighFavourite_40 rfl ?_
    refine g_icmp_ge C 50 dX2_weighFavourite_41 (by decide) (fun c_41 => ?_) (fun c_41 => ?_)
    · skip
      refine g_lv (lv' := [some (.ref (d 0)), some (.int (nI kw)), some (.int (sv kw)), some (.int (nI bb))]) (by rw [hb]; rfl) ?_
      refine g_aload_n C dX2_weighFavourite_50 rfl ?_
      refine g_get C 0 iX2_weighFavourite_X2 rfl rfl 3 (by decide) f29 rfl dX2_weighFavourite_51 ?_
      refine g_iload_n C dX2_weighFavourite_54 rfl ?_
      refine g_iload_n C dX2_weighFavourite_55 rfl ?_
      refine g_aload_n C dX2_weighFavourite_56 rfl ?_
      refine g_get C 0 iX2_weighFavourite_X2 rfl rfl 2 (by decide) f25 rfl dX2_weighFavourite_57 ?_
      refine g_iload_n C dX2_weighFavourite_60 rfl ?_
      refine g_iald C 1 0 rfl rfl kw rfl hw (by decide) (fv kw) rfl dX2_weighFavourite_61 ?_
      refine g_icmp_ne C 76 dX2_weighFavourite_62 (by decide) (fun c_62 => ?_) (fun c_62 => ?_)
      · skip
        refine g_iconst C 1 dX2_weighFavourite_76 (by decide +kernel) ?_
        refine g_iast C 2 0 rfl rfl kw rfl hw (by decide) ((wCo cI a b d mg pt bd tk ho ri lo fv (upd hd kw 1) lf la ++ wSo cI cW a b r2 hp rl cn be bw wo) ++ wL cI cZ cG a r nc nw cx cy ch rm on wx wy dm sv mu qq) rfl dX2_weighFavourite_77 ?_
        refine g_aload_n C dX2_weighFavourite_78 rfl ?_
        refine g_get C 0 iX2_weighFavourite_X2 rfl rfl 2 (by decide) f25 rfl dX2_weighFavourite_79 ?_
        refine g_iload_n C dX2_weighFavourite_82 rfl ?_
        refine g_iload_n C dX2_weighFavourite_83 rfl ?_
        refine g_iast C 1 0 rfl rfl kw rfl hw (by decide) ((wCo cI a b d mg pt bd tk ho ri lo (upd fv kw (nI bb)) (upd hd kw 1) lf la ++ wSo cI cW a b r2 hp rl cn be bw wo) ++ wL cI cZ cG a r nc nw cx cy ch rm on wx wy dm sv mu qq) rfl dX2_weighFavourite_84 ?_
        refine g_aload_n C dX2_weighFavourite_85 rfl ?_
        refine g_get C 0 iX2_weighFavourite_X2 rfl rfl 3 (by decide) f29 rfl dX2_weighFavourite_86 ?_
        refine g_iload_n C dX2_weighFavourite_89 rfl ?_
        refine g_iald C 2 0 rfl rfl kw rfl hw (by decide) 1 upd_at dX2_weighFavourite_90 ?_
        refine g_aload_n C dX2_weighFavourite_91 rfl ?_
        refine g_get C 0 iX2_weighFavourite_X2 rfl rfl 7 (by decide) f42 rfl dX2_weighFavourite_92 ?_
        refine g_icmp_lt C 105 dX2_weighFavourite_95 (by decide) (fun c_95 => ?_) (fun c_95 => ?_)
        · skip
          exact g_vret C hret dX2_weighFavourite_105 (Nat.le_of_ble_eq_true rfl) (Nat.le_of_ble_eq_true rfl) ⟨(by rw [show fts on dm rm nc nw qq mg pt bd tk kw (sv, fv, hd, lf, la, ho, ri, lo) = (sv, upd fv kw (nI bb), upd hd kw 1, lf, la, ho, ri, lo) from (by simp [fts, hs, hs8, hs9, hq, hbo, c_41, (show fhe fv hd kw bb = 1 from (by simp [fhe, c_62])), c_95, upd_upd])] <;> rfl), rfl⟩
        · skip
          refine g_aload_n C dX2_weighFavourite_98 rfl ?_
          refine g_iload_n C dX2_weighFavourite_99 rfl ?_
          refine g_iload_n C dX2_weighFavourite_100 rfl ?_
          refine g_iload_n C dX2_weighFavourite_101 rfl ?_
          refine g_callVv C [] ((wCo cI a b d mg pt bd tk ho ri lo (upd fv kw (nI bb)) (upd hd kw 1) lf la ++ wSo cI cW a b r2 hp rl cn be bw wo) ++ wL cI cZ cG a r nc nw cx cy ch rm on wx wy dm sv mu qq) [.int (nI kw), .int (sv kw), .int (nI bb)] (t_X2_handOver hw) rfl rfl (cwV 3 C.ts gX2_weighFavourite_X2_handOver rfl rfl rfl (by decide +kernel) ⟨Nat.le_of_ble_eq_true rfl, Nat.le_of_ble_eq_true rfl⟩) rfl rfl rfl (Nat.le_of_ble_eq_true rfl) dX2_weighFavourite_102 ⟨Nat.le_of_ble_eq_true rfl, Nat.le_of_ble_eq_true rfl⟩ (fun wv3 tv3 hp3 => ?_)
          obtain ⟨rfl, rfl⟩ := hp3
          exact g_vret C hret dX2_weighFavourite_105 (Nat.le_of_ble_eq_true rfl) (Nat.le_of_ble_eq_true rfl) ⟨(by rw [show fts on dm rm nc nw qq mg pt bd tk kw (sv, fv, hd, lf, la, ho, ri, lo) = (upd sv kw (nI bb), upd (upd fv kw (nI bb)) kw (-1), upd (upd hd kw 1) kw 0, upd lf kw (sv kw), upd la kw tk, ho + 1, frg lf la kw (nI bb) tk ri, lo) from (by simp [fts, hs, hs8, hs9, hq, hbo, c_41, (show fhe fv hd kw bb = 1 from (by simp [fhe, c_62])), c_95, upd_upd])] <;> rfl), rfl⟩
      · skip
        refine g_aload_n C dX2_weighFavourite_65 rfl ?_
        refine g_get C 0 iX2_weighFavourite_X2 rfl rfl 3 (by decide) f29 rfl dX2_weighFavourite_66 ?_
        refine g_iload_n C dX2_weighFavourite_69 rfl ?_
        refine g_iald C 2 0 rfl rfl kw rfl hw (by decide) (hd kw) rfl dX2_weighFavourite_70 ?_
        refine g_iconst C 1 dX2_weighFavourite_71 (by decide +kernel) ?_
        refine g_iadd C ((hd kw) + 1) dX2_weighFavourite_72 rfl ?_
        refine g_goto C 77 dX2_weighFavourite_73 (by decide) ?_
        refine g_iast C 2 0 rfl rfl kw rfl hw (by decide) ((wCo cI a b d mg pt bd tk ho ri lo fv (upd hd kw ((hd kw) + 1)) lf la ++ wSo cI cW a b r2 hp rl cn be bw wo) ++ wL cI cZ cG a r nc nw cx cy ch rm on wx wy dm sv mu qq) rfl dX2_weighFavourite_77 ?_
        refine g_aload_n C dX2_weighFavourite_78 rfl ?_
        refine g_get C 0 iX2_weighFavourite_X2 rfl rfl 2 (by decide) f25 rfl dX2_weighFavourite_79 ?_
        refine g_iload_n C dX2_weighFavourite_82 rfl ?_
        refine g_iload_n C dX2_weighFavourite_83 rfl ?_
        refine g_iast C 1 0 rfl rfl kw rfl hw (by decide) ((wCo cI a b d mg pt bd tk ho ri lo (upd fv kw (nI bb)) (upd hd kw ((hd kw) + 1)) lf la ++ wSo cI cW a b r2 hp rl cn be bw wo) ++ wL cI cZ cG a r nc nw cx cy ch rm on wx wy dm sv mu qq) rfl dX2_weighFavourite_84 ?_
        refine g_aload_n C dX2_weighFavourite_85 rfl ?_
        refine g_get C 0 iX2_weighFavourite_X2 rfl rfl 3 (by decide) f29 rfl dX2_weighFavourite_86 ?_
        refine g_iload_n C dX2_weighFavourite_89 rfl ?_
        refine g_iald C 2 0 rfl rfl kw rfl hw (by decide) ((hd kw) + 1) upd_at dX2_weighFavourite_90 ?_
        refine g_aload_n C dX2_weighFavourite_91 rfl ?_
        refine g_get C 0 iX2_weighFavourite_X2 rfl rfl 7 (by decide) f42 rfl dX2_weighFavourite_92 ?_
        refine g_icmp_lt C 105 dX2_weighFavourite_95 (by decide) (fun c_95 => ?_) (fun c_95 => ?_)
        · skip
          exact g_vret C hret dX2_weighFavourite_105 (Nat.le_of_ble_eq_true rfl) (Nat.le_of_ble_eq_true rfl) ⟨(by rw [show fts on dm rm nc nw qq mg pt bd tk kw (sv, fv, hd, lf, la, ho, ri, lo) = (sv, upd fv kw (nI bb), upd hd kw ((hd kw) + 1), lf, la, ho, ri, lo) from (by simp [fts, hs, hs8, hs9, hq, hbo, c_41, (show fhe fv hd kw bb = (hd kw) + 1 from (by simp [fhe, c_62])), c_95, upd_upd])] <;> rfl), rfl⟩
        · skip
          refine g_aload_n C dX2_weighFavourite_98 rfl ?_
          refine g_iload_n C dX2_weighFavourite_99 rfl ?_
          refine g_iload_n C dX2_weighFavourite_100 rfl ?_
          refine g_iload_n C dX2_weighFavourite_101 rfl ?_
          refine g_callVv C [] ((wCo cI a b d mg pt bd tk ho ri lo (upd fv kw (nI bb)) (upd hd kw ((hd kw) + 1)) lf la ++ wSo cI cW a b r2 hp rl cn be bw wo) ++ wL cI cZ cG a r nc nw cx cy ch rm on wx wy dm sv mu qq) [.int (nI kw), .int (sv kw), .int (nI bb)] (t_X2_handOver hw) rfl rfl (cwV 3 C.ts gX2_weighFavourite_X2_handOver rfl rfl rfl (by decide +kernel) ⟨Nat.le_of_ble_eq_true rfl, Nat.le_of_ble_eq_true rfl⟩) rfl rfl rfl (Nat.le_of_ble_eq_true rfl) dX2_weighFavourite_102 ⟨Nat.le_of_ble_eq_true rfl, Nat.le_of_ble_eq_true rfl⟩ (fun wv4 tv4 hp4 => ?_)
          obtain ⟨rfl, rfl⟩ := hp4
          exact g_vret C hret dX2_weighFavourite_105 (Nat.le_of_ble_eq_true rfl) (Nat.le_of_ble_eq_true rfl) ⟨(by rw [show fts on dm rm nc nw qq mg pt bd tk kw (sv, fv, hd, lf, la, ho, ri, lo) = (upd sv kw (nI bb), upd (upd fv kw (nI bb)) kw (-1), upd (upd hd kw ((hd kw) + 1)) kw 0, upd lf kw (sv kw), upd la kw tk, ho + 1, frg lf la kw (nI bb) tk ri, lo) from (by simp [fts, hs, hs8, hs9, hq, hbo, c_41, (show fhe fv hd kw bb = (hd kw) + 1 from (by simp [fhe, c_62])), c_95, upd_upd])] <;> rfl), rfl⟩
    · skip
      refine g_aload_n C dX2_weighFavourite_44 rfl ?_
      refine g_iload_n C dX2_weighFavourite_45 rfl ?_
      refine g_callVv C [] ((wCo cI a b d mg pt bd tk ho ri lo fv hd lf la ++ wSo cI cW a b r2 hp rl cn be bw wo) ++ wL cI cZ cG a r nc nw cx cy ch rm on wx wy dm sv mu qq) [.int (nI kw)] (t_X2_dropFavourite hw) rfl rfl (cwV 1 C.ts gX2_weighFavourite_X2_dropFavourite rfl rfl rfl (by decide +kernel) ⟨Nat.le_of_ble_eq_true rfl, Nat.le_of_ble_eq_true rfl⟩) rfl rfl rfl (Nat.le_of_ble_eq_true rfl) dX2_weighFavourite_46 ⟨Nat.le_of_ble_eq_true rfl, Nat.le_of_ble_eq_true rfl⟩ (fun wv5 tv5 hp5 => ?_)
      obtain ⟨rfl, rfl⟩ := hp5
      exact g_vret C hret dX2_weighFavourite_49 (Nat.le_of_ble_eq_true rfl) (Nat.le_of_ble_eq_true rfl) ⟨(by rw [show fts on dm rm nc nw qq mg pt bd tk kw (sv, fv, hd, lf, la, ho, ri, lo) = (sv, upd fv kw (-1), upd hd kw 0, lf, la, ho, ri, lo) from (by first | (simp [fts, hs, hs8, hs9, hq, hbo]; done) | (simp [fts, hs, hs8, hs9, hq, hbo, c_41]; done))] <;> rfl), rfl⟩
theorem iX2_passTick_X0 : ∀ w ∈ u_ws RX0 TX0 13, w ∈ wsX2_passTick := by decide +kernel
theorem iX2_passTick_X2 : ∀ w ∈ u_ws RX2 TX2 13, w ∈ wsX2_passTick := by decide +kernel
set_option maxHeartbeats 1000000 in
set_option maxRecDepth 100000 in
/-- one tick -/
theorem t_X2_passTick {l : Launch} {D : va_G} {cI cZ cJ cG cW : ClassId} {a b d : Nat → Nat} {mg pt bd tk ho ri lo : Int32} {fv hd lf la : Nat → Int32} {r2 : Nat → Nat} {hp rl cn be : Nat → Int32} {bw : Int32} {wo : Nat → Nat → Int32} {r : Nat → Nat} {nc nw : Nat} {cx cy ch rm on wx wy dm sv mu : Nat → Int32} {qq : Nat → Nat → Int32}  (h5 : nc ≤ 5) (h6 : nw ≤ 6) (hr : ∀ c, c < nc → ¬ rm c ≤ 0) (hg : ∀ c w, c < nc → w < nw → ¬ dsq (cx c) (cy c) (wx w) (wy w) = 0) (hq : ∀ c w, c < nc → w < nw → ¬ 10 + fdi ch on (fil nc (fus rm sv dm nw) mu) (sgw cx cy wx wy w) c nc = 0) (hsv : ∀ j, j < nw → SV nc (sv j)) : CtV l yX2_passTick wsX2_passTick 4 109 0 0 D (T5 cI cZ cJ cG cW) [.ref (d 0)] ((wCo cI a b d mg pt bd tk ho ri lo fv hd lf la ++ wSo cI cW a b r2 hp rl cn be bw wo) ++ wL cI cZ cG a r nc nw cx cy ch rm on wx wy dm sv mu qq) (fun wv tv => wv = ((wCo cI a b d mg pt bd (tk + 1) ((ftw on dm rm nc nw (fil2 nw nc (fun w c => fqu cx cy ch on wx wy (fil nc (fus rm sv dm nw) mu) nc w c) qq) mg pt bd (tk + 1) (sv, fv, hd, lf, la, ho, ri, lo) nw).2.2.2.2.2.1) ((ftw on dm rm nc nw (fil2 nw nc (fun w c => fqu cx cy ch on wx wy (fil nc (fus rm sv dm nw) mu) nc w c) qq) mg pt bd (tk + 1) (sv, fv, hd, lf, la, ho, ri, lo) nw).2.2.2.2.2.2.1) ((ftw on dm rm nc nw (fil2 nw nc (fun w c => fqu cx cy ch on wx wy (fil nc (fus rm sv dm nw) mu) nc w c) qq) mg pt bd (tk + 1) (sv, fv, hd, lf, la, ho, ri, lo) nw).2.2.2.2.2.2.2) ((ftw on dm rm nc nw (fil2 nw nc (fun w c => fqu cx cy ch on wx wy (fil nc (fus rm sv dm nw) mu) nc w c) qq) mg pt bd (tk + 1) (sv, fv, hd, lf, la, ho, ri, lo) nw).2.1) ((ftw on dm rm nc nw (fil2 nw nc (fun w c => fqu cx cy ch on wx wy (fil nc (fus rm sv dm nw) mu) nc w c) qq) mg pt bd (tk + 1) (sv, fv, hd, lf, la, ho, ri, lo) nw).2.2.1) ((ftw on dm rm nc nw (fil2 nw nc (fun w c => fqu cx cy ch on wx wy (fil nc (fus rm sv dm nw) mu) nc w c) qq) mg pt bd (tk + 1) (sv, fv, hd, lf, la, ho, ri, lo) nw).2.2.2.1) ((ftw on dm rm nc nw (fil2 nw nc (fun w c => fqu cx cy ch on wx wy (fil nc (fus rm sv dm nw) mu) nc w c) qq) mg pt bd (tk + 1) (sv, fv, hd, lf, la, ho, ri, lo) nw).2.2.2.2.1) ++ wSo cI cW a b r2 hp rl cn be bw wo) ++ wL cI cZ cG a r nc nw cx cy ch rm on wx wy dm ((ftw on dm rm nc nw (fil2 nw nc (fun w c => fqu cx cy ch on wx wy (fil nc (fus rm sv dm nw) mu) nc w c) qq) mg pt bd (tk + 1) (sv, fv, hd, lf, la, ho, ri, lo) nw).1) (fil nc (fus rm sv dm nw) mu) (fil2 nw nc (fun w c => fqu cx cy ch on wx wy (fil nc (fus rm sv dm nw) mu) nc w c) qq)) ∧ tv = (T5 cI cZ cJ cG cW)) := by
  refine ctV_of (cc := cX2_passTick) (maxL := 3) RX2 2 [some (.ref (d 0)), none, none] (by decide +kernel) rfl rfl (Nat.le_of_ble_eq_true rfl) rfl (fun p_ e_ s_ m_ as_ bl_ me_ co_ C hret hini => ?_)
  have f10 := C.ts (.fieldLink RX2 10 "CellPlanner" "land" "LCellPlanner$Land;") (by decide +kernel)
  have f45 := C.ts (.fieldLink RX2 45 "CellPlanner" "bound" "I") (by decide +kernel)
  have f80 := C.ts (.fieldLink RX2 80 "CellPlanner$Land" "walkers" "I") (by decide +kernel)
  have f107 := C.ts (.fieldLink RX2 107 "CellPlanner" "ticks" "I") (by decide +kernel)
  have f117 := C.ts (.fieldLink RX2 117 "CellPlanner$Land" "quality" "[[I") (by decide +kernel)
  have f128 := C.ts (.fieldLink RX2 128 "CellPlanner$Land" "server" "[I") (by decide +kernel)
  refine g_aload_n C dX2_passTick_0 rfl ?_
  refine g_dup C dX2_passTick_1 rfl ?_
  refine g_get C 0 iX2_passTick_X2 rfl rfl 9 (by decide) f107 rfl dX2_passTick_2 ?_
  refine g_iconst C 1 dX2_passTick_5 (by decide +kernel) ?_
  refine g_iadd C (tk + 1) dX2_passTick_6 rfl ?_
  refine g_put C 0 iX2_passTick_X2 rfl rfl 9 (by decide) f107 rfl tyX2 tyX2_ok nmX2 (ty := .int) (by decide +kernel) rfl rfl (Nat.le_of_ble_eq_true rfl) ((wCo cI a b d mg pt bd (tk + 1) ho ri lo fv hd lf la ++ wSo cI cW a b r2 hp rl cn be bw wo) ++ wL cI cZ cG a r nc nw cx cy ch rm on wx wy dm sv mu qq) rfl dX2_passTick_7 ?_
  refine g_aload_n C dX2_passTick_10 rfl ?_
  refine g_get C 0 iX2_passTick_X2 rfl rfl 0 (by decide) f10 rfl dX2_passTick_11 ?_
  refine g_callVv C (wCo cI a b d mg pt bd (tk + 1) ho ri lo fv hd lf la ++ wSo cI cW a b r2 hp rl cn be bw wo) (wL cI cZ cG a r nc nw cx cy ch rm on wx wy dm sv mu qq) [] (t_X0_measure h5 h6 hr hg hq) rfl rfl (cwV 0 C.ts gX2_passTick_X0_measure rfl rfl rfl (by decide +kernel) ⟨Nat.le_of_ble_eq_true rfl, Nat.le_of_ble_eq_true rfl⟩) rfl rfl rfl (Nat.le_of_ble_eq_true rfl) dX2_passTick_14 ⟨Nat.le_of_ble_eq_true rfl, Nat.le_of_ble_eq_true rfl⟩ (fun wv1 tv1 hp1 => ?_)
  obtain ⟨rfl, rfl⟩ := hp1
  refine g_iconst C 0 dX2_passTick_17 (by decide +kernel) ?_
  refine g_istore_n C [some (.ref (d 0)), some (.int 0), none] dX2_passTick_18 (by decide) rfl rfl ?_
  refine g_loop2 0 ((sv, fv, hd, lf, la, ho, ri, lo)) (fun (i : Nat) (z : TS) => i ≤ nw ∧ z = ftw on dm rm nc nw (fil2 nw nc (fun w c => fqu cx cy ch on wx wy (fil nc (fus rm sv dm nw) mu) nc w c) qq) mg pt bd (tk + 1) (sv, fv, hd, lf, la, ho, ri, lo) i ∧ ∀ j, j < nw → SV nc (z.1 j)) (fun (i : Nat) (z : TS) => ((wCo cI a b d mg pt bd (tk + 1) z.2.2.2.2.2.1 z.2.2.2.2.2.2.1 z.2.2.2.2.2.2.2 z.2.1 z.2.2.1 z.2.2.2.1 z.2.2.2.2.1 ++ wSo cI cW a b r2 hp rl cn be bw wo) ++ wL cI cZ cG a r nc nw cx cy ch rm on wx wy dm z.1 (fil nc (fus rm sv dm nw) mu) (fil2 nw nc (fun w c => fqu cx cy ch on wx wy (fil nc (fus rm sv dm nw) mu) nc w c) qq))) (fun (i : Nat) (z : TS) => [some (.ref (d 0)), some (.int (nI i)), none]) (fun (i : Nat) (z : TS) => nw - i) ⟨Nat.zero_le _, rfl, hsv⟩ rfl rfl (fun i z hI ih => ?_)
  obtain ⟨h1, h2, h3⟩ := hI
  refine g_iload_n C dX2_passTick_19 rfl ?_
  refine g_aload_n C dX2_passTick_20 rfl ?_
  refine g_get C 0 iX2_passTick_X2 rfl rfl 0 (by decide) f10 rfl dX2_passTick_21 ?_
  refine g_get C 17 iX2_passTick_X0 rfl rfl 10 (by decide) f80 rfl dX2_passTick_24 ?_
  refine g_icmp_ge C 91 dX2_passTick_27 (by decide) (fun c_27 => ?_) (fun c_27 => ?_)
  · skip
    have c_27 : nw ≤ i := (nI_leI (by omega) (by omega)).mp c_27
    exact g_vret C hret dX2_passTick_91 (Nat.le_of_ble_eq_true rfl) (Nat.le_of_ble_eq_true rfl) ⟨(by rw [← show z = ftw on dm rm nc nw (fil2 nw nc (fun w c => fqu cx cy ch on wx wy (fil nc (fus rm sv dm nw) mu) nc w c) qq) mg pt bd (tk + 1) (sv, fv, hd, lf, la, ho, ri, lo) nw from (by rw [h2, show i = nw by omega])] <;> rfl), rfl⟩
  · skip
    have c_27 : ¬ (nw ≤ i) := fun h9 => c_27 ((nI_leI (by omega) (by omega)).mpr h9)
    refine g_aload_n C dX2_passTick_30 rfl ?_
    refine g_get C 0 iX2_passTick_X2 rfl rfl 0 (by decide) f10 rfl dX2_passTick_31 ?_
    refine g_get C 17 iX2_passTick_X0 rfl rfl 9 (by decide) f128 rfl dX2_passTick_34 ?_
    refine g_iload_n C dX2_passTick_37 rfl ?_
    refine g_iald C 26 0 rfl rfl i rfl (by omega) (by decide) (z.1 i) rfl dX2_passTick_38 ?_
    refine g_istore_n C [some (.ref (d 0)), some (.int (nI i)), some (.int (z.1 i))] dX2_passTick_39 (by decide) rfl rfl ?_
    refine g_iload_n C dX2_passTick_40 rfl ?_
    refine g_iconst C (-1) dX2_passTick_41 (by decide +kernel) ?_
    refine g_icmp_ne C 53 dX2_passTick_42 (by decide) (fun c_42 => ?_) (fun c_42 => ?_)
    · skip
      obtain ⟨ks, hk5, hks⟩ : ∃ k, k < nc ∧ z.1 i = nI k := (h3 i (by omega)).resolve_left c_42
      refine g_aload_n C dX2_passTick_53 rfl ?_
      refine g_get C 0 iX2_passTick_X2 rfl rfl 0 (by decide) f10 rfl dX2_passTick_54 ?_
      refine g_get C 17 iX2_passTick_X0 rfl rfl 12 (by decide) f117 rfl dX2_passTick_57 ?_
      refine g_iload_n C dX2_passTick_60 rfl ?_
      refine g_aald C 28 3 rfl rfl i rfl (by omega) (by decide) (r i) (if_pos (by omega)) dX2_passTick_61 ?_
      refine g_iload_n C dX2_passTick_62 rfl ?_
      refine g_iald C (29 + i) 0 (wC_row (by omega)) rfl ks hks (by omega) (by decide) ((fil2 nw nc (fun w c => fqu cx cy ch on wx wy (fil nc (fus rm sv dm nw) mu) nc w c) qq) i ks) rfl dX2_passTick_63 ?_
      refine g_aload_n C dX2_passTick_64 rfl ?_
      refine g_get C 0 iX2_passTick_X2 rfl rfl 8 (by decide) f45 rfl dX2_passTick_65 ?_
      refine g_icmp_ge C 79 dX2_passTick_68 (by decide) (fun c_68 => ?_) (fun c_68 => ?_)
      · skip
        refine g_aload_n C dX2_passTick_79 rfl ?_
        refine g_iload_n C dX2_passTick_80 rfl ?_
        refine g_iload_n C dX2_passTick_81 rfl ?_
        refine g_callVv C [] ((wCo cI a b d mg pt bd (tk + 1) z.2.2.2.2.2.1 z.2.2.2.2.2.2.1 z.2.2.2.2.2.2.2 z.2.1 z.2.2.1 z.2.2.2.1 z.2.2.2.2.1 ++ wSo cI cW a b r2 hp rl cn be bw wo) ++ wL cI cZ cG a r nc nw cx cy ch rm on wx wy dm z.1 (fil nc (fus rm sv dm nw) mu) (fil2 nw nc (fun w c => fqu cx cy ch on wx wy (fil nc (fus rm sv dm nw) mu) nc w c) qq)) [.int (nI i), .int (z.1 i)] (t_X2_weighFavourite h5 h6 (by omega) (show ks < 5 by omega) hks (by rw [hks, nI_clamp (by omega)]; exact c_68)) rfl rfl (cwV 2 C.ts gX2_passTick_X2_weighFavourite rfl rfl rfl (by decide +kernel) ⟨Nat.le_of_ble_eq_true rfl, Nat.le_of_ble_eq_true rfl⟩) rfl rfl rfl (Nat.le_of_ble_eq_true rfl) dX2_passTick_82 ⟨Nat.le_of_ble_eq_true rfl, Nat.le_of_ble_eq_true rfl⟩ (fun wv2 tv2 hp2 => ?_)
        obtain ⟨rfl, rfl⟩ := hp2
        refine g_iinc C (nI (i + 1)) [some (.ref (d 0)), some (.int (nI (i + 1))), some (.int (z.1 i))] dX2_passTick_85 rfl (nI_1 i) (by decide) rfl rfl ?_
        refine g_goto C 19 dX2_passTick_88 (by decide) ?_
        refine g_mask [true, true, false] rfl ?_
        exact ih (i + 1) (fts on dm rm nc nw (fil2 nw nc (fun w c => fqu cx cy ch on wx wy (fil nc (fus rm sv dm nw) mu) nc w c) qq) mg pt bd (tk + 1) i z) ⟨by omega, by rw [ftw, ← h2], fts_sv h3⟩ (by omega)
      · skip
        refine g_aload_n C dX2_passTick_71 rfl ?_
        refine g_iload_n C dX2_passTick_72 rfl ?_
        refine g_callVv C [] ((wCo cI a b d mg pt bd (tk + 1) z.2.2.2.2.2.1 z.2.2.2.2.2.2.1 z.2.2.2.2.2.2.2 z.2.1 z.2.2.1 z.2.2.2.1 z.2.2.2.2.1 ++ wSo cI cW a b r2 hp rl cn be bw wo) ++ wL cI cZ cG a r nc nw cx cy ch rm on wx wy dm z.1 (fil nc (fus rm sv dm nw) mu) (fil2 nw nc (fun w c => fqu cx cy ch on wx wy (fil nc (fus rm sv dm nw) mu) nc w c) qq)) [.int (nI i)] (t_X2_loseCell (by omega) c_42 (by rw [hks, nI_clamp (by omega)]; exact c_68)) rfl rfl (cwV 1 C.ts gX2_passTick_X2_loseCell rfl rfl rfl (by decide +kernel) ⟨Nat.le_of_ble_eq_true rfl, Nat.le_of_ble_eq_true rfl⟩) rfl rfl rfl (Nat.le_of_ble_eq_true rfl) dX2_passTick_73 ⟨Nat.le_of_ble_eq_true rfl, Nat.le_of_ble_eq_true rfl⟩ (fun wv3 tv3 hp3 => ?_)
        obtain ⟨rfl, rfl⟩ := hp3
        refine g_goto C 85 dX2_passTick_76 (by decide) ?_
        refine g_iinc C (nI (i + 1)) [some (.ref (d 0)), some (.int (nI (i + 1))), some (.int (z.1 i))] dX2_passTick_85 rfl (nI_1 i) (by decide) rfl rfl ?_
        refine g_goto C 19 dX2_passTick_88 (by decide) ?_
        refine g_mask [true, true, false] rfl ?_
        exact ih (i + 1) (fts on dm rm nc nw (fil2 nw nc (fun w c => fqu cx cy ch on wx wy (fil nc (fus rm sv dm nw) mu) nc w c) qq) mg pt bd (tk + 1) i z) ⟨by omega, by rw [ftw, ← h2], fts_sv h3⟩ (by omega)
    · skip
      refine g_aload_n C dX2_passTick_45 rfl ?_
      refine g_iload_n C dX2_passTick_46 rfl ?_
      refine g_callVv C [] ((wCo cI a b d mg pt bd (tk + 1) z.2.2.2.2.2.1 z.2.2.2.2.2.2.1 z.2.2.2.2.2.2.2 z.2.1 z.2.2.1 z.2.2.2.1 z.2.2.2.2.1 ++ wSo cI cW a b r2 hp rl cn be bw wo) ++ wL cI cZ cG a r nc nw cx cy ch rm on wx wy dm z.1 (fil nc (fus rm sv dm nw) mu) (fil2 nw nc (fun w c => fqu cx cy ch on wx wy (fil nc (fus rm sv dm nw) mu) nc w c) qq)) [.int (nI i)] (t_X2_seekCell h5 h6 (by omega) c_42) rfl rfl (cwV 1 C.ts gX2_passTick_X2_seekCell rfl rfl rfl (by decide +kernel) ⟨Nat.le_of_ble_eq_true rfl, Nat.le_of_ble_eq_true rfl⟩) rfl rfl rfl (Nat.le_of_ble_eq_true rfl) dX2_passTick_47 ⟨Nat.le_of_ble_eq_true rfl, Nat.le_of_ble_eq_true rfl⟩ (fun wv4 tv4 hp4 => ?_)
      obtain ⟨rfl, rfl⟩ := hp4
      refine g_goto C 85 dX2_passTick_50 (by decide) ?_
      refine g_iinc C (nI (i + 1)) [some (.ref (d 0)), some (.int (nI (i + 1))), some (.int (z.1 i))] dX2_passTick_85 rfl (nI_1 i) (by decide) rfl rfl ?_
      refine g_goto C 19 dX2_passTick_88 (by decide) ?_
      refine g_mask [true, true, false] rfl ?_
      exact ih (i + 1) (fts on dm rm nc nw (fil2 nw nc (fun w c => fqu cx cy ch on wx wy (fil nc (fus rm sv dm nw) mu) nc w c) qq) mg pt bd (tk + 1) i z) ⟨by omega, by rw [ftw, ← h2], fts_sv h3⟩ (by omega)
theorem iX2_mostServed_X2 : ∀ w ∈ u_ws RX2 TX2 13, w ∈ wsX2_mostServed := by decide +kernel
set_option maxHeartbeats 1000000 in
set_option maxRecDepth 100000 in
theorem t_X2_mostServed {l : Launch} {D : va_G} {cI cZ cJ cG cW : ClassId} {a b d : Nat → Nat} {mg pt bd tk ho ri lo : Int32} {fv hd lf la : Nat → Int32} {r2 : Nat → Nat} {hp rl cn be : Nat → Int32} {bw : Int32} {wo : Nat → Nat → Int32} {r : Nat → Nat} {nc nw : Nat} {cx cy ch rm on wx wy dm sv mu : Nat → Int32} {qq : Nat → Nat → Int32}  (h5 : nc ≤ 5) (h6 : nw ≤ 6) (hr : ∀ c, c < nc → ¬ rm c ≤ 0) (hg : ∀ c w, c < nc → w < nw → ¬ dsq (cx c) (cy c) (wx w) (wy w) = 0) (hq : ∀ c w, c < nc → w < nw → ¬ 10 + fdi ch on (fil nc (fus rm sv dm nw) mu) (sgw cx cy wx wy w) c nc = 0) : CtI l yX2_mostServed wsX2_mostServed 12 531 0 0 D (T5 cI cZ cJ cG cW) [.ref (d 0)] ((wCo cI a b d mg pt bd tk ho ri lo fv hd lf la ++ wSo cI cW a b r2 hp rl cn be bw wo) ++ wL cI cZ cG a r nc nw cx cy ch rm on wx wy dm sv mu qq) (fun rv wv => ∃ (z : S4) (P : Nat → Int32) (Y : Nat → Nat → Int32), rv = z.2.2.2 ∧ wv = ((wCo cI a b d mg pt bd tk ho ri lo fv hd lf la ++ wSo cI cW a b r2 P z.1 z.2.1 z.2.2.1 z.2.2.2 Y) ++ wL cI cZ cG a r nc nw cx cy ch rm on wx wy dm sv (fil nc (fus rm sv dm nw) mu) (fil2 nw nc (fun w c => fqu cx cy ch on wx wy (fil nc (fus rm sv dm nw) mu) nc w c) qq)) ∧ GW nc nw rm on dm (fil2 nw nc (fun w c => fqu cx cy ch on wx wy (fil nc (fus rm sv dm nw) mu) nc w c) qq) bd 1 0 0 rl cn be P Y z) := by
  refine ctI_of (cc := cX2_mostServed) (maxL := 1) RX2 0 [some (.ref (d 0))] (by decide +kernel) rfl rfl (Nat.le_of_ble_eq_true rfl) rfl (fun p_ e_ s_ m_ as_ bl_ me_ co_ C hret => ?_)
  have f21 := C.ts (.fieldLink RX2 21 "CellPlanner" "search" "LCellPlanner$Search;") (by decide +kernel)
  have f45 := C.ts (.fieldLink RX2 45 "CellPlanner" "bound" "I") (by decide +kernel)
  refine g_aload_n C dX2_mostServed_0 rfl ?_
  refine g_get C 0 iX2_mostServed_X2 rfl rfl 1 (by decide) f21 rfl dX2_mostServed_1 ?_
  refine g_aload_n C dX2_mostServed_4 rfl ?_
  refine g_get C 0 iX2_mostServed_X2 rfl rfl 8 (by decide) f45 rfl dX2_mostServed_5 ?_
  refine g_iconst C 1 dX2_mostServed_8 (by decide +kernel) ?_
  refine g_iconst C 0 dX2_mostServed_9 (by decide +kernel) ?_
  refine g_iconst C 0 dX2_mostServed_10 (by decide +kernel) ?_
  refine g_callVi C (wCo cI a b d mg pt bd tk ho ri lo fv hd lf la) (wSo cI cW a b r2 hp rl cn be bw wo ++ (wL cI cZ cG a r nc nw cx cy ch rm on wx wy dm sv mu qq)) [.int bd, .int 1, .int 0, .int 0] (t_X1_greatestWorth h5 h6 hr hg hq) rfl rfl (cwV 4 C.ts gX2_mostServed_X1_greatestWorth rfl rfl rfl (by decide +kernel) ⟨Nat.le_of_ble_eq_true rfl, Nat.le_of_ble_eq_true rfl⟩) rfl (List.append_assoc _ _ _) rfl (Nat.le_of_ble_eq_true rfl) dX2_mostServed_11 ⟨Nat.le_of_ble_eq_true rfl, Nat.le_of_ble_eq_true rfl⟩ (fun rv1 wv1 hp1 => ?_)
  obtain ⟨z, P, Y, rfl, rfl, hz⟩ := hp1
  refine g_w (ws' := ((wCo cI a b d mg pt bd tk ho ri lo fv hd lf la ++ wSo cI cW a b r2 P z.1 z.2.1 z.2.2.1 z.2.2.2 Y) ++ wL cI cZ cG a r nc nw cx cy ch rm on wx wy dm sv (fil nc (fus rm sv dm nw) mu) (fil2 nw nc (fun w c => fqu cx cy ch on wx wy (fil nc (fus rm sv dm nw) mu) nc w c) qq))) (List.append_assoc _ _ _).symm ?_
  exact g_iret C hret dX2_mostServed_14 (Nat.le_of_ble_eq_true rfl) (Nat.le_of_ble_eq_true rfl) ⟨z, P, Y, rfl, rfl, hz⟩
theorem iX2_mostDemand_X2 : ∀ w ∈ u_ws RX2 TX2 13, w ∈ wsX2_mostDemand := by decide +kernel
set_option maxHeartbeats 1000000 in
set_option maxRecDepth 100000 in
theorem t_X2_mostDemand {l : Launch} {D : va_G} {cI cZ cJ cG cW : ClassId} {a b d : Nat → Nat} {mg pt bd tk ho ri lo : Int32} {fv hd lf la : Nat → Int32} {r2 : Nat → Nat} {hp rl cn be : Nat → Int32} {bw : Int32} {wo : Nat → Nat → Int32} {r : Nat → Nat} {nc nw : Nat} {cx cy ch rm on wx wy dm sv mu : Nat → Int32} {qq : Nat → Nat → Int32}  (h5 : nc ≤ 5) (h6 : nw ≤ 6) (hr : ∀ c, c < nc → ¬ rm c ≤ 0) (hg : ∀ c w, c < nc → w < nw → ¬ dsq (cx c) (cy c) (wx w) (wy w) = 0) (hq : ∀ c w, c < nc → w < nw → ¬ 10 + fdi ch on (fil nc (fus rm sv dm nw) mu) (sgw cx cy wx wy w) c nc = 0) : CtI l yX2_mostDemand wsX2_mostDemand 12 531 0 0 D (T5 cI cZ cJ cG cW) [.ref (d 0)] ((wCo cI a b d mg pt bd tk ho ri lo fv hd lf la ++ wSo cI cW a b r2 hp rl cn be bw wo) ++ wL cI cZ cG a r nc nw cx cy ch rm on wx wy dm sv mu qq) (fun rv wv => ∃ (z : S4) (P : Nat → Int32) (Y : Nat → Nat → Int32), rv = z.2.2.2 ∧ wv = ((wCo cI a b d mg pt bd tk ho ri lo fv hd lf la ++ wSo cI cW a b r2 P z.1 z.2.1 z.2.2.1 z.2.2.2 Y) ++ wL cI cZ cG a r nc nw cx cy ch rm on wx wy dm sv (fil nc (fus rm sv dm nw) mu) (fil2 nw nc (fun w c => fqu cx cy ch on wx wy (fil nc (fus rm sv dm nw) mu) nc w c) qq)) ∧ GW nc nw rm on dm (fil2 nw nc (fun w c => fqu cx cy ch on wx wy (fil nc (fus rm sv dm nw) mu) nc w c) qq) bd 0 1 0 rl cn be P Y z) := by
  refine ctI_of (cc := cX2_mostDemand) (maxL := 1) RX2 0 [some (.ref (d 0))] (by decide +kernel) rfl rfl (Nat.le_of_ble_eq_true rfl) rfl (fun p_ e_ s_ m_ as_ bl_ me_ co_ C hret => ?_)
  have f21 := C.ts (.fieldLink RX2 21 "CellPlanner" "search" "LCellPlanner$Search;") (by decide +kernel)
  have f45 := C.ts (.fieldLink RX2 45 "CellPlanner" "bound" "I") (by decide +kernel)
  refine g_aload_n C dX2_mostDemand_0 rfl ?_
  refine g_get C 0 iX2_mostDemand_X2 rfl rfl 1 (by decide) f21 rfl dX2_mostDemand_1 ?_
  refine g_aload_n C dX2_mostDemand_4 rfl ?_
  refine g_get C 0 iX2_mostDemand_X2 rfl rfl 8 (by decide) f45 rfl dX2_mostDemand_5 ?_
  refine g_iconst C 0 dX2_mostDemand_8 (by decide +kernel) ?_
  refine g_iconst C 1 dX2_mostDemand_9 (by decide +kernel) ?_
  refine g_iconst C 0 dX2_mostDemand_10 (by decide +kernel) ?_
  refine g_callVi C (wCo cI a b d mg pt bd tk ho ri lo fv hd lf la) (wSo cI cW a b r2 hp rl cn be bw wo ++ (wL cI cZ cG a r nc nw cx cy ch rm on wx wy dm sv mu qq)) [.int bd, .int 0, .int 1, .int 0] (t_X1_greatestWorth h5 h6 hr hg hq) rfl rfl (cwV 4 C.ts gX2_mostDemand_X1_greatestWorth rfl rfl rfl (by decide +kernel) ⟨Nat.le_of_ble_eq_true rfl, Nat.le_of_ble_eq_true rfl⟩) rfl (List.append_assoc _ _ _) rfl (Nat.le_of_ble_eq_true rfl) dX2_mostDemand_11 ⟨Nat.le_of_ble_eq_true rfl, Nat.le_of_ble_eq_true rfl⟩ (fun rv1 wv1 hp1 => ?_)
  obtain ⟨z, P, Y, rfl, rfl, hz⟩ := hp1
  refine g_w (ws' := ((wCo cI a b d mg pt bd tk ho ri lo fv hd lf la ++ wSo cI cW a b r2 P z.1 z.2.1 z.2.2.1 z.2.2.2 Y) ++ wL cI cZ cG a r nc nw cx cy ch rm on wx wy dm sv (fil nc (fus rm sv dm nw) mu) (fil2 nw nc (fun w c => fqu cx cy ch on wx wy (fil nc (fus rm sv dm nw) mu) nc w c) qq))) (List.append_assoc _ _ _).symm ?_
  exact g_iret C hret dX2_mostDemand_14 (Nat.le_of_ble_eq_true rfl) (Nat.le_of_ble_eq_true rfl) ⟨z, P, Y, rfl, rfl, hz⟩
end
section
/-! methods that throw: contracts and rows over G -/
abbrev xIA : String := "java/lang/IllegalArgumentException"
abbrev xIS : String := "java/lang/IllegalStateException"
abbrev xIB : String := "java/lang/IndexOutOfBoundsException"
/-- what the tables say of the three kinds that are thrown, and the five texts -/
def EV (U : State) : Prop :=
  (va_Nw (.castable xIA xIA) U ∧ va_Nw (.castable xIS xIS) U ∧ va_Nw (.castable xIB xIB) U) ∧
  (va_Nw (.declares (Bundle.initS Bundle.tN)) U ∧ va_Nw (.declares (Bundle.initS "java/lang/Exception")) U ∧ va_Nw (.declares (Bundle.initS "java/lang/RuntimeException")) U) ∧
  (va_Nc xIS xIA U ∧ va_Nc xIA xIB U) ∧
  (∃ sa, vk_R "CellPlanner" 146 "an argument is out of its range" sa U) ∧ (∃ sa, vk_R "CellPlanner" 57 "there are 5 cells" sa U) ∧ (∃ sa, vk_R "CellPlanner" 151 "there is no such cell" sa U) ∧ (∃ sa, vk_R "CellPlanner" 83 "there are 6 walkers" sa U) ∧ (∃ sa, vk_R "CellPlanner" 154 "there is no such walker" sa U)
theorem decl_warm {x : MethodName} {s U : State} (hW : s.WarmedH U.vm) (h : va_Nw (.declares x) s) : va_Nw (.declares x) U := va_tabs rfl (rfl : (s.setVm U.vm).vm = U.vm) (by rw [Cond.declares_setVm hW.alike]; exact h)
theorem EV.warm {s U : State} (hW : s.WarmedH U.vm) (h : EV s) : EV U := by
  obtain ⟨⟨a1, a2, a3⟩, ⟨b1, b2, b3⟩, ⟨c1, c2⟩, ⟨s1, d1⟩, ⟨s2, d2⟩, ⟨s3, d3⟩, ⟨s4, d4⟩, ⟨s5, d5⟩⟩ := h
  exact ⟨⟨a1.warmC hW, a2.warmC hW, a3.warmC hW⟩, ⟨decl_warm hW b1, decl_warm hW b2, decl_warm hW b3⟩, ⟨c1.moved hW.alike, c2.moved hW.alike⟩, ⟨s1, d1.warm hW⟩, ⟨s2, d2.warm hW⟩, ⟨s3, d3.warm hW⟩, ⟨s4, d4.warm hW⟩, ⟨s5, d5.warm hW⟩⟩
theorem EV.same {s U : State} (hv : U.vm = s.vm) (h : EV s) : EV U := by
  obtain ⟨⟨a1, a2, a3⟩, ⟨b1, b2, b3⟩, ⟨c1, c2⟩, ⟨s1, d1⟩, ⟨s2, d2⟩, ⟨s3, d3⟩, ⟨s4, d4⟩, ⟨s5, d5⟩⟩ := h
  have hal : s.vm.Alike U.vm := by rw [hv]; exact Vm.Alike.refl _
  exact ⟨⟨a1.same rfl hv.symm, a2.same rfl hv.symm, a3.same rfl hv.symm⟩, ⟨b1.same rfl hv.symm, b2.same rfl hv.symm, b3.same rfl hv.symm⟩, ⟨c1.moved hal, c2.moved hal⟩, ⟨s1, d1.same hv⟩, ⟨s2, d2.same hv⟩, ⟨s3, d3.same hv⟩, ⟨s4, d4.same hv⟩, ⟨s5, d5.same hv⟩⟩
/-- what a method that may throw knows at its entry, beside its world -/
def XX (A : Nat → Prop) (U : State) (H : Heap) : Prop := EV U ∧ vx_Zq Bundle.tN "UNASSIGNED_STACK" Bundle.steD A U H ∧ vx_Zq Bundle.tN "SUPPRESSED_SENTINEL" Bundle.listD A U H
theorem XX.into {A B : Nat → Prop} {s U : State} {H : Heap} {locs : List Loc} (h : XX A s s.heap) (hS : va_S A s.heap H locs) (hAB : ∀ q, B q → A q) (hW : s.WarmedH U.vm) (hU : U.heap = H) : XX B U U.heap := by
  obtain ⟨h1, h2, h3⟩ := h
  rw [hU]
  exact ⟨h1.warm hW, ((h2.kept hS.2.1).narrow hAB).moved hW.alike, ((h3.kept hS.2.1).narrow hAB).moved hW.alike⟩
def Bx (D : va_G) (tys : List (ClassId × FieldType)) (w : va_W) (sz : Nat) : State → Prop := fun U => Bf D tys w sz U ∧ XX (va_A w sz) U U.heap
theorem Bx_blind {D : va_G} {tys : List (ClassId × FieldType)} {av : List Value} {w : va_W} {sz : Nat} : FrameBlind (va_Pc av (Bx D tys w sz)) := fun a U g mk q => by
  obtain ⟨q0, ⟨q1, qP, qK, qD⟩, e1, e2, e3⟩ := q
  exact ⟨q0, ⟨q1, qP, va_K.moved (u := U) (U := U.calling g mk a) (Vm.Alike.refl U.vm) qK, qD⟩, e1.same rfl, e2.moved (u := U) (U := U.calling g mk a) (Vm.Alike.refl U.vm), e3.moved (u := U) (U := U.calling g mk a) (Vm.Alike.refl U.vm)⟩
/-- where it has thrown: the kind, and the world as it was -/
def XCf (D : va_G) (tys : List (ClassId × FieldType)) (w : va_W) (sz : Nat) (px : String → Prop) : String → State → State → Prop :=
  vx_X (S := Unit) (fun _ => True) (fun E _ t => px E ∧ va_P D vwCl w t.heap ∧ va_K D vwCl tys t ∧ va_D (va_A w sz) w) (va_A w sz)
def CxI (l : Launch) (y : MethodName) (wds : List Cond) (fr lo mc ms : Nat) (D : va_G) (tys : List (ClassId × FieldType)) (av : List Value) (w : va_W) (post : Int32 → va_W → Prop) (px : String → Prop) : Prop :=
  ∀ sz : Nat, vx_Met l y wds { frames := fr, cells := mc, slots := ms, locals := lo } (va_Pc av (Bx D tys w sz)) (va_Qi (fun r u => post r u.1 ∧ u.2 = tys) (Af D w sz) (va_A w sz)) (XCf D tys w sz px) mc ms (va_A w sz)
def CxV (l : Launch) (y : MethodName) (wds : List Cond) (fr lo mc ms : Nat) (D : va_G) (tys : List (ClassId × FieldType)) (av : List Value) (w : va_W) (post : va_W → List (ClassId × FieldType) → Prop) (px : String → Prop) : Prop :=
  ∀ sz : Nat, vx_Met l y wds { frames := fr, cells := mc, slots := ms, locals := lo } (va_Pc av (Bx D tys w sz)) (va_Qv (fun u => post u.1 u.2) (Af D w sz) (va_A w sz)) (XCf D tys w sz px) mc ms (va_A w sz)
def QXI (below : List Frame) (post : Int32 → va_W → Prop) (px : String → Prop) (D : va_G) (tys : List (ClassId × FieldType)) (w : va_W) (args : Array Value) (s : State) (mc ms : Nat) : State → Prop :=
  vx_MQ below (va_Qi (fun r u => post r u.1 ∧ u.2 = tys) (Af D w s.heap.size) (va_A w s.heap.size)) (XCf D tys w s.heap.size px) args s mc ms (va_A w s.heap.size)
def QXV (below : List Frame) (post : va_W → List (ClassId × FieldType) → Prop) (px : String → Prop) (D : va_G) (tys : List (ClassId × FieldType)) (w : va_W) (args : Array Value) (s : State) (mc ms : Nat) : State → Prop :=
  vx_MQ below (va_Qv (fun u => post u.1 u.2) (Af D w s.heap.size) (va_A w s.heap.size)) (XCf D tys w s.heap.size px) args s mc ms (va_A w s.heap.size)
theorem cxI_of {l : Launch} {D : va_G} {tys : List (ClassId × FieldType)} {y : MethodName} {wds wds' : List Cond} {fr lo mc ms : Nat} {av : List Value} {w : va_W} {post : Int32 → va_W → Prop} {px : String → Prop} {cc : ByteArray} {maxL : Nat} {ret : Option FieldType} (own : String) (r : Nat) (lv0 : List (Option Value)) (hy : plainName y.cls = true) (hw : wds = Cond.code y cc maxL ret :: wds') (hown : y.cls = own) (hlen : (lg_sl av).length ≤ maxL) (hlv : lvE av ++ List.replicate r none = lv0)
    (body : ∀ (p : Program) (e : Env) (s : State) (m : MethodId) (args : Array Value) (below : List Frame) (meth : Method) (c : Code), CX p s m args meth c cc own wds D tys (va_A w s.heap.size) maxL → meth.sig.returnType = ret → (∀ x ∈ c.exceptionTable.toList, False) → XX (va_A w s.heap.size) s s.heap →
      G p l e { frames := fr, cells := mc, slots := ms, locals := lo } s m args below meth c D (va_A w s.heap.size) maxL (QXI below post px D tys w args s mc ms) 0 0 w lv0 0 []) : CxI l y wds fr lo mc ms D tys av w post px := by
  intro sz
  refine vx_ofW (cc := cc) (maxL := maxL) (ret := ret) hy hw ?_
  intro p e s m args below meth c s₁ B hml hE hv
  obtain ⟨rfl, ⟨hsz, hP, hK, hD0⟩, hX⟩ := hv
  subst hsz
  rw [lg_entry_eq]
  exact body p e s m av.toArray below meth c ⟨B.exec, B.bytes, hml, by rw [← hown]; exact findClass_of_methodNamed B.named, atoms_spec (ws := wds) B.pre, hK, fun q h => Or.inr h, B.notSynchronized⟩ B.returns hE hX s.heap [] _ hP (hD0.self) va_S.rf (lh_entry hlen hlv)
theorem cxV_of {l : Launch} {D : va_G} {tys : List (ClassId × FieldType)} {y : MethodName} {wds wds' : List Cond} {fr lo mc ms : Nat} {av : List Value} {w : va_W} {post : va_W → List (ClassId × FieldType) → Prop} {px : String → Prop} {cc : ByteArray} {maxL : Nat} (own : String) (r : Nat) (lv0 : List (Option Value)) (hy : plainName y.cls = true) (hw : wds = Cond.code y cc maxL none :: wds') (hown : y.cls = own) (hlen : (lg_sl av).length ≤ maxL) (hlv : lvE av ++ List.replicate r none = lv0)
    (body : ∀ (p : Program) (e : Env) (s : State) (m : MethodId) (args : Array Value) (below : List Frame) (meth : Method) (c : Code), CX p s m args meth c cc own wds D tys (va_A w s.heap.size) maxL → meth.sig.returnType = none → (∀ x ∈ c.exceptionTable.toList, False) → XX (va_A w s.heap.size) s s.heap →
      G p l e { frames := fr, cells := mc, slots := ms, locals := lo } s m args below meth c D (va_A w s.heap.size) maxL (QXV below post px D tys w args s mc ms) 0 0 w lv0 0 []) : CxV l y wds fr lo mc ms D tys av w post px := by
  intro sz
  refine vx_ofW (cc := cc) (maxL := maxL) (ret := none) hy hw ?_
  intro p e s m args below meth c s₁ B hml hE hv
  obtain ⟨rfl, ⟨hsz, hP, hK, hD0⟩, hX⟩ := hv
  subst hsz
  rw [lg_entry_eq]
  exact body p e s m av.toArray below meth c ⟨B.exec, B.bytes, hml, by rw [← hown]; exact findClass_of_methodNamed B.named, atoms_spec (ws := wds) B.pre, hK, fun q h => Or.inr h, B.notSynchronized⟩ B.returns hE hX s.heap [] _ hP (hD0.self) va_S.rf (lh_entry hlen hlv)
/-- a method with handlers -/
theorem cxI_ofH {l : Launch} {D : va_G} {tys : List (ClassId × FieldType)} {y : MethodName} {wds wds' : List Cond} {fr lo mc ms : Nat} {av : List Value} {w : va_W} {post : Int32 → va_W → Prop} {px : String → Prop} {cc : ByteArray} {maxL : Nat} {ret : Option FieldType} {hh : List (Nat × Nat × Nat × Nat)} (own : String) (r : Nat) (lv0 : List (Option Value)) (hy : plainName y.cls = true) (hw : wds = Cond.codeWith y cc maxL ret hh :: wds') (hown : y.cls = own) (hlen : (lg_sl av).length ≤ maxL) (hlv : lvE av ++ List.replicate r none = lv0)
    (body : ∀ (p : Program) (e : Env) (s : State) (m : MethodId) (args : Array Value) (below : List Frame) (meth : Method) (c : Code), CX p s m args meth c cc own wds D tys (va_A w s.heap.size) maxL → meth.sig.returnType = ret → c.exceptionTable.toList = tableOf hh → XX (va_A w s.heap.size) s s.heap →
      G p l e { frames := fr, cells := mc, slots := ms, locals := lo } s m args below meth c D (va_A w s.heap.size) maxL (QXI below post px D tys w args s mc ms) 0 0 w lv0 0 []) : CxI l y wds fr lo mc ms D tys av w post px := by
  intro sz
  refine vx_ofWH (cc := cc) (maxL := maxL) (ret := ret) (hh := hh) hy hw ?_
  intro p e s m args below meth c s₁ B hml hv
  obtain ⟨rfl, ⟨hsz, hP, hK, hD0⟩, hX⟩ := hv
  subst hsz
  rw [lg_entry_eq]
  have hts := atoms_spec (ws := wds) B.pre
  exact body p e s m av.toArray below meth c ⟨B.exec, B.bytes, hml, by rw [← hown]; exact findClass_of_methodNamed B.named, hts, hK, fun q h => Or.inr h, B.notSynchronized⟩ B.returns (vx_table (x := y) B (hts _ (by rw [hw]; exact List.mem_cons_self))) hX s.heap [] _ hP (hD0.self) va_S.rf (lh_entry hlen hlv)
section GX
variable {p : Program} {l : Launch} {e : Env} {R : Room} {s : State} {m : MethodId} {args : Array Value} {below : List Frame} {meth : Method} {c : Code} {Q : State → Prop} {k n : Nat}
variable {cc : ByteArray} {own : String} {Ts : List Cond} {D : va_G} {tys : List (ClassId × FieldType)} {A : Nat → Prop} {nL : Nat} {ws : va_W} {lv : List (Option Value)} {pc : Nat} {st : List Value}
variable {w0 : va_W} {mc ms : Nat} {px : String → Prop}
theorem gx_I {post : Int32 → va_W → Prop} (kk : G p l e R s m args below meth c D A nL (QI below post D tys w0 args s mc ms) k n ws lv pc st) : G p l e R s m args below meth c D A nL (QXI below post px D tys w0 args s mc ms) k n ws lv pc st :=
  fun H locs ls hP hD hS hl => vx_ret (kk H locs ls hP hD hS hl)
theorem gx_V {post : va_W → List (ClassId × FieldType) → Prop} (kk : G p l e R s m args below meth c D A nL (QV below post D w0 args s mc ms) k n ws lv pc st) : G p l e R s m args below meth c D A nL (QXV below post px D tys w0 args s mc ms) k n ws lv pc st :=
  fun H locs ls hP hD hS hl => vx_ret (kk H locs ls hP hD hS hl)
/-- where a throw begins: the world is still the entry's -/
theorem XC_of {H : Heap} {locs : List Loc} (hK : va_K D vwCl tys s) (hP : va_P D vwCl w0 H) (hD : va_D (va_A w0 s.heap.size) w0) (hS : va_S (va_A w0 s.heap.size) s.heap H locs) {E : String} (hpx : px E) {t : State} (hal : s.vm.Alike t.vm) (hz : H.size ≤ t.heap.size) (ho : ∀ q : Nat, q < H.size → t.heap[q]? = H[q]?) : XCf D tys w0 s.heap.size px E s t :=
  ⟨(), trivial, ⟨hpx, hP.kept (fun k q hq => ho q.1 ((hP k q hq).lt)), va_K.moved hal hK, hD⟩, Nat.le_trans hS.1 hz, fun q h1 h2 => (ho q (Nat.lt_of_lt_of_le h1 hS.1)).trans (hS.2.1 q h1 h2)⟩
def xB (X : String) : List Cond := [.castable X X, .declares (Bundle.initS Bundle.tN), .declares (Bundle.initS "java/lang/Exception"), .declares (Bundle.initS "java/lang/RuntimeException")]
theorem xB_ok {X : String} (h1 : va_Nw (.castable X X) s) (h : EV s) : ∀ w ∈ xB X, w.before args s = true :=
  vx_c (va_Nw.use rfl h1) (vx_c (va_Nw.use rfl h.2.1.1) (vx_c (va_Nw.use rfl h.2.1.2.1) (vx_c (va_Nw.use rfl h.2.1.2.2) vx_n)))
theorem gx_throwI {post : Int32 → va_W → Prop} (C : CX p s m args meth c cc own Ts D tys (va_A w0 s.heap.size) nL) (hl0 : l.stackTraces = false) (hE : ∀ x ∈ c.exceptionTable.toList, False) (hX : XX (va_A w0 s.heap.size) s s.heap) {X text : String} {ik is ic sa : Nat} (hstr : vk_R own is text sa s) (hc : va_Nw (.castable X X) s)
    (hfit : Bundle.fit X = true) (hk : Cond.classLink own ik X ∈ Ts) (hini : Cond.initialized X ∈ Ts) (hat : ∀ w ∈ (vx_atS own ic X ["java/lang/RuntimeException", "java/lang/Exception"]).filter goodWord, w ∈ Ts) (hat2 : ∀ w ∈ (vx_atS own ic X ["java/lang/RuntimeException", "java/lang/Exception"]).filter (fun w => !goodWord w), w ∈ xB X)
    (hgood : ∀ w ∈ Cond.classLink own ik X :: Cond.initialized X :: vx_atS own ic X ["java/lang/RuntimeException", "java/lang/Exception"], vx_ot w = true)
    (d0 : decode cc pc = .ok (.new ik, 3)) (d3 : decode cc (pc + 3) = .ok (.dup, 1)) (d4 : decode cc (pc + 4) = .ok (.ldc is, 2)) (d6 : decode cc (pc + 6) = .ok (.invokespecial ic, 3)) (d9 : decode cc (pc + 9) = .ok (.athrow, 1))
    (hws : ws = w0) (hcat : (st.map fun v => v.category).sum ≤ 8) (hRf : 5 < R.frames) (hRl : 90 ≤ R.locals) (hRc : k + 1 ≤ R.cells) (hRs : n + 6 ≤ R.slots) (h1 : k + 1 ≤ mc) (h2 : n + 6 ≤ ms) (hpx : px X) : G p l e R s m args below meth c D (va_A w0 s.heap.size) nL (QXI below post px D tys w0 args s mc ms) k n ws lv pc st := by
  subst hws
  intro H locs ls hP hD hS hl
  exact vx_throwS C.1 C.2.1 hl0 C.2.2.2.1 hfit (by decide +kernel) (C.ts _ hk) (C.ts _ hini) hstr (vx_hat (fun w hw => C.ts w (hat w hw)) hat2 (xB_ok hc hX.1)) hgood hX.2.1 hX.2.2 hS (hl.1.trans C.2.2.1.symm) d0 d3 d4 d6 d9 (fun x hx => absurd (hE x hx) (fun h => h)) (by show 2 + 3 < _; omega) (by show _ + (13 * (2 + 1) + 43) ≤ _; omega) hRc hRs C.lk (fun t ha hz ho => XC_of C.hK hP hD hS hpx ha hz ho) hS.2.2 h1 h2
theorem gx_throwV {post : va_W → List (ClassId × FieldType) → Prop} (C : CX p s m args meth c cc own Ts D tys (va_A w0 s.heap.size) nL) (hl0 : l.stackTraces = false) (hE : ∀ x ∈ c.exceptionTable.toList, False) (hX : XX (va_A w0 s.heap.size) s s.heap) {X text : String} {ik is ic sa : Nat} (hstr : vk_R own is text sa s) (hc : va_Nw (.castable X X) s)
    (hfit : Bundle.fit X = true) (hk : Cond.classLink own ik X ∈ Ts) (hini : Cond.initialized X ∈ Ts) (hat : ∀ w ∈ (vx_atS own ic X ["java/lang/RuntimeException", "java/lang/Exception"]).filter goodWord, w ∈ Ts) (hat2 : ∀ w ∈ (vx_atS own ic X ["java/lang/RuntimeException", "java/lang/Exception"]).filter (fun w => !goodWord w), w ∈ xB X)
    (hgood : ∀ w ∈ Cond.classLink own ik X :: Cond.initialized X :: vx_atS own ic X ["java/lang/RuntimeException", "java/lang/Exception"], vx_ot w = true)
    (d0 : decode cc pc = .ok (.new ik, 3)) (d3 : decode cc (pc + 3) = .ok (.dup, 1)) (d4 : decode cc (pc + 4) = .ok (.ldc is, 2)) (d6 : decode cc (pc + 6) = .ok (.invokespecial ic, 3)) (d9 : decode cc (pc + 9) = .ok (.athrow, 1))
    (hws : ws = w0) (hcat : (st.map fun v => v.category).sum ≤ 8) (hRf : 5 < R.frames) (hRl : 90 ≤ R.locals) (hRc : k + 1 ≤ R.cells) (hRs : n + 6 ≤ R.slots) (h1 : k + 1 ≤ mc) (h2 : n + 6 ≤ ms) (hpx : px X) : G p l e R s m args below meth c D (va_A w0 s.heap.size) nL (QXV below post px D tys w0 args s mc ms) k n ws lv pc st := by
  subst hws
  intro H locs ls hP hD hS hl
  exact vx_throwS C.1 C.2.1 hl0 C.2.2.2.1 hfit (by decide +kernel) (C.ts _ hk) (C.ts _ hini) hstr (vx_hat (fun w hw => C.ts w (hat w hw)) hat2 (xB_ok hc hX.1)) hgood hX.2.1 hX.2.2 hS (hl.1.trans C.2.2.1.symm) d0 d3 d4 d6 d9 (fun x hx => absurd (hE x hx) (fun h => h)) (by show 2 + 3 < _; omega) (by show _ + (13 * (2 + 1) + 43) ≤ _; omega) hRc hRs C.lk (fun t ha hz ho => XC_of C.hK hP hD hS hpx ha hz ho) hS.2.2 h1 h2
/-- a call that may throw, run -/
theorem gx_runV (C : CX p s m args meth c cc own Ts D tys A nL) {y : MethodName} {wds : List Cond} {fr lo mc ms index maxL nA : Nat} {bytes : ByteArray} {ret : Option FieldType} {wr wc : va_W} {b : Nat} {As : List Value} {Qc : Array Value → State → Outcome → State → Prop} {XC : String → State → State → Prop} {H : Heap} {locs : List Loc} {ls : Array Slot} (hX : XX A s s.heap) (hP : va_P D vwCl (wr ++ wc) H) (hD : va_D A (wr ++ wc)) (hS : va_S A s.heap H locs) (hl : lh ls nL lv)
    (hM : vx_Met l y wds { frames := fr, cells := mc, slots := ms, locals := lo } (va_Pc (.ref b :: As) (Bx D tys wc H.size)) Qc XC mc ms (va_A wc H.size)) {Cn : String} {ci N : Nat} {T : u_T} {fs : List Value} (hq : vwCl[ci]? = some (Cn, T, N)) (he : wc[0]? = some (b, .inr (ci, fs))) (cw : CallW R s args own Cn index y bytes maxL ret wds { frames := fr, cells := mc, slots := ms, locals := lo } mc ms nA) (hnA : As.length = nA) (hcat : (st.map fun v => v.category).sum ≤ 8) (hdg : decode cc pc = .ok (.invokevirtual index, 3)) (hkn : k + mc ≤ R.cells ∧ n + ms ≤ R.slots) :
    vx_Run p l e R s m args below meth c H locs k n mc ms (F0 m pc ls (As.reverse ++ .ref b :: st)) st (Qc (Value.ref b :: As).toArray) XC (va_A wc H.size) :=
  vx_runV (As := As) (rest := st) C.fix hM cw ⟨Bx_blind, va_recv C.hK (ap_P hP) hq he, fun U hU hW => ⟨rfl, ⟨by rw [hU], by rw [hU]; exact ap_P hP, va_K.moved hW.alike C.hK, (ap_D hD).weaken (fun _ _ _ _ => trivial)⟩, hX.into hS (ap_F hD hS C.hA) hW hU⟩⟩ rfl hnA hl.1 rfl (lv_room hcat) hdg hkn
theorem gx_runS (C : CX p s m args meth c cc own Ts D tys A nL) {y : MethodName} {wds : List Cond} {fr lo mc ms index maxL nA : Nat} {bytes : ByteArray} {ret : Option FieldType} {wr wc : va_W} {As : List Value} {Qc : Array Value → State → Outcome → State → Prop} {XC : String → State → State → Prop} {H : Heap} {locs : List Loc} {ls : Array Slot} (hX : XX A s s.heap) (hP : va_P D vwCl (wr ++ wc) H) (hD : va_D A (wr ++ wc)) (hS : va_S A s.heap H locs) (hl : lh ls nL lv)
    (hM : vx_Met l y wds { frames := fr, cells := mc, slots := ms, locals := lo } (va_Pc As (Bx D tys wc H.size)) Qc XC mc ms (va_A wc H.size)) (cw : CallB R s args own index y bytes maxL ret wds { frames := fr, cells := mc, slots := ms, locals := lo } mc ms nA ∧ (Cond.static y).before args s = true) (hnA : As.length = nA) (hcat : (st.map fun v => v.category).sum ≤ 8) (hdg : decode cc pc = .ok (.invokestatic index, 3)) (hkn : k + mc ≤ R.cells ∧ n + ms ≤ R.slots) :
    vx_Run p l e R s m args below meth c H locs k n mc ms (F0 m pc ls (As.reverse ++ st)) st (Qc As.toArray) XC (va_A wc H.size) :=
  vx_runS (As := As) (rest := st) C.fix hM cw ⟨Bx_blind, fun U hU hW => ⟨rfl, ⟨by rw [hU], by rw [hU]; exact ap_P hP, va_K.moved hW.alike C.hK, (ap_D hD).weaken (fun _ _ _ _ => trivial)⟩, hX.into hS (ap_F hD hS C.hA) hW hU⟩⟩ rfl hnA hl.1 rfl (lv_room hcat) hdg hkn
theorem gx_propVI (C : CX p s m args meth c cc own Ts D tys (va_A w0 s.heap.size) nL) (hE : ∀ x ∈ c.exceptionTable.toList, False) (hX : XX (va_A w0 s.heap.size) s s.heap) {post : Int32 → va_W → Prop} {y : MethodName} {wds : List Cond} {fr lo mc ms index maxL nA mc0 ms0 : Nat} {bytes : ByteArray} {ret : Option FieldType} (wr wc : va_W) {b : Nat} (As : List Value) {stk : List Value} {postC : va_W → List (ClassId × FieldType) → Prop} {pxC : String → Prop} (hM : CxV l y wds fr lo mc ms D tys (.ref b :: As) wc postC pxC) {Cn : String} {ci N : Nat} {T : u_T} {fs : List Value} (hq : vwCl[ci]? = some (Cn, T, N)) (he : wc[0]? = some (b, .inr (ci, fs))) (cw : CallW R s args own Cn index y bytes maxL ret wds { frames := fr, cells := mc, slots := ms, locals := lo } mc ms nA) (hnA : As.length = nA) (hws : ws = wr ++ wc) (hw0 : wr ++ wc = w0) (hst : stk = As.reverse ++ .ref b :: st) (hcat : (st.map fun v => v.category).sum ≤ 8) (hdg : decode cc pc = .ok (.invokevirtual index, 3)) (hkn : k + mc ≤ R.cells ∧ n + ms ≤ R.slots) (h1 : k + mc ≤ mc0) (h2 : n + ms ≤ ms0) (hpx : ∀ E, pxC E → px E)
    (kk : ∀ (w1 : va_W) (t1 : List (ClassId × FieldType)), postC w1 t1 → G p l e R s m args below meth c D (va_A w0 s.heap.size) nL (QXI below post px D tys w0 args s mc0 ms0) (k + mc) (n + ms) (wr ++ w1) lv (pc + 3) (st)) : G p l e R s m args below meth c D (va_A w0 s.heap.size) nL (QXI below post px D tys w0 args s mc0 ms0) k n ws lv pc (stk) := by
  subst hws
  subst hst
  intro H locs ls hP hD hS hl
  refine vx_callv (A1 := va_A wc H.size) (gx_runV C hX hP hD hS hl (hM H.size) hq he cw hnA hcat hdg hkn) hS (fun q _ h => ap_F hD hS C.hA q h) (ap_F hD hS C.hA) (fun q _ h => ap_F hD hS C.hA q h) ?_ ?_
  · intro E ce q9 u t H1 locs1 ht hvm _ hB hz1 hk1 hS1 hce hcv hcl
    obtain ⟨hpE, hP1, hK1, hD1⟩ := hB
    rw [ht] at hP1
    obtain ⟨j1, j2⟩ := ap_join hP hD hk1 (ap_F hD hS C.hA) hP1 hD1
    refine vx_out (fun x hx => absurd (hE x hx) (fun h => h)) C.lk hce hcv hcl (fun t2 ht2 ha2 => ?_) hS1.2.2 h1 h2
    subst hw0
    exact XC_of C.hK j1 j2 hS1 (hpx E hpE) ha2 (by rw [ht2]; exact Nat.le_refl _) (fun q _ => by rw [ht2])
  · intro u t H1 locs1 ht hvm hw hB hz1 hk1 hS1
    exact kk u.1 u.2 hw H1 locs1 ls (ap_join hP hD hk1 (ap_F hD hS C.hA) (ht ▸ hB.1) hB.2.2).1 (ap_join hP hD hk1 (ap_F hD hS C.hA) (ht ▸ hB.1) hB.2.2).2 hS1 hl
theorem gx_propVV (C : CX p s m args meth c cc own Ts D tys (va_A w0 s.heap.size) nL) (hE : ∀ x ∈ c.exceptionTable.toList, False) (hX : XX (va_A w0 s.heap.size) s s.heap) {post : va_W → List (ClassId × FieldType) → Prop} {y : MethodName} {wds : List Cond} {fr lo mc ms index maxL nA mc0 ms0 : Nat} {bytes : ByteArray} {ret : Option FieldType} (wr wc : va_W) {b : Nat} (As : List Value) {stk : List Value} {postC : va_W → List (ClassId × FieldType) → Prop} {pxC : String → Prop} (hM : CxV l y wds fr lo mc ms D tys (.ref b :: As) wc postC pxC) {Cn : String} {ci N : Nat} {T : u_T} {fs : List Value} (hq : vwCl[ci]? = some (Cn, T, N)) (he : wc[0]? = some (b, .inr (ci, fs))) (cw : CallW R s args own Cn index y bytes maxL ret wds { frames := fr, cells := mc, slots := ms, locals := lo } mc ms nA) (hnA : As.length = nA) (hws : ws = wr ++ wc) (hw0 : wr ++ wc = w0) (hst : stk = As.reverse ++ .ref b :: st) (hcat : (st.map fun v => v.category).sum ≤ 8) (hdg : decode cc pc = .ok (.invokevirtual index, 3)) (hkn : k + mc ≤ R.cells ∧ n + ms ≤ R.slots) (h1 : k + mc ≤ mc0) (h2 : n + ms ≤ ms0) (hpx : ∀ E, pxC E → px E)
    (kk : ∀ (w1 : va_W) (t1 : List (ClassId × FieldType)), postC w1 t1 → G p l e R s m args below meth c D (va_A w0 s.heap.size) nL (QXV below post px D tys w0 args s mc0 ms0) (k + mc) (n + ms) (wr ++ w1) lv (pc + 3) (st)) : G p l e R s m args below meth c D (va_A w0 s.heap.size) nL (QXV below post px D tys w0 args s mc0 ms0) k n ws lv pc (stk) := by
  subst hws
  subst hst
  intro H locs ls hP hD hS hl
  refine vx_callv (A1 := va_A wc H.size) (gx_runV C hX hP hD hS hl (hM H.size) hq he cw hnA hcat hdg hkn) hS (fun q _ h => ap_F hD hS C.hA q h) (ap_F hD hS C.hA) (fun q _ h => ap_F hD hS C.hA q h) ?_ ?_
  · intro E ce q9 u t H1 locs1 ht hvm _ hB hz1 hk1 hS1 hce hcv hcl
    obtain ⟨hpE, hP1, hK1, hD1⟩ := hB
    rw [ht] at hP1
    obtain ⟨j1, j2⟩ := ap_join hP hD hk1 (ap_F hD hS C.hA) hP1 hD1
    refine vx_out (fun x hx => absurd (hE x hx) (fun h => h)) C.lk hce hcv hcl (fun t2 ht2 ha2 => ?_) hS1.2.2 h1 h2
    subst hw0
    exact XC_of C.hK j1 j2 hS1 (hpx E hpE) ha2 (by rw [ht2]; exact Nat.le_refl _) (fun q _ => by rw [ht2])
  · intro u t H1 locs1 ht hvm hw hB hz1 hk1 hS1
    exact kk u.1 u.2 hw H1 locs1 ls (ap_join hP hD hk1 (ap_F hD hS C.hA) (ht ▸ hB.1) hB.2.2).1 (ap_join hP hD hk1 (ap_F hD hS C.hA) (ht ▸ hB.1) hB.2.2).2 hS1 hl
theorem gx_propSI (C : CX p s m args meth c cc own Ts D tys (va_A w0 s.heap.size) nL) (hE : ∀ x ∈ c.exceptionTable.toList, False) (hX : XX (va_A w0 s.heap.size) s s.heap) {post : Int32 → va_W → Prop} {y : MethodName} {wds : List Cond} {fr lo mc ms index maxL nA mc0 ms0 : Nat} {bytes : ByteArray} {ret : Option FieldType} (wr wc : va_W) (As : List Value) {stk : List Value} {postC : va_W → List (ClassId × FieldType) → Prop} {pxC : String → Prop} (hM : CxV l y wds fr lo mc ms D tys As wc postC pxC) (cw : CallB R s args own index y bytes maxL ret wds { frames := fr, cells := mc, slots := ms, locals := lo } mc ms nA ∧ (Cond.static y).before args s = true) (hnA : As.length = nA) (hws : ws = wr ++ wc) (hw0 : wr ++ wc = w0) (hst : stk = As.reverse ++ st) (hcat : (st.map fun v => v.category).sum ≤ 8) (hdg : decode cc pc = .ok (.invokestatic index, 3)) (hkn : k + mc ≤ R.cells ∧ n + ms ≤ R.slots) (h1 : k + mc ≤ mc0) (h2 : n + ms ≤ ms0) (hpx : ∀ E, pxC E → px E)
    (kk : ∀ (w1 : va_W) (t1 : List (ClassId × FieldType)), postC w1 t1 → G p l e R s m args below meth c D (va_A w0 s.heap.size) nL (QXI below post px D tys w0 args s mc0 ms0) (k + mc) (n + ms) (wr ++ w1) lv (pc + 3) (st)) : G p l e R s m args below meth c D (va_A w0 s.heap.size) nL (QXI below post px D tys w0 args s mc0 ms0) k n ws lv pc (stk) := by
  subst hws
  subst hst
  intro H locs ls hP hD hS hl
  refine vx_callv (A1 := va_A wc H.size) (gx_runS C hX hP hD hS hl (hM H.size) cw hnA hcat hdg hkn) hS (fun q _ h => ap_F hD hS C.hA q h) (ap_F hD hS C.hA) (fun q _ h => ap_F hD hS C.hA q h) ?_ ?_
  · intro E ce q9 u t H1 locs1 ht hvm _ hB hz1 hk1 hS1 hce hcv hcl
    obtain ⟨hpE, hP1, hK1, hD1⟩ := hB
    rw [ht] at hP1
    obtain ⟨j1, j2⟩ := ap_join hP hD hk1 (ap_F hD hS C.hA) hP1 hD1
    refine vx_out (fun x hx => absurd (hE x hx) (fun h => h)) C.lk hce hcv hcl (fun t2 ht2 ha2 => ?_) hS1.2.2 h1 h2
    subst hw0
    exact XC_of C.hK j1 j2 hS1 (hpx E hpE) ha2 (by rw [ht2]; exact Nat.le_refl _) (fun q _ => by rw [ht2])
  · intro u t H1 locs1 ht hvm hw hB hz1 hk1 hS1
    exact kk u.1 u.2 hw H1 locs1 ls (ap_join hP hD hk1 (ap_F hD hS C.hA) (ht ▸ hB.1) hB.2.2).1 (ap_join hP hD hk1 (ap_F hD hS C.hA) (ht ▸ hB.1) hB.2.2).2 hS1 hl
theorem gx_propSV (C : CX p s m args meth c cc own Ts D tys (va_A w0 s.heap.size) nL) (hE : ∀ x ∈ c.exceptionTable.toList, False) (hX : XX (va_A w0 s.heap.size) s s.heap) {post : va_W → List (ClassId × FieldType) → Prop} {y : MethodName} {wds : List Cond} {fr lo mc ms index maxL nA mc0 ms0 : Nat} {bytes : ByteArray} {ret : Option FieldType} (wr wc : va_W) (As : List Value) {stk : List Value} {postC : va_W → List (ClassId × FieldType) → Prop} {pxC : String → Prop} (hM : CxV l y wds fr lo mc ms D tys As wc postC pxC) (cw : CallB R s args own index y bytes maxL ret wds { frames := fr, cells := mc, slots := ms, locals := lo } mc ms nA ∧ (Cond.static y).before args s = true) (hnA : As.length = nA) (hws : ws = wr ++ wc) (hw0 : wr ++ wc = w0) (hst : stk = As.reverse ++ st) (hcat : (st.map fun v => v.category).sum ≤ 8) (hdg : decode cc pc = .ok (.invokestatic index, 3)) (hkn : k + mc ≤ R.cells ∧ n + ms ≤ R.slots) (h1 : k + mc ≤ mc0) (h2 : n + ms ≤ ms0) (hpx : ∀ E, pxC E → px E)
    (kk : ∀ (w1 : va_W) (t1 : List (ClassId × FieldType)), postC w1 t1 → G p l e R s m args below meth c D (va_A w0 s.heap.size) nL (QXV below post px D tys w0 args s mc0 ms0) (k + mc) (n + ms) (wr ++ w1) lv (pc + 3) (st)) : G p l e R s m args below meth c D (va_A w0 s.heap.size) nL (QXV below post px D tys w0 args s mc0 ms0) k n ws lv pc (stk) := by
  subst hws
  subst hst
  intro H locs ls hP hD hS hl
  refine vx_callv (A1 := va_A wc H.size) (gx_runS C hX hP hD hS hl (hM H.size) cw hnA hcat hdg hkn) hS (fun q _ h => ap_F hD hS C.hA q h) (ap_F hD hS C.hA) (fun q _ h => ap_F hD hS C.hA q h) ?_ ?_
  · intro E ce q9 u t H1 locs1 ht hvm _ hB hz1 hk1 hS1 hce hcv hcl
    obtain ⟨hpE, hP1, hK1, hD1⟩ := hB
    rw [ht] at hP1
    obtain ⟨j1, j2⟩ := ap_join hP hD hk1 (ap_F hD hS C.hA) hP1 hD1
    refine vx_out (fun x hx => absurd (hE x hx) (fun h => h)) C.lk hce hcv hcl (fun t2 ht2 ha2 => ?_) hS1.2.2 h1 h2
    subst hw0
    exact XC_of C.hK j1 j2 hS1 (hpx E hpE) ha2 (by rw [ht2]; exact Nat.le_refl _) (fun q _ => by rw [ht2])
  · intro u t H1 locs1 ht hvm hw hB hz1 hk1 hS1
    exact kk u.1 u.2 hw H1 locs1 ls (ap_join hP hD hk1 (ap_F hD hS C.hA) (ht ▸ hB.1) hB.2.2).1 (ap_join hP hD hk1 (ap_F hD hS C.hA) (ht ▸ hB.1) hB.2.2).2 hS1 hl
/-- the handler that catches E at pc -/
def CT (s : State) (args : Array Value) (c : Code) (own E : String) (pc tgt : Nat) : Prop := ∃ (pre : List ExceptionTableEntry) (x : ExceptionTableEntry) (suf : List ExceptionTableEntry) (name : String), c.exceptionTable.toList = pre ++ x :: suf ∧ (∀ z ∈ pre, covers z pc = false ∨ (z.catchType ≠ 0 ∧ ∃ nm : String, (Cond.classLink own z.catchType nm).before args s = true ∧ va_Nc E nm s)) ∧ covers x pc = true ∧ x.catchType ≠ 0 ∧ (Cond.classLink own x.catchType name).before args s = true ∧ (Cond.castable E name).before args s = true ∧ x.handlerPc = tgt
theorem gx_catchi (C : CX p s m args meth c cc own Ts D tys A nL) (hX : XX A s s.heap) {y : MethodName} {wds : List Cond} {fr lo mc ms index maxL nA : Nat} {bytes : ByteArray} {ret : Option FieldType} (wr wc : va_W) {b : Nat} (As : List Value) {stk : List Value} {post : Int32 → va_W → Prop} {pxC : String → Prop} (hM : CxI l y wds fr lo mc ms D tys (.ref b :: As) wc post pxC) {Cn : String} {ci N : Nat} {T : u_T} {fs : List Value} (hq : vwCl[ci]? = some (Cn, T, N)) (he : wc[0]? = some (b, .inr (ci, fs))) (cw : CallW R s args own Cn index y bytes maxL ret wds { frames := fr, cells := mc, slots := ms, locals := lo } mc ms nA) (hnA : As.length = nA) (hws : ws = wr ++ wc) (hst : stk = As.reverse ++ .ref b :: st) (hcat : (st.map fun v => v.category).sum ≤ 8) (hdg : decode cc pc = .ok (.invokevirtual index, 3)) (hkn : k + mc ≤ R.cells ∧ n + ms ≤ R.slots)
    (kx : ∀ (E : String), pxC E → ∃ tgt : Nat, CT s args c own E pc tgt ∧ ∀ q9 : Nat, G p l e R s m args below meth c D A nL Q (k + mc) (n + ms) (wr ++ wc) lv tgt ([.ref q9]))
    (kk : ∀ (r : Int32) (w1 : va_W), post r w1 → G p l e R s m args below meth c D A nL Q (k + mc) (n + ms) (wr ++ w1) lv (pc + 3) (.int r :: st)) : G p l e R s m args below meth c D A nL Q k n ws lv pc (stk) := by
  subst hws
  subst hst
  intro H locs ls hP hD hS hl
  refine vx_calli (A1 := va_A wc H.size) (gx_runV C hX hP hD hS hl (hM H.size) hq he cw hnA hcat hdg hkn) hS (fun q _ h => ap_F hD hS C.hA q h) (ap_F hD hS C.hA) (fun q _ h => ap_F hD hS C.hA q h) ?_ ?_
  · intro E ce q9 u t H1 locs1 ht hvm _ hB hz1 hk1 hS1 hce hcv hcl
    obtain ⟨hpE, hP1, hK1, hD1⟩ := hB
    rw [ht] at hP1
    obtain ⟨j1, j2⟩ := ap_join hP hD hk1 (ap_F hD hS C.hA) hP1 hD1
    obtain ⟨tgt, ⟨pre, x, suf, name, g1, g2, g3, g4, g5, g6, rfl⟩, kq⟩ := kx E hpE
    exact vx_catch C.2.2.2.1 pre x suf g1 g2 g3 g4 g5 g6 hce hcv hcl (kq q9 H1 locs1 ls j1 j2 hS1 hl)
  · intro r u t H1 locs1 ht hvm hw hB hz1 hk1 hS1
    exact kk r u.1 hw.1 H1 locs1 ls (ap_join hP hD hk1 (ap_F hD hS C.hA) (ht ▸ hB.1) hB.2.2).1 (ap_join hP hD hk1 (ap_F hD hS C.hA) (ht ▸ hB.1) hB.2.2).2 hS1 hl
theorem gx_catchv (C : CX p s m args meth c cc own Ts D tys A nL) (hX : XX A s s.heap) {y : MethodName} {wds : List Cond} {fr lo mc ms index maxL nA : Nat} {bytes : ByteArray} {ret : Option FieldType} (wr wc : va_W) {b : Nat} (As : List Value) {stk : List Value} {post : va_W → List (ClassId × FieldType) → Prop} {pxC : String → Prop} (hM : CxV l y wds fr lo mc ms D tys (.ref b :: As) wc post pxC) {Cn : String} {ci N : Nat} {T : u_T} {fs : List Value} (hq : vwCl[ci]? = some (Cn, T, N)) (he : wc[0]? = some (b, .inr (ci, fs))) (cw : CallW R s args own Cn index y bytes maxL ret wds { frames := fr, cells := mc, slots := ms, locals := lo } mc ms nA) (hnA : As.length = nA) (hws : ws = wr ++ wc) (hst : stk = As.reverse ++ .ref b :: st) (hcat : (st.map fun v => v.category).sum ≤ 8) (hdg : decode cc pc = .ok (.invokevirtual index, 3)) (hkn : k + mc ≤ R.cells ∧ n + ms ≤ R.slots)
    (kx : ∀ (E : String), pxC E → ∃ tgt : Nat, CT s args c own E pc tgt ∧ ∀ q9 : Nat, G p l e R s m args below meth c D A nL Q (k + mc) (n + ms) (wr ++ wc) lv tgt ([.ref q9]))
    (kk : ∀ (w1 : va_W) (t1 : List (ClassId × FieldType)), post w1 t1 → G p l e R s m args below meth c D A nL Q (k + mc) (n + ms) (wr ++ w1) lv (pc + 3) (st)) : G p l e R s m args below meth c D A nL Q k n ws lv pc (stk) := by
  subst hws
  subst hst
  intro H locs ls hP hD hS hl
  refine vx_callv (A1 := va_A wc H.size) (gx_runV C hX hP hD hS hl (hM H.size) hq he cw hnA hcat hdg hkn) hS (fun q _ h => ap_F hD hS C.hA q h) (ap_F hD hS C.hA) (fun q _ h => ap_F hD hS C.hA q h) ?_ ?_
  · intro E ce q9 u t H1 locs1 ht hvm _ hB hz1 hk1 hS1 hce hcv hcl
    obtain ⟨hpE, hP1, hK1, hD1⟩ := hB
    rw [ht] at hP1
    obtain ⟨j1, j2⟩ := ap_join hP hD hk1 (ap_F hD hS C.hA) hP1 hD1
    obtain ⟨tgt, ⟨pre, x, suf, name, g1, g2, g3, g4, g5, g6, rfl⟩, kq⟩ := kx E hpE
    exact vx_catch C.2.2.2.1 pre x suf g1 g2 g3 g4 g5 g6 hce hcv hcl (kq q9 H1 locs1 ls j1 j2 hS1 hl)
  · intro u t H1 locs1 ht hvm hw hB hz1 hk1 hS1
    exact kk u.1 u.2 hw H1 locs1 ls (ap_join hP hD hk1 (ap_F hD hS C.hA) (ht ▸ hB.1) hB.2.2).1 (ap_join hP hD hk1 (ap_F hD hS C.hA) (ht ▸ hB.1) hB.2.2).2 hS1 hl
theorem gx_callH (C : CX p s m args meth c cc own Ts D tys A nL) (hX : XX A s s.heap) {y : MethodName} {wds : List Cond} {fr lo mc ms index maxL nA : Nat} {bytes : ByteArray} {ret : Option FieldType} {hh : List (Nat × Nat × Nat × Nat)} (wr wc : va_W) (As : List Value) {stk : List Value} {post : Int32 → va_W → Prop} (hM : CxI l y wds fr lo mc ms D tys As wc post (fun _ => False)) (cw : vx_CSW R s args own index y bytes maxL ret hh wds { frames := fr, cells := mc, slots := ms, locals := lo } mc ms nA) (hnA : As.length = nA) (hws : ws = wr ++ wc) (hst : stk = As.reverse ++ st) (hcat : (st.map fun v => v.category).sum ≤ 8) (hdg : decode cc pc = .ok (.invokestatic index, 3)) (hkn : k + mc ≤ R.cells ∧ n + ms ≤ R.slots)
    (kk : ∀ (r : Int32) (w1 : va_W), post r w1 → G p l e R s m args below meth c D A nL Q (k + mc) (n + ms) (wr ++ w1) lv (pc + 3) (.int r :: st)) : G p l e R s m args below meth c D A nL Q k n ws lv pc (stk) := by
  subst hws
  subst hst
  intro H locs ls hP hD hS hl
  refine vx_calli (A1 := va_A wc H.size) (vx_runSX (As := As) (rest := st) C.fix (hM H.size) cw ⟨Bx_blind, fun U hU hW => ⟨rfl, ⟨by rw [hU], by rw [hU]; exact ap_P hP, va_K.moved hW.alike C.hK, (ap_D hD).weaken (fun _ _ _ _ => trivial)⟩, hX.into hS (ap_F hD hS C.hA) hW hU⟩⟩ rfl hnA hl.1 rfl (lv_room hcat) hdg hkn) hS (fun q _ h => ap_F hD hS C.hA q h) (ap_F hD hS C.hA) (fun q _ h => ap_F hD hS C.hA q h) ?_ ?_
  · intro E ce q9 u t H1 locs1 ht hvm _ hB
    exact absurd hB.1 (fun h => h)
  · intro r u t H1 locs1 ht hvm hw hB hz1 hk1 hS1
    exact kk r u.1 hw.1 H1 locs1 ls (ap_join hP hD hk1 (ap_F hD hS C.hA) (ht ▸ hB.1) hB.2.2).1 (ap_join hP hD hk1 (ap_F hD hS C.hA) (ht ▸ hB.1) hB.2.2).2 hS1 hl
end GX
theorem at2_xIA : ∀ w ∈ (vx_atS RX2 148 xIA ["java/lang/RuntimeException", "java/lang/Exception"]).filter (fun w => !goodWord w), w ∈ xB xIA := by decide +kernel
theorem at2_xIS : ∀ w ∈ (vx_atS RX2 59 xIS ["java/lang/RuntimeException", "java/lang/Exception"]).filter (fun w => !goodWord w), w ∈ xB xIS := by decide +kernel
theorem at2_xIB : ∀ w ∈ (vx_atS RX2 153 xIB ["java/lang/RuntimeException", "java/lang/Exception"]).filter (fun w => !goodWord w), w ∈ xB xIB := by decide +kernel
end
section
/-! CellPlanner, what may throw -/
def rng (x : Int64) (a b : Int32) : Prop := a.toInt64 ≤ x ∧ x ≤ b.toInt64
theorem rng_yes {x : Int64} {a b : Int32} (h1 : ¬ lg_cmp x a.toInt64 < 0) (h2 : lg_cmp x b.toInt64 ≤ 0) : rng x a b := ⟨Int64.not_lt.mp (fun h => h1 ((lg_cmp_lt _ _).mpr h)), (lg_cmp_le _ _).mp h2⟩
theorem rng_no1 {x : Int64} {a b : Int32} (h1 : lg_cmp x a.toInt64 < 0) : ¬ rng x a b := fun h => Int64.not_lt.mpr h.1 ((lg_cmp_lt _ _).mp h1)
theorem rng_no2 {x : Int64} {a b : Int32} (h1 : ¬ lg_cmp x b.toInt64 ≤ 0) : ¬ rng x a b := fun h => h1 ((lg_cmp_le _ _).mpr h.2)
theorem rng_i {x a b : Int32} : rng x.toInt64 a b ↔ a ≤ x ∧ x ≤ b := by
  unfold rng
  rw [Int64.le_iff_toInt_le, Int64.le_iff_toInt_le, Int32.le_iff_toInt_le, Int32.le_iff_toInt_le, Int32.toInt_toInt64, Int32.toInt_toInt64, Int32.toInt_toInt64]
def inC (x y c r : Int32) : Prop := (0 ≤ x ∧ x ≤ 63) ∧ (0 ≤ y ∧ y ≤ 63) ∧ (0 ≤ c ∧ c ≤ 2) ∧ (1 ≤ r ∧ r ≤ 40)
def inW (x y d : Int32) : Prop := (0 ≤ x ∧ x ≤ 63) ∧ (0 ≤ y ∧ y ≤ 63) ∧ (1 ≤ d ∧ d ≤ 10)
/-- a number of the first n -/
def IC (n : Nat) (x : Int32) : Prop := ∃ k, k < n ∧ x = nI k
theorem IC_yes {n : Nat} {x : Int32} (hn : n < 2 ^ 31) (h0 : ¬ x < 0) (h : x < nI n) : IC n x := by
  obtain ⟨j, hj, rfl⟩ := nI_of h0
  exact ⟨j, (nI_ltI hj hn).mp h, rfl⟩
theorem IC_no1 {n : Nat} {x : Int32} (h0 : x < 0) (hn : n < 2 ^ 31 := by omega) : ¬ IC n x := fun ⟨k, hk, e⟩ => nI_pos (show k < 2 ^ 31 by omega) (e ▸ h0)
theorem IC_no2 {n : Nat} {x : Int32} (hn : n < 2 ^ 31) (h : ¬ x < nI n) : ¬ IC n x := fun ⟨k, hk, e⟩ => h (e ▸ nI_lt hk hn)
theorem tick_T {x : Int32} (h : 1 ≤ x ∧ x ≤ 20) : ∃ T, T ≤ 20 ∧ x = nI T := by
  have h0 : ¬ x < 0 := by
    intro h1
    rw [Int32.lt_iff_toInt_lt] at h1
    have h2 := Int32.le_iff_toInt_le.mp h.1
    have e1 : (1 : Int32).toInt = 1 := by decide
    have e0 : (0 : Int32).toInt = 0 := by decide
    omega
  exact nI_of2 (M := 20) (n := 20) (by decide) h0 h.2
def mvx (f : Nat → Int32) (p d : Int32) : Int64 := (f p.toNatClampNeg).toInt64 + d.toInt64
/-- on becomes off, and off on -/
def ftn (x : Int32) : Int32 := if x = 0 then 1 else 0
/-- the state that ticks change: ticks, uses and qualities measured, and the walkers' -/
abbrev PS : Type := Int32 × (Nat → Int32) × (Nat → Nat → Int32) × TS
def fpt (cx cy ch on wx wy rm dm : Nat → Int32) (nc nw : Nat) (mg pt bd : Int32) (x : PS) : PS :=
  (x.1 + 1, fil nc (fus rm x.2.2.2.1 dm nw) x.2.1, fil2 nw nc (fun w c => fqu cx cy ch on wx wy (fil nc (fus rm x.2.2.2.1 dm nw) x.2.1) nc w c) x.2.2.1,
    ftw on dm rm nc nw (fil2 nw nc (fun w c => fqu cx cy ch on wx wy (fil nc (fus rm x.2.2.2.1 dm nw) x.2.1) nc w c) x.2.2.1) mg pt bd (x.1 + 1) x.2.2.2 nw)
def fti (cx cy ch on wx wy rm dm : Nat → Int32) (nc nw : Nat) (mg pt bd : Int32) (x : PS) : Nat → PS
  | 0 => x
  | n + 1 => fpt cx cy ch on wx wy rm dm nc nw mg pt bd (fti cx cy ch on wx wy rm dm nc nw mg pt bd x n)
/-- no quality's divisor is 0, whoever is served by whom -/
def GQ (nc nw : Nat) (cx cy ch on wx wy rm dm : Nat → Int32) : Prop := ∀ (S M : Nat → Int32) (c w : Nat), c < nc → w < nw → ¬ 10 + fdi ch on (fil nc (fus rm S dm nw) M) (sgw cx cy wx wy w) c nc = 0
theorem ftw_sv {on dm rm : Nat → Int32} {nc nw : Nat} {Q : Nat → Nat → Int32} {mg pt bd tk : Int32} {z : TS} {P : Nat → Prop} : ∀ (n : Nat), (∀ j, P j → SV nc (z.1 j)) → ∀ j, P j → SV nc ((ftw on dm rm nc nw Q mg pt bd tk z n).1 j)
  | 0, h => h
  | n + 1, h => fts_sv (ftw_sv n h)
theorem hatX2_requireRange_xIA : ∀ w ∈ (vx_atS RX2 148 xIA ["java/lang/RuntimeException", "java/lang/Exception"]).filter goodWord, w ∈ wsX2_requireRange := by decide +kernel
theorem hgdX2_requireRange_xIA : ∀ w ∈ Cond.classLink RX2 144 xIA :: Cond.initialized xIA :: vx_atS RX2 148 xIA ["java/lang/RuntimeException", "java/lang/Exception"], vx_ot w = true := by decide +kernel
set_option maxHeartbeats 1000000 in
set_option maxRecDepth 100000 in
/-- a value in its range, or else -/
theorem t_X2_requireRange {l : Launch} (hl0 : l.stackTraces = false) {D : va_G} {cI cZ cJ cG cW : ClassId} {p0 : Int64} {p1 p2 : Int32}  : CxV l yX2_requireRange wsX2_requireRange 6 90 2 12 D (T5 cI cZ cJ cG cW) [.long p0, .int p1, .int p2] [] (fun wv tv => rng p0 p1 p2 ∧ wv = [] ∧ tv = (T5 cI cZ cJ cG cW)) (fun Ev => ¬ rng p0 p1 p2 ∧ Ev = xIA) := by
  refine cxV_of (cc := cX2_requireRange) (maxL := 4) RX2 0 [some (.long p0), none, some (.int p1), some (.int p2)] (by decide +kernel) rfl rfl (Nat.le_of_ble_eq_true rfl) rfl (fun p_ e_ s_ m_ as_ bl_ me_ co_ C hret hE hX => ?_)
  refine g_lload_n C dX2_requireRange_0 rfl ?_
  refine g_iload_n C dX2_requireRange_1 rfl ?_
  refine g_i2l C p1.toInt64 dX2_requireRange_2 rfl ?_
  refine g_lcmp C dX2_requireRange_3 ?_
  refine g_if_lt C 14 dX2_requireRange_4 (by decide) (fun c_4 => ?_) (fun c_4 => ?_)
  · skip
    obtain ⟨sa9, hstr9⟩ := hX.1.2.2.2.1
    exact gx_throwV C hl0 hE hX hstr9 hX.1.1.1 (by decide +kernel) (by decide +kernel) (by decide +kernel) hatX2_requireRange_xIA at2_xIA hgdX2_requireRange_xIA dX2_requireRange_14 dX2_requireRange_17 dX2_requireRange_18 dX2_requireRange_20 dX2_requireRange_23 rfl (Nat.le_of_ble_eq_true rfl) (Nat.le_of_ble_eq_true rfl) (Nat.le_of_ble_eq_true rfl) (Nat.le_of_ble_eq_true rfl) (Nat.le_of_ble_eq_true rfl) (Nat.le_of_ble_eq_true rfl) (Nat.le_of_ble_eq_true rfl) ⟨by first | exact rng_no1 c_4 | exact rng_no2 c_11, rfl⟩
  · skip
    refine g_lload_n C dX2_requireRange_7 rfl ?_
    refine g_iload_n C dX2_requireRange_8 rfl ?_
    refine g_i2l C p2.toInt64 dX2_requireRange_9 rfl ?_
    refine g_lcmp C dX2_requireRange_10 ?_
    refine g_if_le C 24 dX2_requireRange_11 (by decide) (fun c_11 => ?_) (fun c_11 => ?_)
    · skip
      exact gx_V (g_vret C hret dX2_requireRange_24 (Nat.le_of_ble_eq_true rfl) (Nat.le_of_ble_eq_true rfl) ⟨(rng_yes c_4 c_11), rfl, rfl⟩)
    · skip
      obtain ⟨sa9, hstr9⟩ := hX.1.2.2.2.1
      exact gx_throwV C hl0 hE hX hstr9 hX.1.1.1 (by decide +kernel) (by decide +kernel) (by decide +kernel) hatX2_requireRange_xIA at2_xIA hgdX2_requireRange_xIA dX2_requireRange_14 dX2_requireRange_17 dX2_requireRange_18 dX2_requireRange_20 dX2_requireRange_23 rfl (Nat.le_of_ble_eq_true rfl) (Nat.le_of_ble_eq_true rfl) (Nat.le_of_ble_eq_true rfl) (Nat.le_of_ble_eq_true rfl) (Nat.le_of_ble_eq_true rfl) (Nat.le_of_ble_eq_true rfl) (Nat.le_of_ble_eq_true rfl) ⟨by first | exact rng_no1 c_4 | exact rng_no2 c_11, rfl⟩
theorem iX2_requireCell_X0 : ∀ w ∈ u_ws RX0 TX0 13, w ∈ wsX2_requireCell := by decide +kernel
theorem iX2_requireCell_X2 : ∀ w ∈ u_ws RX2 TX2 13, w ∈ wsX2_requireCell := by decide +kernel
theorem hatX2_requireCell_xIB : ∀ w ∈ (vx_atS RX2 153 xIB ["java/lang/RuntimeException", "java/lang/Exception"]).filter goodWord, w ∈ wsX2_requireCell := by decide +kernel
theorem hgdX2_requireCell_xIB : ∀ w ∈ Cond.classLink RX2 149 xIB :: Cond.initialized xIB :: vx_atS RX2 153 xIB ["java/lang/RuntimeException", "java/lang/Exception"], vx_ot w = true := by decide +kernel
set_option maxHeartbeats 1000000 in
set_option maxRecDepth 100000 in
theorem t_X2_requireCell {l : Launch} (hl0 : l.stackTraces = false) {D : va_G} {cI cZ cJ cG cW : ClassId} {a b d : Nat → Nat} {mg pt bd tk ho ri lo : Int32} {fv hd lf la : Nat → Int32} {r2 : Nat → Nat} {hp rl cn be : Nat → Int32} {bw : Int32} {wo : Nat → Nat → Int32} {r : Nat → Nat} {nc nw : Nat} {cx cy ch rm on wx wy dm sv mu : Nat → Int32} {qq : Nat → Nat → Int32} {p1 : Int32} (h5 : nc ≤ 5) : CxV l yX2_requireCell wsX2_requireCell 6 90 2 12 D (T5 cI cZ cJ cG cW) [.ref (d 0), .int p1] ((wCo cI a b d mg pt bd tk ho ri lo fv hd lf la ++ wSo cI cW a b r2 hp rl cn be bw wo) ++ wL cI cZ cG a r nc nw cx cy ch rm on wx wy dm sv mu qq) (fun wv tv => IC nc p1 ∧ wv = ((wCo cI a b d mg pt bd tk ho ri lo fv hd lf la ++ wSo cI cW a b r2 hp rl cn be bw wo) ++ wL cI cZ cG a r nc nw cx cy ch rm on wx wy dm sv mu qq) ∧ tv = (T5 cI cZ cJ cG cW)) (fun Ev => ¬ IC nc p1 ∧ Ev = xIB) := by
  refine cxV_of (cc := cX2_requireCell) (maxL := 2) RX2 0 [some (.ref (d 0)), some (.int p1)] (by decide +kernel) rfl rfl (Nat.le_of_ble_eq_true rfl) rfl (fun p_ e_ s_ m_ as_ bl_ me_ co_ C hret hE hX => ?_)
  have f10 := C.ts (.fieldLink RX2 10 "CellPlanner" "land" "LCellPlanner$Land;") (by decide +kernel)
  have f52 := C.ts (.fieldLink RX2 52 "CellPlanner$Land" "cells" "I") (by decide +kernel)
  refine g_iload_n C dX2_requireCell_0 rfl ?_
  refine g_if_lt C 15 dX2_requireCell_1 (by decide) (fun c_1 => ?_) (fun c_1 => ?_)
  · skip
    obtain ⟨sa9, hstr9⟩ := hX.1.2.2.2.2.2.1
    exact gx_throwV C hl0 hE hX hstr9 hX.1.1.2.2 (by decide +kernel) (by decide +kernel) (by decide +kernel) hatX2_requireCell_xIB at2_xIB hgdX2_requireCell_xIB dX2_requireCell_15 dX2_requireCell_18 dX2_requireCell_19 dX2_requireCell_21 dX2_requireCell_24 rfl (Nat.le_of_ble_eq_true rfl) (Nat.le_of_ble_eq_true rfl) (Nat.le_of_ble_eq_true rfl) (Nat.le_of_ble_eq_true rfl) (Nat.le_of_ble_eq_true rfl) (Nat.le_of_ble_eq_true rfl) (Nat.le_of_ble_eq_true rfl) ⟨by first | exact IC_no1 c_1 | exact IC_no2 (by omega) c_12, rfl⟩
  · skip
    refine g_iload_n C dX2_requireCell_4 rfl ?_
    refine g_aload_n C dX2_requireCell_5 rfl ?_
    refine g_get C 0 iX2_requireCell_X2 rfl rfl 0 (by decide) f10 rfl dX2_requireCell_6 ?_
    refine g_get C 17 iX2_requireCell_X0 rfl rfl 5 (by decide) f52 rfl dX2_requireCell_9 ?_
    refine g_icmp_lt C 25 dX2_requireCell_12 (by decide) (fun c_12 => ?_) (fun c_12 => ?_)
    · skip
      exact gx_V (g_vret C hret dX2_requireCell_25 (Nat.le_of_ble_eq_true rfl) (Nat.le_of_ble_eq_true rfl) ⟨(IC_yes (by omega) c_1 c_12), rfl, rfl⟩)
    · skip
      obtain ⟨sa9, hstr9⟩ := hX.1.2.2.2.2.2.1
      exact gx_throwV C hl0 hE hX hstr9 hX.1.1.2.2 (by decide +kernel) (by decide +kernel) (by decide +kernel) hatX2_requireCell_xIB at2_xIB hgdX2_requireCell_xIB dX2_requireCell_15 dX2_requireCell_18 dX2_requireCell_19 dX2_requireCell_21 dX2_requireCell_24 rfl (Nat.le_of_ble_eq_true rfl) (Nat.le_of_ble_eq_true rfl) (Nat.le_of_ble_eq_true rfl) (Nat.le_of_ble_eq_true rfl) (Nat.le_of_ble_eq_true rfl) (Nat.le_of_ble_eq_true rfl) (Nat.le_of_ble_eq_true rfl) ⟨by first | exact IC_no1 c_1 | exact IC_no2 (by omega) c_12, rfl⟩
theorem iX2_requireWalker_X0 : ∀ w ∈ u_ws RX0 TX0 13, w ∈ wsX2_requireWalker := by decide +kernel
theorem iX2_requireWalker_X2 : ∀ w ∈ u_ws RX2 TX2 13, w ∈ wsX2_requireWalker := by decide +kernel
theorem hatX2_requireWalker_xIB : ∀ w ∈ (vx_atS RX2 153 xIB ["java/lang/RuntimeException", "java/lang/Exception"]).filter goodWord, w ∈ wsX2_requireWalker := by decide +kernel
theorem hgdX2_requireWalker_xIB : ∀ w ∈ Cond.classLink RX2 149 xIB :: Cond.initialized xIB :: vx_atS RX2 153 xIB ["java/lang/RuntimeException", "java/lang/Exception"], vx_ot w = true := by decide +kernel
set_option maxHeartbeats 1000000 in
set_option maxRecDepth 100000 in
theorem t_X2_requireWalker {l : Launch} (hl0 : l.stackTraces = false) {D : va_G} {cI cZ cJ cG cW : ClassId} {a b d : Nat → Nat} {mg pt bd tk ho ri lo : Int32} {fv hd lf la : Nat → Int32} {r2 : Nat → Nat} {hp rl cn be : Nat → Int32} {bw : Int32} {wo : Nat → Nat → Int32} {r : Nat → Nat} {nc nw : Nat} {cx cy ch rm on wx wy dm sv mu : Nat → Int32} {qq : Nat → Nat → Int32} {p1 : Int32} (h6 : nw ≤ 6) : CxV l yX2_requireWalker wsX2_requireWalker 6 90 2 12 D (T5 cI cZ cJ cG cW) [.ref (d 0), .int p1] ((wCo cI a b d mg pt bd tk ho ri lo fv hd lf la ++ wSo cI cW a b r2 hp rl cn be bw wo) ++ wL cI cZ cG a r nc nw cx cy ch rm on wx wy dm sv mu qq) (fun wv tv => IC nw p1 ∧ wv = ((wCo cI a b d mg pt bd tk ho ri lo fv hd lf la ++ wSo cI cW a b r2 hp rl cn be bw wo) ++ wL cI cZ cG a r nc nw cx cy ch rm on wx wy dm sv mu qq) ∧ tv = (T5 cI cZ cJ cG cW)) (fun Ev => ¬ IC nw p1 ∧ Ev = xIB) := by
  refine cxV_of (cc := cX2_requireWalker) (maxL := 2) RX2 0 [some (.ref (d 0)), some (.int p1)] (by decide +kernel) rfl rfl (Nat.le_of_ble_eq_true rfl) rfl (fun p_ e_ s_ m_ as_ bl_ me_ co_ C hret hE hX => ?_)
  have f10 := C.ts (.fieldLink RX2 10 "CellPlanner" "land" "LCellPlanner$Land;") (by decide +kernel)
  have f80 := C.ts (.fieldLink RX2 80 "CellPlanner$Land" "walkers" "I") (by decide +kernel)
  refine g_iload_n C dX2_requireWalker_0 rfl ?_
  refine g_if_lt C 15 dX2_requireWalker_1 (by decide) (fun c_1 => ?_) (fun c_1 => ?_)
  · skip
    obtain ⟨sa9, hstr9⟩ := hX.1.2.2.2.2.2.2.2
    exact gx_throwV C hl0 hE hX hstr9 hX.1.1.2.2 (by decide +kernel) (by decide +kernel) (by decide +kernel) hatX2_requireWalker_xIB at2_xIB hgdX2_requireWalker_xIB dX2_requireWalker_15 dX2_requireWalker_18 dX2_requireWalker_19 dX2_requireWalker_21 dX2_requireWalker_24 rfl (Nat.le_of_ble_eq_true rfl) (Nat.le_of_ble_eq_true rfl) (Nat.le_of_ble_eq_true rfl) (Nat.le_of_ble_eq_true rfl) (Nat.le_of_ble_eq_true rfl) (Nat.le_of_ble_eq_true rfl) (Nat.le_of_ble_eq_true rfl) ⟨by first | exact IC_no1 c_1 | exact IC_no2 (by omega) c_12, rfl⟩
  · skip
    refine g_iload_n C dX2_requireWalker_4 rfl ?_
    refine g_aload_n C dX2_requireWalker_5 rfl ?_
    refine g_get C 0 iX2_requireWalker_X2 rfl rfl 0 (by decide) f10 rfl dX2_requireWalker_6 ?_
    refine g_get C 17 iX2_requireWalker_X0 rfl rfl 10 (by decide) f80 rfl dX2_requireWalker_9 ?_
    refine g_icmp_lt C 25 dX2_requireWalker_12 (by decide) (fun c_12 => ?_) (fun c_12 => ?_)
    · skip
      exact gx_V (g_vret C hret dX2_requireWalker_25 (Nat.le_of_ble_eq_true rfl) (Nat.le_of_ble_eq_true rfl) ⟨(IC_yes (by omega) c_1 c_12), rfl, rfl⟩)
    · skip
      obtain ⟨sa9, hstr9⟩ := hX.1.2.2.2.2.2.2.2
      exact gx_throwV C hl0 hE hX hstr9 hX.1.1.2.2 (by decide +kernel) (by decide +kernel) (by decide +kernel) hatX2_requireWalker_xIB at2_xIB hgdX2_requireWalker_xIB dX2_requireWalker_15 dX2_requireWalker_18 dX2_requireWalker_19 dX2_requireWalker_21 dX2_requireWalker_24 rfl (Nat.le_of_ble_eq_true rfl) (Nat.le_of_ble_eq_true rfl) (Nat.le_of_ble_eq_true rfl) (Nat.le_of_ble_eq_true rfl) (Nat.le_of_ble_eq_true rfl) (Nat.le_of_ble_eq_true rfl) (Nat.le_of_ble_eq_true rfl) ⟨by first | exact IC_no1 c_1 | exact IC_no2 (by omega) c_12, rfl⟩
theorem iX2_cell_X0 : ∀ w ∈ u_ws RX0 TX0 13, w ∈ wsX2_cell := by decide +kernel
theorem iX2_cell_X2 : ∀ w ∈ u_ws RX2 TX2 13, w ∈ wsX2_cell := by decide +kernel
theorem hatX2_cell_xIS : ∀ w ∈ (vx_atS RX2 59 xIS ["java/lang/RuntimeException", "java/lang/Exception"]).filter goodWord, w ∈ wsX2_cell := by decide +kernel
theorem hgdX2_cell_xIS : ∀ w ∈ Cond.classLink RX2 55 xIS :: Cond.initialized xIS :: vx_atS RX2 59 xIS ["java/lang/RuntimeException", "java/lang/Exception"], vx_ot w = true := by decide +kernel
set_option maxHeartbeats 1000000 in
set_option maxRecDepth 100000 in
theorem t_X2_cell {l : Launch} (hl0 : l.stackTraces = false) {D : va_G} {cI cZ cJ cG cW : ClassId} {a b d : Nat → Nat} {mg pt bd tk ho ri lo : Int32} {fv hd lf la : Nat → Int32} {r2 : Nat → Nat} {hp rl cn be : Nat → Int32} {bw : Int32} {wo : Nat → Nat → Int32} {r : Nat → Nat} {nc nw : Nat} {cx cy ch rm on wx wy dm sv mu : Nat → Int32} {qq : Nat → Nat → Int32} {p1 p2 p3 p4 : Int32} (h5 : nc ≤ 5) : CxI l yX2_cell wsX2_cell 7 113 9 54 D (T5 cI cZ cJ cG cW) [.ref (d 0), .int p1, .int p2, .int p3, .int p4] ((wCo cI a b d mg pt bd tk ho ri lo fv hd lf la ++ wSo cI cW a b r2 hp rl cn be bw wo) ++ wL cI cZ cG a r nc nw cx cy ch rm on wx wy dm sv mu qq) (fun rv wv => (inC p1 p2 p3 p4 ∧ nc < 5) ∧ rv = nI nc ∧ wv = ((wCo cI a b d mg pt bd tk ho ri lo fv hd lf la ++ wSo cI cW a b r2 hp rl cn be bw wo) ++ wL cI cZ cG a r (nc + 1) nw (upd cx nc p1) (upd cy nc p2) (upd ch nc p3) (upd rm nc p4) (upd on nc 1) wx wy dm sv mu qq)) (fun Ev => (¬ inC p1 p2 p3 p4 ∧ Ev = xIA) ∨ (inC p1 p2 p3 p4 ∧ ¬ nc < 5 ∧ Ev = xIS)) := by
  refine cxI_of (cc := cX2_cell) (maxL := 5) RX2 0 [some (.ref (d 0)), some (.int p1), some (.int p2), some (.int p3), some (.int p4)] (by decide +kernel) rfl rfl (Nat.le_of_ble_eq_true rfl) rfl (fun p_ e_ s_ m_ as_ bl_ me_ co_ C hret hE hX => ?_)
  have f10 := C.ts (.fieldLink RX2 10 "CellPlanner" "land" "LCellPlanner$Land;") (by decide +kernel)
  have f52 := C.ts (.fieldLink RX2 52 "CellPlanner$Land" "cells" "I") (by decide +kernel)
  refine g_iload_n C dX2_cell_0 rfl ?_
  refine g_i2l C p1.toInt64 dX2_cell_1 rfl ?_
  refine g_iconst C 0 dX2_cell_2 (by decide +kernel) ?_
  refine g_bipush C 63 dX2_cell_3 (by decide +kernel) ?_
  refine gx_propSI C hE hX ((wCo cI a b d mg pt bd tk ho ri lo fv hd lf la ++ wSo cI cW a b r2 hp rl cn be bw wo) ++ wL cI cZ cG a r nc nw cx cy ch rm on wx wy dm sv mu qq) [] [.long p1.toInt64, .int 0, .int 63] (t_X2_requireRange hl0) (va_cwS 3 C.ts gX2_cell_X2_requireRange rfl rfl rfl (by decide +kernel) ⟨Nat.le_of_ble_eq_true rfl, Nat.le_of_ble_eq_true rfl⟩) rfl (List.append_nil _).symm (List.append_nil _) rfl (Nat.le_of_ble_eq_true rfl) dX2_cell_5 ⟨Nat.le_of_ble_eq_true rfl, Nat.le_of_ble_eq_true rfl⟩ (Nat.le_of_ble_eq_true rfl) (Nat.le_of_ble_eq_true rfl) (fun _ h => Or.inl ⟨fun q => h.1 (rng_i.mpr q.1), h.2⟩) (fun wv1 tv1 hp1 => ?_)
  obtain ⟨hok5, rfl, rfl⟩ := hp1
  refine g_w (ws' := ((wCo cI a b d mg pt bd tk ho ri lo fv hd lf la ++ wSo cI cW a b r2 hp rl cn be bw wo) ++ wL cI cZ cG a r nc nw cx cy ch rm on wx wy dm sv mu qq)) (List.append_nil _) ?_
  refine g_iload_n C dX2_cell_8 rfl ?_
  refine g_i2l C p2.toInt64 dX2_cell_9 rfl ?_
  refine g_iconst C 0 dX2_cell_10 (by decide +kernel) ?_
  refine g_bipush C 63 dX2_cell_11 (by decide +kernel) ?_
  refine gx_propSI C hE hX ((wCo cI a b d mg pt bd tk ho ri lo fv hd lf la ++ wSo cI cW a b r2 hp rl cn be bw wo) ++ wL cI cZ cG a r nc nw cx cy ch rm on wx wy dm sv mu qq) [] [.long p2.toInt64, .int 0, .int 63] (t_X2_requireRange hl0) (va_cwS 3 C.ts gX2_cell_X2_requireRange rfl rfl rfl (by decide +kernel) ⟨Nat.le_of_ble_eq_true rfl, Nat.le_of_ble_eq_true rfl⟩) rfl (List.append_nil _).symm (List.append_nil _) rfl (Nat.le_of_ble_eq_true rfl) dX2_cell_13 ⟨Nat.le_of_ble_eq_true rfl, Nat.le_of_ble_eq_true rfl⟩ (Nat.le_of_ble_eq_true rfl) (Nat.le_of_ble_eq_true rfl) (fun _ h => Or.inl ⟨fun q => h.1 (rng_i.mpr q.2.1), h.2⟩) (fun wv2 tv2 hp2 => ?_)
  obtain ⟨hok13, rfl, rfl⟩ := hp2
  refine g_w (ws' := ((wCo cI a b d mg pt bd tk ho ri lo fv hd lf la ++ wSo cI cW a b r2 hp rl cn be bw wo) ++ wL cI cZ cG a r nc nw cx cy ch rm on wx wy dm sv mu qq)) (List.append_nil _) ?_
  refine g_iload_n C dX2_cell_16 rfl ?_
  refine g_i2l C p3.toInt64 dX2_cell_17 rfl ?_
  refine g_iconst C 0 dX2_cell_18 (by decide +kernel) ?_
  refine g_iconst C 2 dX2_cell_19 (by decide +kernel) ?_
  refine gx_propSI C hE hX ((wCo cI a b d mg pt bd tk ho ri lo fv hd lf la ++ wSo cI cW a b r2 hp rl cn be bw wo) ++ wL cI cZ cG a r nc nw cx cy ch rm on wx wy dm sv mu qq) [] [.long p3.toInt64, .int 0, .int 2] (t_X2_requireRange hl0) (va_cwS 3 C.ts gX2_cell_X2_requireRange rfl rfl rfl (by decide +kernel) ⟨Nat.le_of_ble_eq_true rfl, Nat.le_of_ble_eq_true rfl⟩) rfl (List.append_nil _).symm (List.append_nil _) rfl (Nat.le_of_ble_eq_true rfl) dX2_cell_20 ⟨Nat.le_of_ble_eq_true rfl, Nat.le_of_ble_eq_true rfl⟩ (Nat.le_of_ble_eq_true rfl) (Nat.le_of_ble_eq_true rfl) (fun _ h => Or.inl ⟨fun q => h.1 (rng_i.mpr q.2.2.1), h.2⟩) (fun wv3 tv3 hp3 => ?_)
  obtain ⟨hok20, rfl, rfl⟩ := hp3
  refine g_w (ws' := ((wCo cI a b d mg pt bd tk ho ri lo fv hd lf la ++ wSo cI cW a b r2 hp rl cn be bw wo) ++ wL cI cZ cG a r nc nw cx cy ch rm on wx wy dm sv mu qq)) (List.append_nil _) ?_
  refine g_iload C dX2_cell_23 rfl ?_
  refine g_i2l C p4.toInt64 dX2_cell_25 rfl ?_
  refine g_iconst C 1 dX2_cell_26 (by decide +kernel) ?_
  refine g_bipush C 40 dX2_cell_27 (by decide +kernel) ?_
  refine gx_propSI C hE hX ((wCo cI a b d mg pt bd tk ho ri lo fv hd lf la ++ wSo cI cW a b r2 hp rl cn be bw wo) ++ wL cI cZ cG a r nc nw cx cy ch rm on wx wy dm sv mu qq) [] [.long p4.toInt64, .int 1, .int 40] (t_X2_requireRange hl0) (va_cwS 3 C.ts gX2_cell_X2_requireRange rfl rfl rfl (by decide +kernel) ⟨Nat.le_of_ble_eq_true rfl, Nat.le_of_ble_eq_true rfl⟩) rfl (List.append_nil _).symm (List.append_nil _) rfl (Nat.le_of_ble_eq_true rfl) dX2_cell_29 ⟨Nat.le_of_ble_eq_true rfl, Nat.le_of_ble_eq_true rfl⟩ (Nat.le_of_ble_eq_true rfl) (Nat.le_of_ble_eq_true rfl) (fun _ h => Or.inl ⟨fun q => h.1 (rng_i.mpr q.2.2.2), h.2⟩) (fun wv4 tv4 hp4 => ?_)
  obtain ⟨hok29, rfl, rfl⟩ := hp4
  refine g_w (ws' := ((wCo cI a b d mg pt bd tk ho ri lo fv hd lf la ++ wSo cI cW a b r2 hp rl cn be bw wo) ++ wL cI cZ cG a r nc nw cx cy ch rm on wx wy dm sv mu qq)) (List.append_nil _) ?_
  have hin : inC p1 p2 p3 p4 := ⟨rng_i.mp hok5, rng_i.mp hok13, rng_i.mp hok20, rng_i.mp hok29⟩
  refine g_aload_n C dX2_cell_32 rfl ?_
  refine g_get C 0 iX2_cell_X2 rfl rfl 0 (by decide) f10 rfl dX2_cell_33 ?_
  refine g_get C 17 iX2_cell_X0 rfl rfl 5 (by decide) f52 rfl dX2_cell_36 ?_
  refine g_iconst C 5 dX2_cell_39 (by decide +kernel) ?_
  refine g_icmp_lt C 53 dX2_cell_40 (by decide) (fun c_40 => ?_) (fun c_40 => ?_)
  · skip
    have c_40 : nc < 5 := (nI_ltI (a := nc) (b := 5) (by omega) (by decide)).mp c_40
    refine g_aload_n C dX2_cell_53 rfl ?_
    refine g_get C 0 iX2_cell_X2 rfl rfl 0 (by decide) f10 rfl dX2_cell_54 ?_
    refine g_iload_n C dX2_cell_57 rfl ?_
    refine g_iload_n C dX2_cell_58 rfl ?_
    refine g_iload_n C dX2_cell_59 rfl ?_
    refine g_iload C dX2_cell_60 rfl ?_
    refine g_callVi C (wCo cI a b d mg pt bd tk ho ri lo fv hd lf la ++ wSo cI cW a b r2 hp rl cn be bw wo) (wL cI cZ cG a r nc nw cx cy ch rm on wx wy dm sv mu qq) [.int p1, .int p2, .int p3, .int p4] (t_X0_addCell c_40) rfl rfl (cwV 4 C.ts gX2_cell_X0_addCell rfl rfl rfl (by decide +kernel) ⟨Nat.le_of_ble_eq_true rfl, Nat.le_of_ble_eq_true rfl⟩) rfl rfl rfl (Nat.le_of_ble_eq_true rfl) dX2_cell_62 ⟨Nat.le_of_ble_eq_true rfl, Nat.le_of_ble_eq_true rfl⟩ (fun rv5 wv5 hp5 => ?_)
    obtain ⟨rfl, rfl⟩ := hp5
    exact gx_I (g_iret C hret dX2_cell_65 (Nat.le_of_ble_eq_true rfl) (Nat.le_of_ble_eq_true rfl) ⟨⟨hin, c_40⟩, rfl, rfl⟩)
  · skip
    have c_40 : ¬ nc < 5 := fun h => c_40 ((nI_ltI (a := nc) (b := 5) (by omega) (by decide)).mpr h)
    obtain ⟨sa9, hstr9⟩ := hX.1.2.2.2.2.1
    exact gx_throwI C hl0 hE hX hstr9 hX.1.1.2.1 (by decide +kernel) (by decide +kernel) (by decide +kernel) hatX2_cell_xIS at2_xIS hgdX2_cell_xIS dX2_cell_43 dX2_cell_46 dX2_cell_47 dX2_cell_49 dX2_cell_52 rfl (Nat.le_of_ble_eq_true rfl) (Nat.le_of_ble_eq_true rfl) (Nat.le_of_ble_eq_true rfl) (Nat.le_of_ble_eq_true rfl) (Nat.le_of_ble_eq_true rfl) (Nat.le_of_ble_eq_true rfl) (Nat.le_of_ble_eq_true rfl) (Or.inr ⟨hin, c_40, rfl⟩)
theorem iX2_walker_X0 : ∀ w ∈ u_ws RX0 TX0 13, w ∈ wsX2_walker := by decide +kernel
theorem iX2_walker_X2 : ∀ w ∈ u_ws RX2 TX2 13, w ∈ wsX2_walker := by decide +kernel
theorem hatX2_walker_xIS : ∀ w ∈ (vx_atS RX2 59 xIS ["java/lang/RuntimeException", "java/lang/Exception"]).filter goodWord, w ∈ wsX2_walker := by decide +kernel
theorem hgdX2_walker_xIS : ∀ w ∈ Cond.classLink RX2 55 xIS :: Cond.initialized xIS :: vx_atS RX2 59 xIS ["java/lang/RuntimeException", "java/lang/Exception"], vx_ot w = true := by decide +kernel
set_option maxHeartbeats 1000000 in
set_option maxRecDepth 100000 in
theorem t_X2_walker {l : Launch} (hl0 : l.stackTraces = false) {D : va_G} {cI cZ cJ cG cW : ClassId} {a b d : Nat → Nat} {mg pt bd tk ho ri lo : Int32} {fv hd lf la : Nat → Int32} {r2 : Nat → Nat} {hp rl cn be : Nat → Int32} {bw : Int32} {wo : Nat → Nat → Int32} {r : Nat → Nat} {nc nw : Nat} {cx cy ch rm on wx wy dm sv mu : Nat → Int32} {qq : Nat → Nat → Int32} {p1 p2 p3 : Int32} (h6 : nw ≤ 6) : CxI l yX2_walker wsX2_walker 7 113 7 42 D (T5 cI cZ cJ cG cW) [.ref (d 0), .int p1, .int p2, .int p3] ((wCo cI a b d mg pt bd tk ho ri lo fv hd lf la ++ wSo cI cW a b r2 hp rl cn be bw wo) ++ wL cI cZ cG a r nc nw cx cy ch rm on wx wy dm sv mu qq) (fun rv wv => (inW p1 p2 p3 ∧ nw < 6) ∧ rv = nI nw ∧ wv = ((wCo cI a b d mg pt bd tk ho ri lo (upd fv nw (-1)) (upd hd nw 0) (upd lf nw (-1)) la ++ wSo cI cW a b r2 hp rl cn be bw wo) ++ wL cI cZ cG a r nc (nw + 1) cx cy ch rm on (upd wx nw p1) (upd wy nw p2) (upd dm nw p3) (upd sv nw (-1)) mu qq)) (fun Ev => (¬ inW p1 p2 p3 ∧ Ev = xIA) ∨ (inW p1 p2 p3 ∧ ¬ nw < 6 ∧ Ev = xIS)) := by
  refine cxI_of (cc := cX2_walker) (maxL := 5) RX2 1 [some (.ref (d 0)), some (.int p1), some (.int p2), some (.int p3), none] (by decide +kernel) rfl rfl (Nat.le_of_ble_eq_true rfl) rfl (fun p_ e_ s_ m_ as_ bl_ me_ co_ C hret hE hX => ?_)
  have f10 := C.ts (.fieldLink RX2 10 "CellPlanner" "land" "LCellPlanner$Land;") (by decide +kernel)
  have f32 := C.ts (.fieldLink RX2 32 "CellPlanner" "leftCell" "[I") (by decide +kernel)
  have f80 := C.ts (.fieldLink RX2 80 "CellPlanner$Land" "walkers" "I") (by decide +kernel)
  refine g_iload_n C dX2_walker_0 rfl ?_
  refine g_i2l C p1.toInt64 dX2_walker_1 rfl ?_
  refine g_iconst C 0 dX2_walker_2 (by decide +kernel) ?_
  refine g_bipush C 63 dX2_walker_3 (by decide +kernel) ?_
  refine gx_propSI C hE hX ((wCo cI a b d mg pt bd tk ho ri lo fv hd lf la ++ wSo cI cW a b r2 hp rl cn be bw wo) ++ wL cI cZ cG a r nc nw cx cy ch rm on wx wy dm sv mu qq) [] [.long p1.toInt64, .int 0, .int 63] (t_X2_requireRange hl0) (va_cwS 3 C.ts gX2_walker_X2_requireRange rfl rfl rfl (by decide +kernel) ⟨Nat.le_of_ble_eq_true rfl, Nat.le_of_ble_eq_true rfl⟩) rfl (List.append_nil _).symm (List.append_nil _) rfl (Nat.le_of_ble_eq_true rfl) dX2_walker_5 ⟨Nat.le_of_ble_eq_true rfl, Nat.le_of_ble_eq_true rfl⟩ (Nat.le_of_ble_eq_true rfl) (Nat.le_of_ble_eq_true rfl) (fun _ h => Or.inl ⟨fun q => h.1 (rng_i.mpr q.1), h.2⟩) (fun wv1 tv1 hp1 => ?_)
  obtain ⟨hok5, rfl, rfl⟩ := hp1
  refine g_w (ws' := ((wCo cI a b d mg pt bd tk ho ri lo fv hd lf la ++ wSo cI cW a b r2 hp rl cn be bw wo) ++ wL cI cZ cG a r nc nw cx cy ch rm on wx wy dm sv mu qq)) (List.append_nil _) ?_
  refine g_iload_n C dX2_walker_8 rfl ?_
  refine g_i2l C p2.toInt64 dX2_walker_9 rfl ?_
  refine g_iconst C 0 dX2_walker_10 (by decide +kernel) ?_
  refine g_bipush C 63 dX2_walker_11 (by decide +kernel) ?_
  refine gx_propSI C hE hX ((wCo cI a b d mg pt bd tk ho ri lo fv hd lf la ++ wSo cI cW a b r2 hp rl cn be bw wo) ++ wL cI cZ cG a r nc nw cx cy ch rm on wx wy dm sv mu qq) [] [.long p2.toInt64, .int 0, .int 63] (t_X2_requireRange hl0) (va_cwS 3 C.ts gX2_walker_X2_requireRange rfl rfl rfl (by decide +kernel) ⟨Nat.le_of_ble_eq_true rfl, Nat.le_of_ble_eq_true rfl⟩) rfl (List.append_nil _).symm (List.append_nil _) rfl (Nat.le_of_ble_eq_true rfl) dX2_walker_13 ⟨Nat.le_of_ble_eq_true rfl, Nat.le_of_ble_eq_true rfl⟩ (Nat.le_of_ble_eq_true rfl) (Nat.le_of_ble_eq_true rfl) (fun _ h => Or.inl ⟨fun q => h.1 (rng_i.mpr q.2.1), h.2⟩) (fun wv2 tv2 hp2 => ?_)
  obtain ⟨hok13, rfl, rfl⟩ := hp2
  refine g_w (ws' := ((wCo cI a b d mg pt bd tk ho ri lo fv hd lf la ++ wSo cI cW a b r2 hp rl cn be bw wo) ++ wL cI cZ cG a r nc nw cx cy ch rm on wx wy dm sv mu qq)) (List.append_nil _) ?_
  refine g_iload_n C dX2_walker_16 rfl ?_
  refine g_i2l C p3.toInt64 dX2_walker_17 rfl ?_
  refine g_iconst C 1 dX2_walker_18 (by decide +kernel) ?_
  refine g_bipush C 10 dX2_walker_19 (by decide +kernel) ?_
  refine gx_propSI C hE hX ((wCo cI a b d mg pt bd tk ho ri lo fv hd lf la ++ wSo cI cW a b r2 hp rl cn be bw wo) ++ wL cI cZ cG a r nc nw cx cy ch rm on wx wy dm sv mu qq) [] [.long p3.toInt64, .int 1, .int 10] (t_X2_requireRange hl0) (va_cwS 3 C.ts gX2_walker_X2_requireRange rfl rfl rfl (by decide +kernel) ⟨Nat.le_of_ble_eq_true rfl, Nat.le_of_ble_eq_true rfl⟩) rfl (List.append_nil _).symm (List.append_nil _) rfl (Nat.le_of_ble_eq_true rfl) dX2_walker_21 ⟨Nat.le_of_ble_eq_true rfl, Nat.le_of_ble_eq_true rfl⟩ (Nat.le_of_ble_eq_true rfl) (Nat.le_of_ble_eq_true rfl) (fun _ h => Or.inl ⟨fun q => h.1 (rng_i.mpr q.2.2), h.2⟩) (fun wv3 tv3 hp3 => ?_)
  obtain ⟨hok21, rfl, rfl⟩ := hp3
  refine g_w (ws' := ((wCo cI a b d mg pt bd tk ho ri lo fv hd lf la ++ wSo cI cW a b r2 hp rl cn be bw wo) ++ wL cI cZ cG a r nc nw cx cy ch rm on wx wy dm sv mu qq)) (List.append_nil _) ?_
  have hin : inW p1 p2 p3 := ⟨rng_i.mp hok5, rng_i.mp hok13, rng_i.mp hok21⟩
  refine g_aload_n C dX2_walker_24 rfl ?_
  refine g_get C 0 iX2_walker_X2 rfl rfl 0 (by decide) f10 rfl dX2_walker_25 ?_
  refine g_get C 17 iX2_walker_X0 rfl rfl 10 (by decide) f80 rfl dX2_walker_28 ?_
  refine g_bipush C 6 dX2_walker_31 (by decide +kernel) ?_
  refine g_icmp_lt C 46 dX2_walker_33 (by decide) (fun c_33 => ?_) (fun c_33 => ?_)
  · skip
    have c_33 : nw < 6 := (nI_ltI (a := nw) (b := 6) (by omega) (by decide)).mp c_33
    refine g_aload_n C dX2_walker_46 rfl ?_
    refine g_get C 0 iX2_walker_X2 rfl rfl 0 (by decide) f10 rfl dX2_walker_47 ?_
    refine g_iload_n C dX2_walker_50 rfl ?_
    refine g_iload_n C dX2_walker_51 rfl ?_
    refine g_iload_n C dX2_walker_52 rfl ?_
    refine g_callVi C (wCo cI a b d mg pt bd tk ho ri lo fv hd lf la ++ wSo cI cW a b r2 hp rl cn be bw wo) (wL cI cZ cG a r nc nw cx cy ch rm on wx wy dm sv mu qq) [.int p1, .int p2, .int p3] (t_X0_addWalker c_33) rfl rfl (cwV 3 C.ts gX2_walker_X0_addWalker rfl rfl rfl (by decide +kernel) ⟨Nat.le_of_ble_eq_true rfl, Nat.le_of_ble_eq_true rfl⟩) rfl rfl rfl (Nat.le_of_ble_eq_true rfl) dX2_walker_53 ⟨Nat.le_of_ble_eq_true rfl, Nat.le_of_ble_eq_true rfl⟩ (fun rv4 wv4 hp4 => ?_)
    obtain ⟨rfl, rfl⟩ := hp4
    refine g_istore C [some (.ref (d 0)), some (.int p1), some (.int p2), some (.int p3), some (.int (nI nw))] dX2_walker_56 (by decide) rfl rfl ?_
    refine g_aload_n C dX2_walker_58 rfl ?_
    refine g_iload C dX2_walker_59 rfl ?_
    refine g_callVv C [] ((wCo cI a b d mg pt bd tk ho ri lo fv hd lf la ++ wSo cI cW a b r2 hp rl cn be bw wo) ++ wL cI cZ cG a r nc (nw + 1) cx cy ch rm on (upd wx nw p1) (upd wy nw p2) (upd dm nw p3) (upd sv nw (-1)) mu qq) [.int (nI nw)] (t_X2_dropFavourite c_33) rfl rfl (cwV 1 C.ts gX2_walker_X2_dropFavourite rfl rfl rfl (by decide +kernel) ⟨Nat.le_of_ble_eq_true rfl, Nat.le_of_ble_eq_true rfl⟩) rfl rfl rfl (Nat.le_of_ble_eq_true rfl) dX2_walker_61 ⟨Nat.le_of_ble_eq_true rfl, Nat.le_of_ble_eq_true rfl⟩ (fun wv5 tv5 hp5 => ?_)
    obtain ⟨rfl, rfl⟩ := hp5
    refine g_aload_n C dX2_walker_64 rfl ?_
    refine g_get C 0 iX2_walker_X2 rfl rfl 4 (by decide) f32 rfl dX2_walker_65 ?_
    refine g_iload C dX2_walker_68 rfl ?_
    refine g_iconst C (-1) dX2_walker_70 (by decide +kernel) ?_
    refine g_iast C 3 0 rfl rfl nw rfl c_33 (by decide) ((wCo cI a b d mg pt bd tk ho ri lo (upd fv nw (-1)) (upd hd nw 0) (upd lf nw ((-1))) la ++ wSo cI cW a b r2 hp rl cn be bw wo) ++ wL cI cZ cG a r nc (nw + 1) cx cy ch rm on (upd wx nw p1) (upd wy nw p2) (upd dm nw p3) (upd sv nw (-1)) mu qq) rfl dX2_walker_71 ?_
    refine g_iload C dX2_walker_72 rfl ?_
    exact gx_I (g_iret C hret dX2_walker_74 (Nat.le_of_ble_eq_true rfl) (Nat.le_of_ble_eq_true rfl) ⟨⟨hin, c_33⟩, rfl, rfl⟩)
  · skip
    have c_33 : ¬ nw < 6 := fun h => c_33 ((nI_ltI (a := nw) (b := 6) (by omega) (by decide)).mpr h)
    obtain ⟨sa9, hstr9⟩ := hX.1.2.2.2.2.2.2.1
    exact gx_throwI C hl0 hE hX hstr9 hX.1.1.2.1 (by decide +kernel) (by decide +kernel) (by decide +kernel) hatX2_walker_xIS at2_xIS hgdX2_walker_xIS dX2_walker_36 dX2_walker_39 dX2_walker_40 dX2_walker_42 dX2_walker_45 rfl (Nat.le_of_ble_eq_true rfl) (Nat.le_of_ble_eq_true rfl) (Nat.le_of_ble_eq_true rfl) (Nat.le_of_ble_eq_true rfl) (Nat.le_of_ble_eq_true rfl) (Nat.le_of_ble_eq_true rfl) (Nat.le_of_ble_eq_true rfl) (Or.inr ⟨hin, c_33, rfl⟩)
theorem iX2_load_X2 : ∀ w ∈ u_ws RX2 TX2 13, w ∈ wsX2_load := by decide +kernel
set_option maxHeartbeats 1000000 in
set_option maxRecDepth 100000 in
theorem t_X2_load {l : Launch} (hl0 : l.stackTraces = false) {D : va_G} {cI cZ cJ cG cW : ClassId} {a b d : Nat → Nat} {mg pt bd tk ho ri lo : Int32} {fv hd lf la : Nat → Int32} {r2 : Nat → Nat} {hp rl cn be : Nat → Int32} {bw : Int32} {wo : Nat → Nat → Int32} {r : Nat → Nat} {nc nw : Nat} {cx cy ch rm on wx wy dm sv mu : Nat → Int32} {qq : Nat → Nat → Int32} {p1 : Int32} (h5 : nc ≤ 5) (h6 : nw ≤ 6) : CxI l yX2_load wsX2_load 7 111 2 12 D (T5 cI cZ cJ cG cW) [.ref (d 0), .int p1] ((wCo cI a b d mg pt bd tk ho ri lo fv hd lf la ++ wSo cI cW a b r2 hp rl cn be bw wo) ++ wL cI cZ cG a r nc nw cx cy ch rm on wx wy dm sv mu qq) (fun rv wv => IC nc p1 ∧ rv = fld sv dm p1 nw ∧ wv = ((wCo cI a b d mg pt bd tk ho ri lo fv hd lf la ++ wSo cI cW a b r2 hp rl cn be bw wo) ++ wL cI cZ cG a r nc nw cx cy ch rm on wx wy dm sv mu qq)) (fun Ev => ¬ IC nc p1 ∧ Ev = xIB) := by
  refine cxI_of (cc := cX2_load) (maxL := 2) RX2 0 [some (.ref (d 0)), some (.int p1)] (by decide +kernel) rfl rfl (Nat.le_of_ble_eq_true rfl) rfl (fun p_ e_ s_ m_ as_ bl_ me_ co_ C hret hE hX => ?_)
  have f10 := C.ts (.fieldLink RX2 10 "CellPlanner" "land" "LCellPlanner$Land;") (by decide +kernel)
  refine g_aload_n C dX2_load_0 rfl ?_
  refine g_iload_n C dX2_load_1 rfl ?_
  refine gx_propVI C hE hX [] ((wCo cI a b d mg pt bd tk ho ri lo fv hd lf la ++ wSo cI cW a b r2 hp rl cn be bw wo) ++ wL cI cZ cG a r nc nw cx cy ch rm on wx wy dm sv mu qq) [.int p1] (t_X2_requireCell hl0 (by omega)) rfl rfl (cwV 1 C.ts gX2_load_X2_requireCell rfl rfl rfl (by decide +kernel) ⟨Nat.le_of_ble_eq_true rfl, Nat.le_of_ble_eq_true rfl⟩) rfl rfl rfl rfl (Nat.le_of_ble_eq_true rfl) dX2_load_2 ⟨Nat.le_of_ble_eq_true rfl, Nat.le_of_ble_eq_true rfl⟩ (Nat.le_of_ble_eq_true rfl) (Nat.le_of_ble_eq_true rfl) (fun _ h => h) (fun wv1 tv1 hp1 => ?_)
  obtain ⟨hok2, rfl, rfl⟩ := hp1
  obtain ⟨kc, hlkc, rfl⟩ := hok2
  refine g_aload_n C dX2_load_5 rfl ?_
  refine g_get C 0 iX2_load_X2 rfl rfl 0 (by decide) f10 rfl dX2_load_6 ?_
  refine g_iload_n C dX2_load_9 rfl ?_
  refine g_callVi C (wCo cI a b d mg pt bd tk ho ri lo fv hd lf la ++ wSo cI cW a b r2 hp rl cn be bw wo) (wL cI cZ cG a r nc nw cx cy ch rm on wx wy dm sv mu qq) [.int (nI kc)] (t_X0_loadOf h6) rfl rfl (cwV 1 C.ts gX2_load_X0_loadOf rfl rfl rfl (by decide +kernel) ⟨Nat.le_of_ble_eq_true rfl, Nat.le_of_ble_eq_true rfl⟩) rfl rfl rfl (Nat.le_of_ble_eq_true rfl) dX2_load_10 ⟨Nat.le_of_ble_eq_true rfl, Nat.le_of_ble_eq_true rfl⟩ (fun rv2 wv2 hp2 => ?_)
  obtain ⟨rfl, rfl⟩ := hp2
  exact gx_I (g_iret C hret dX2_load_13 (Nat.le_of_ble_eq_true rfl) (Nat.le_of_ble_eq_true rfl) ⟨⟨kc, hlkc, rfl⟩, rfl, rfl⟩)
theorem iX2_use_X2 : ∀ w ∈ u_ws RX2 TX2 13, w ∈ wsX2_use := by decide +kernel
set_option maxHeartbeats 1000000 in
set_option maxRecDepth 100000 in
theorem t_X2_use {l : Launch} (hl0 : l.stackTraces = false) {D : va_G} {cI cZ cJ cG cW : ClassId} {a b d : Nat → Nat} {mg pt bd tk ho ri lo : Int32} {fv hd lf la : Nat → Int32} {r2 : Nat → Nat} {hp rl cn be : Nat → Int32} {bw : Int32} {wo : Nat → Nat → Int32} {r : Nat → Nat} {nc nw : Nat} {cx cy ch rm on wx wy dm sv mu : Nat → Int32} {qq : Nat → Nat → Int32} {p1 : Int32} (h5 : nc ≤ 5) (h6 : nw ≤ 6) (hr : ∀ c, c < nc → ¬ rm c ≤ 0) : CxI l yX2_use wsX2_use 7 111 2 12 D (T5 cI cZ cJ cG cW) [.ref (d 0), .int p1] ((wCo cI a b d mg pt bd tk ho ri lo fv hd lf la ++ wSo cI cW a b r2 hp rl cn be bw wo) ++ wL cI cZ cG a r nc nw cx cy ch rm on wx wy dm sv mu qq) (fun rv wv => IC nc p1 ∧ rv = fus rm sv dm nw p1.toNatClampNeg ∧ wv = ((wCo cI a b d mg pt bd tk ho ri lo fv hd lf la ++ wSo cI cW a b r2 hp rl cn be bw wo) ++ wL cI cZ cG a r nc nw cx cy ch rm on wx wy dm sv mu qq)) (fun Ev => ¬ IC nc p1 ∧ Ev = xIB) := by
  refine cxI_of (cc := cX2_use) (maxL := 2) RX2 0 [some (.ref (d 0)), some (.int p1)] (by decide +kernel) rfl rfl (Nat.le_of_ble_eq_true rfl) rfl (fun p_ e_ s_ m_ as_ bl_ me_ co_ C hret hE hX => ?_)
  have f10 := C.ts (.fieldLink RX2 10 "CellPlanner" "land" "LCellPlanner$Land;") (by decide +kernel)
  refine g_aload_n C dX2_use_0 rfl ?_
  refine g_iload_n C dX2_use_1 rfl ?_
  refine gx_propVI C hE hX [] ((wCo cI a b d mg pt bd tk ho ri lo fv hd lf la ++ wSo cI cW a b r2 hp rl cn be bw wo) ++ wL cI cZ cG a r nc nw cx cy ch rm on wx wy dm sv mu qq) [.int p1] (t_X2_requireCell hl0 (by omega)) rfl rfl (cwV 1 C.ts gX2_use_X2_requireCell rfl rfl rfl (by decide +kernel) ⟨Nat.le_of_ble_eq_true rfl, Nat.le_of_ble_eq_true rfl⟩) rfl rfl rfl rfl (Nat.le_of_ble_eq_true rfl) dX2_use_2 ⟨Nat.le_of_ble_eq_true rfl, Nat.le_of_ble_eq_true rfl⟩ (Nat.le_of_ble_eq_true rfl) (Nat.le_of_ble_eq_true rfl) (fun _ h => h) (fun wv1 tv1 hp1 => ?_)
  obtain ⟨hok2, rfl, rfl⟩ := hp1
  obtain ⟨kc, hlkc, rfl⟩ := hok2
  refine g_aload_n C dX2_use_5 rfl ?_
  refine g_get C 0 iX2_use_X2 rfl rfl 0 (by decide) f10 rfl dX2_use_6 ?_
  refine g_iload_n C dX2_use_9 rfl ?_
  refine g_callVi C (wCo cI a b d mg pt bd tk ho ri lo fv hd lf la ++ wSo cI cW a b r2 hp rl cn be bw wo) (wL cI cZ cG a r nc nw cx cy ch rm on wx wy dm sv mu qq) [.int (nI kc)] (t_X0_useOf h6 (by omega) (hr kc hlkc)) rfl rfl (cwV 1 C.ts gX2_use_X0_useOf rfl rfl rfl (by decide +kernel) ⟨Nat.le_of_ble_eq_true rfl, Nat.le_of_ble_eq_true rfl⟩) rfl rfl rfl (Nat.le_of_ble_eq_true rfl) dX2_use_10 ⟨Nat.le_of_ble_eq_true rfl, Nat.le_of_ble_eq_true rfl⟩ (fun rv2 wv2 hp2 => ?_)
  obtain ⟨rfl, rfl⟩ := hp2
  exact gx_I (g_iret C hret dX2_use_13 (Nat.le_of_ble_eq_true rfl) (Nat.le_of_ble_eq_true rfl) ⟨⟨kc, hlkc, rfl⟩, (by rw [nI_clamp (by omega)]), rfl⟩)
theorem iX2_servedBy_X0 : ∀ w ∈ u_ws RX0 TX0 13, w ∈ wsX2_servedBy := by decide +kernel
theorem iX2_servedBy_X2 : ∀ w ∈ u_ws RX2 TX2 13, w ∈ wsX2_servedBy := by decide +kernel
set_option maxHeartbeats 1000000 in
set_option maxRecDepth 100000 in
theorem t_X2_servedBy {l : Launch} (hl0 : l.stackTraces = false) {D : va_G} {cI cZ cJ cG cW : ClassId} {a b d : Nat → Nat} {mg pt bd tk ho ri lo : Int32} {fv hd lf la : Nat → Int32} {r2 : Nat → Nat} {hp rl cn be : Nat → Int32} {bw : Int32} {wo : Nat → Nat → Int32} {r : Nat → Nat} {nc nw : Nat} {cx cy ch rm on wx wy dm sv mu : Nat → Int32} {qq : Nat → Nat → Int32} {p1 : Int32} (h5 : nc ≤ 5) (h6 : nw ≤ 6) : CxI l yX2_servedBy wsX2_servedBy 7 111 2 12 D (T5 cI cZ cJ cG cW) [.ref (d 0), .int p1] ((wCo cI a b d mg pt bd tk ho ri lo fv hd lf la ++ wSo cI cW a b r2 hp rl cn be bw wo) ++ wL cI cZ cG a r nc nw cx cy ch rm on wx wy dm sv mu qq) (fun rv wv => IC nw p1 ∧ rv = sv p1.toNatClampNeg ∧ wv = ((wCo cI a b d mg pt bd tk ho ri lo fv hd lf la ++ wSo cI cW a b r2 hp rl cn be bw wo) ++ wL cI cZ cG a r nc nw cx cy ch rm on wx wy dm sv mu qq)) (fun Ev => ¬ IC nw p1 ∧ Ev = xIB) := by
  refine cxI_of (cc := cX2_servedBy) (maxL := 2) RX2 0 [some (.ref (d 0)), some (.int p1)] (by decide +kernel) rfl rfl (Nat.le_of_ble_eq_true rfl) rfl (fun p_ e_ s_ m_ as_ bl_ me_ co_ C hret hE hX => ?_)
  have f10 := C.ts (.fieldLink RX2 10 "CellPlanner" "land" "LCellPlanner$Land;") (by decide +kernel)
  have f128 := C.ts (.fieldLink RX2 128 "CellPlanner$Land" "server" "[I") (by decide +kernel)
  refine g_aload_n C dX2_servedBy_0 rfl ?_
  refine g_iload_n C dX2_servedBy_1 rfl ?_
  refine gx_propVI C hE hX [] ((wCo cI a b d mg pt bd tk ho ri lo fv hd lf la ++ wSo cI cW a b r2 hp rl cn be bw wo) ++ wL cI cZ cG a r nc nw cx cy ch rm on wx wy dm sv mu qq) [.int p1] (t_X2_requireWalker hl0 (by omega)) rfl rfl (cwV 1 C.ts gX2_servedBy_X2_requireWalker rfl rfl rfl (by decide +kernel) ⟨Nat.le_of_ble_eq_true rfl, Nat.le_of_ble_eq_true rfl⟩) rfl rfl rfl rfl (Nat.le_of_ble_eq_true rfl) dX2_servedBy_2 ⟨Nat.le_of_ble_eq_true rfl, Nat.le_of_ble_eq_true rfl⟩ (Nat.le_of_ble_eq_true rfl) (Nat.le_of_ble_eq_true rfl) (fun _ h => h) (fun wv1 tv1 hp1 => ?_)
  obtain ⟨hok2, rfl, rfl⟩ := hp1
  obtain ⟨kc, hlkc, rfl⟩ := hok2
  refine g_aload_n C dX2_servedBy_5 rfl ?_
  refine g_get C 0 iX2_servedBy_X2 rfl rfl 0 (by decide) f10 rfl dX2_servedBy_6 ?_
  refine g_get C 17 iX2_servedBy_X0 rfl rfl 9 (by decide) f128 rfl dX2_servedBy_9 ?_
  refine g_iload_n C dX2_servedBy_12 rfl ?_
  refine g_iald C 26 0 rfl rfl kc rfl (by omega) (by decide) (sv kc) rfl dX2_servedBy_13 ?_
  exact gx_I (g_iret C hret dX2_servedBy_14 (Nat.le_of_ble_eq_true rfl) (Nat.le_of_ble_eq_true rfl) ⟨⟨kc, hlkc, rfl⟩, (by rw [nI_clamp (by omega)]), rfl⟩)
theorem iX2_favourite_X2 : ∀ w ∈ u_ws RX2 TX2 13, w ∈ wsX2_favourite := by decide +kernel
set_option maxHeartbeats 1000000 in
set_option maxRecDepth 100000 in
theorem t_X2_favourite {l : Launch} (hl0 : l.stackTraces = false) {D : va_G} {cI cZ cJ cG cW : ClassId} {a b d : Nat → Nat} {mg pt bd tk ho ri lo : Int32} {fv hd lf la : Nat → Int32} {r2 : Nat → Nat} {hp rl cn be : Nat → Int32} {bw : Int32} {wo : Nat → Nat → Int32} {r : Nat → Nat} {nc nw : Nat} {cx cy ch rm on wx wy dm sv mu : Nat → Int32} {qq : Nat → Nat → Int32} {p1 : Int32} (h5 : nc ≤ 5) (h6 : nw ≤ 6) : CxI l yX2_favourite wsX2_favourite 7 111 2 12 D (T5 cI cZ cJ cG cW) [.ref (d 0), .int p1] ((wCo cI a b d mg pt bd tk ho ri lo fv hd lf la ++ wSo cI cW a b r2 hp rl cn be bw wo) ++ wL cI cZ cG a r nc nw cx cy ch rm on wx wy dm sv mu qq) (fun rv wv => IC nw p1 ∧ rv = fv p1.toNatClampNeg ∧ wv = ((wCo cI a b d mg pt bd tk ho ri lo fv hd lf la ++ wSo cI cW a b r2 hp rl cn be bw wo) ++ wL cI cZ cG a r nc nw cx cy ch rm on wx wy dm sv mu qq)) (fun Ev => ¬ IC nw p1 ∧ Ev = xIB) := by
  refine cxI_of (cc := cX2_favourite) (maxL := 2) RX2 0 [some (.ref (d 0)), some (.int p1)] (by decide +kernel) rfl rfl (Nat.le_of_ble_eq_true rfl) rfl (fun p_ e_ s_ m_ as_ bl_ me_ co_ C hret hE hX => ?_)
  have f25 := C.ts (.fieldLink RX2 25 "CellPlanner" "favourite" "[I") (by decide +kernel)
  refine g_aload_n C dX2_favourite_0 rfl ?_
  refine g_iload_n C dX2_favourite_1 rfl ?_
  refine gx_propVI C hE hX [] ((wCo cI a b d mg pt bd tk ho ri lo fv hd lf la ++ wSo cI cW a b r2 hp rl cn be bw wo) ++ wL cI cZ cG a r nc nw cx cy ch rm on wx wy dm sv mu qq) [.int p1] (t_X2_requireWalker hl0 (by omega)) rfl rfl (cwV 1 C.ts gX2_favourite_X2_requireWalker rfl rfl rfl (by decide +kernel) ⟨Nat.le_of_ble_eq_true rfl, Nat.le_of_ble_eq_true rfl⟩) rfl rfl rfl rfl (Nat.le_of_ble_eq_true rfl) dX2_favourite_2 ⟨Nat.le_of_ble_eq_true rfl, Nat.le_of_ble_eq_true rfl⟩ (Nat.le_of_ble_eq_true rfl) (Nat.le_of_ble_eq_true rfl) (fun _ h => h) (fun wv1 tv1 hp1 => ?_)
  obtain ⟨hok2, rfl, rfl⟩ := hp1
  obtain ⟨kc, hlkc, rfl⟩ := hok2
  refine g_aload_n C dX2_favourite_5 rfl ?_
  refine g_get C 0 iX2_favourite_X2 rfl rfl 2 (by decide) f25 rfl dX2_favourite_6 ?_
  refine g_iload_n C dX2_favourite_9 rfl ?_
  refine g_iald C 1 0 rfl rfl kc rfl (by omega) (by decide) (fv kc) rfl dX2_favourite_10 ?_
  exact gx_I (g_iret C hret dX2_favourite_11 (Nat.le_of_ble_eq_true rfl) (Nat.le_of_ble_eq_true rfl) ⟨⟨kc, hlkc, rfl⟩, (by rw [nI_clamp (by omega)]), rfl⟩)
theorem iX2_heldFor_X2 : ∀ w ∈ u_ws RX2 TX2 13, w ∈ wsX2_heldFor := by decide +kernel
set_option maxHeartbeats 1000000 in
set_option maxRecDepth 100000 in
theorem t_X2_heldFor {l : Launch} (hl0 : l.stackTraces = false) {D : va_G} {cI cZ cJ cG cW : ClassId} {a b d : Nat → Nat} {mg pt bd tk ho ri lo : Int32} {fv hd lf la : Nat → Int32} {r2 : Nat → Nat} {hp rl cn be : Nat → Int32} {bw : Int32} {wo : Nat → Nat → Int32} {r : Nat → Nat} {nc nw : Nat} {cx cy ch rm on wx wy dm sv mu : Nat → Int32} {qq : Nat → Nat → Int32} {p1 : Int32} (h5 : nc ≤ 5) (h6 : nw ≤ 6) : CxI l yX2_heldFor wsX2_heldFor 7 111 2 12 D (T5 cI cZ cJ cG cW) [.ref (d 0), .int p1] ((wCo cI a b d mg pt bd tk ho ri lo fv hd lf la ++ wSo cI cW a b r2 hp rl cn be bw wo) ++ wL cI cZ cG a r nc nw cx cy ch rm on wx wy dm sv mu qq) (fun rv wv => IC nw p1 ∧ rv = hd p1.toNatClampNeg ∧ wv = ((wCo cI a b d mg pt bd tk ho ri lo fv hd lf la ++ wSo cI cW a b r2 hp rl cn be bw wo) ++ wL cI cZ cG a r nc nw cx cy ch rm on wx wy dm sv mu qq)) (fun Ev => ¬ IC nw p1 ∧ Ev = xIB) := by
  refine cxI_of (cc := cX2_heldFor) (maxL := 2) RX2 0 [some (.ref (d 0)), some (.int p1)] (by decide +kernel) rfl rfl (Nat.le_of_ble_eq_true rfl) rfl (fun p_ e_ s_ m_ as_ bl_ me_ co_ C hret hE hX => ?_)
  have f29 := C.ts (.fieldLink RX2 29 "CellPlanner" "held" "[I") (by decide +kernel)
  refine g_aload_n C dX2_heldFor_0 rfl ?_
  refine g_iload_n C dX2_heldFor_1 rfl ?_
  refine gx_propVI C hE hX [] ((wCo cI a b d mg pt bd tk ho ri lo fv hd lf la ++ wSo cI cW a b r2 hp rl cn be bw wo) ++ wL cI cZ cG a r nc nw cx cy ch rm on wx wy dm sv mu qq) [.int p1] (t_X2_requireWalker hl0 (by omega)) rfl rfl (cwV 1 C.ts gX2_heldFor_X2_requireWalker rfl rfl rfl (by decide +kernel) ⟨Nat.le_of_ble_eq_true rfl, Nat.le_of_ble_eq_true rfl⟩) rfl rfl rfl rfl (Nat.le_of_ble_eq_true rfl) dX2_heldFor_2 ⟨Nat.le_of_ble_eq_true rfl, Nat.le_of_ble_eq_true rfl⟩ (Nat.le_of_ble_eq_true rfl) (Nat.le_of_ble_eq_true rfl) (fun _ h => h) (fun wv1 tv1 hp1 => ?_)
  obtain ⟨hok2, rfl, rfl⟩ := hp1
  obtain ⟨kc, hlkc, rfl⟩ := hok2
  refine g_aload_n C dX2_heldFor_5 rfl ?_
  refine g_get C 0 iX2_heldFor_X2 rfl rfl 3 (by decide) f29 rfl dX2_heldFor_6 ?_
  refine g_iload_n C dX2_heldFor_9 rfl ?_
  refine g_iald C 2 0 rfl rfl kc rfl (by omega) (by decide) (hd kc) rfl dX2_heldFor_10 ?_
  exact gx_I (g_iret C hret dX2_heldFor_11 (Nat.le_of_ble_eq_true rfl) (Nat.le_of_ble_eq_true rfl) ⟨⟨kc, hlkc, rfl⟩, (by rw [nI_clamp (by omega)]), rfl⟩)
theorem iX2_signal_X2 : ∀ w ∈ u_ws RX2 TX2 13, w ∈ wsX2_signal := by decide +kernel
set_option maxHeartbeats 1000000 in
set_option maxRecDepth 100000 in
theorem t_X2_signal {l : Launch} (hl0 : l.stackTraces = false) {D : va_G} {cI cZ cJ cG cW : ClassId} {a b d : Nat → Nat} {mg pt bd tk ho ri lo : Int32} {fv hd lf la : Nat → Int32} {r2 : Nat → Nat} {hp rl cn be : Nat → Int32} {bw : Int32} {wo : Nat → Nat → Int32} {r : Nat → Nat} {nc nw : Nat} {cx cy ch rm on wx wy dm sv mu : Nat → Int32} {qq : Nat → Nat → Int32} {p1 p2 : Int32} (h5 : nc ≤ 5) (h6 : nw ≤ 6) (hg : ∀ c w, c < nc → w < nw → ¬ dsq (cx c) (cy c) (wx w) (wy w) = 0) : CxI l yX2_signal wsX2_signal 7 111 4 24 D (T5 cI cZ cJ cG cW) [.ref (d 0), .int p1, .int p2] ((wCo cI a b d mg pt bd tk ho ri lo fv hd lf la ++ wSo cI cW a b r2 hp rl cn be bw wo) ++ wL cI cZ cG a r nc nw cx cy ch rm on wx wy dm sv mu qq) (fun rv wv => (IC nc p1 ∧ IC nw p2) ∧ rv = sg cx cy wx wy p1.toNatClampNeg p2.toNatClampNeg ∧ wv = ((wCo cI a b d mg pt bd tk ho ri lo fv hd lf la ++ wSo cI cW a b r2 hp rl cn be bw wo) ++ wL cI cZ cG a r nc nw cx cy ch rm on wx wy dm sv mu qq)) (fun Ev => ¬ (IC nc p1 ∧ IC nw p2) ∧ Ev = xIB) := by
  refine cxI_of (cc := cX2_signal) (maxL := 3) RX2 0 [some (.ref (d 0)), some (.int p1), some (.int p2)] (by decide +kernel) rfl rfl (Nat.le_of_ble_eq_true rfl) rfl (fun p_ e_ s_ m_ as_ bl_ me_ co_ C hret hE hX => ?_)
  have f10 := C.ts (.fieldLink RX2 10 "CellPlanner" "land" "LCellPlanner$Land;") (by decide +kernel)
  refine g_aload_n C dX2_signal_0 rfl ?_
  refine g_iload_n C dX2_signal_1 rfl ?_
  refine gx_propVI C hE hX [] ((wCo cI a b d mg pt bd tk ho ri lo fv hd lf la ++ wSo cI cW a b r2 hp rl cn be bw wo) ++ wL cI cZ cG a r nc nw cx cy ch rm on wx wy dm sv mu qq) [.int p1] (t_X2_requireCell hl0 (by omega)) rfl rfl (cwV 1 C.ts gX2_signal_X2_requireCell rfl rfl rfl (by decide +kernel) ⟨Nat.le_of_ble_eq_true rfl, Nat.le_of_ble_eq_true rfl⟩) rfl rfl rfl rfl (Nat.le_of_ble_eq_true rfl) dX2_signal_2 ⟨Nat.le_of_ble_eq_true rfl, Nat.le_of_ble_eq_true rfl⟩ (Nat.le_of_ble_eq_true rfl) (Nat.le_of_ble_eq_true rfl) (fun _ h => ⟨fun q => h.1 q.1, h.2⟩) (fun wv1 tv1 hp1 => ?_)
  obtain ⟨hok2, rfl, rfl⟩ := hp1
  obtain ⟨kc, hlkc, rfl⟩ := hok2
  refine g_aload_n C dX2_signal_5 rfl ?_
  refine g_iload_n C dX2_signal_6 rfl ?_
  refine gx_propVI C hE hX [] ((wCo cI a b d mg pt bd tk ho ri lo fv hd lf la ++ wSo cI cW a b r2 hp rl cn be bw wo) ++ wL cI cZ cG a r nc nw cx cy ch rm on wx wy dm sv mu qq) [.int p2] (t_X2_requireWalker hl0 (by omega)) rfl rfl (cwV 1 C.ts gX2_signal_X2_requireWalker rfl rfl rfl (by decide +kernel) ⟨Nat.le_of_ble_eq_true rfl, Nat.le_of_ble_eq_true rfl⟩) rfl rfl rfl rfl (Nat.le_of_ble_eq_true rfl) dX2_signal_7 ⟨Nat.le_of_ble_eq_true rfl, Nat.le_of_ble_eq_true rfl⟩ (Nat.le_of_ble_eq_true rfl) (Nat.le_of_ble_eq_true rfl) (fun _ h => ⟨fun q => h.1 q.2, h.2⟩) (fun wv2 tv2 hp2 => ?_)
  obtain ⟨hok7, rfl, rfl⟩ := hp2
  obtain ⟨kw, hlkw, rfl⟩ := hok7
  refine g_aload_n C dX2_signal_10 rfl ?_
  refine g_get C 0 iX2_signal_X2 rfl rfl 0 (by decide) f10 rfl dX2_signal_11 ?_
  refine g_iload_n C dX2_signal_14 rfl ?_
  refine g_iload_n C dX2_signal_15 rfl ?_
  refine g_callVi C (wCo cI a b d mg pt bd tk ho ri lo fv hd lf la ++ wSo cI cW a b r2 hp rl cn be bw wo) (wL cI cZ cG a r nc nw cx cy ch rm on wx wy dm sv mu qq) [.int (nI kc), .int (nI kw)] (t_X0_signalOf (by omega) (by omega) (hg kc kw hlkc hlkw)) rfl rfl (cwV 2 C.ts gX2_signal_X0_signalOf rfl rfl rfl (by decide +kernel) ⟨Nat.le_of_ble_eq_true rfl, Nat.le_of_ble_eq_true rfl⟩) rfl rfl rfl (Nat.le_of_ble_eq_true rfl) dX2_signal_16 ⟨Nat.le_of_ble_eq_true rfl, Nat.le_of_ble_eq_true rfl⟩ (fun rv3 wv3 hp3 => ?_)
  obtain ⟨rfl, rfl⟩ := hp3
  exact gx_I (g_iret C hret dX2_signal_19 (Nat.le_of_ble_eq_true rfl) (Nat.le_of_ble_eq_true rfl) ⟨⟨⟨kc, hlkc, rfl⟩, ⟨kw, hlkw, rfl⟩⟩, (by rw [nI_clamp (by omega), nI_clamp (by omega)]), rfl⟩)
theorem iX2_quality_X0 : ∀ w ∈ u_ws RX0 TX0 13, w ∈ wsX2_quality := by decide +kernel
theorem iX2_quality_X2 : ∀ w ∈ u_ws RX2 TX2 13, w ∈ wsX2_quality := by decide +kernel
set_option maxHeartbeats 1000000 in
set_option maxRecDepth 100000 in
theorem t_X2_quality {l : Launch} (hl0 : l.stackTraces = false) {D : va_G} {cI cZ cJ cG cW : ClassId} {a b d : Nat → Nat} {mg pt bd tk ho ri lo : Int32} {fv hd lf la : Nat → Int32} {r2 : Nat → Nat} {hp rl cn be : Nat → Int32} {bw : Int32} {wo : Nat → Nat → Int32} {r : Nat → Nat} {nc nw : Nat} {cx cy ch rm on wx wy dm sv mu : Nat → Int32} {qq : Nat → Nat → Int32} {p1 p2 : Int32} (h5 : nc ≤ 5) (h6 : nw ≤ 6) (hr : ∀ c, c < nc → ¬ rm c ≤ 0) (hg : ∀ c w, c < nc → w < nw → ¬ dsq (cx c) (cy c) (wx w) (wy w) = 0) (hq : ∀ c w, c < nc → w < nw → ¬ 10 + fdi ch on (fil nc (fus rm sv dm nw) mu) (sgw cx cy wx wy w) c nc = 0) : CxI l yX2_quality wsX2_quality 7 111 4 24 D (T5 cI cZ cJ cG cW) [.ref (d 0), .int p1, .int p2] ((wCo cI a b d mg pt bd tk ho ri lo fv hd lf la ++ wSo cI cW a b r2 hp rl cn be bw wo) ++ wL cI cZ cG a r nc nw cx cy ch rm on wx wy dm sv mu qq) (fun rv wv => (IC nc p1 ∧ IC nw p2) ∧ rv = fqu cx cy ch on wx wy (fil nc (fus rm sv dm nw) mu) nc p2.toNatClampNeg p1.toNatClampNeg ∧ wv = ((wCo cI a b d mg pt bd tk ho ri lo fv hd lf la ++ wSo cI cW a b r2 hp rl cn be bw wo) ++ wL cI cZ cG a r nc nw cx cy ch rm on wx wy dm sv (fil nc (fus rm sv dm nw) mu) (fil2 nw nc (fun w c => fqu cx cy ch on wx wy (fil nc (fus rm sv dm nw) mu) nc w c) qq))) (fun Ev => ¬ (IC nc p1 ∧ IC nw p2) ∧ Ev = xIB) := by
  refine cxI_of (cc := cX2_quality) (maxL := 3) RX2 0 [some (.ref (d 0)), some (.int p1), some (.int p2)] (by decide +kernel) rfl rfl (Nat.le_of_ble_eq_true rfl) rfl (fun p_ e_ s_ m_ as_ bl_ me_ co_ C hret hE hX => ?_)
  have f10 := C.ts (.fieldLink RX2 10 "CellPlanner" "land" "LCellPlanner$Land;") (by decide +kernel)
  have f117 := C.ts (.fieldLink RX2 117 "CellPlanner$Land" "quality" "[[I") (by decide +kernel)
  refine g_aload_n C dX2_quality_0 rfl ?_
  refine g_iload_n C dX2_quality_1 rfl ?_
  refine gx_propVI C hE hX [] ((wCo cI a b d mg pt bd tk ho ri lo fv hd lf la ++ wSo cI cW a b r2 hp rl cn be bw wo) ++ wL cI cZ cG a r nc nw cx cy ch rm on wx wy dm sv mu qq) [.int p1] (t_X2_requireCell hl0 (by omega)) rfl rfl (cwV 1 C.ts gX2_quality_X2_requireCell rfl rfl rfl (by decide +kernel) ⟨Nat.le_of_ble_eq_true rfl, Nat.le_of_ble_eq_true rfl⟩) rfl rfl rfl rfl (Nat.le_of_ble_eq_true rfl) dX2_quality_2 ⟨Nat.le_of_ble_eq_true rfl, Nat.le_of_ble_eq_true rfl⟩ (Nat.le_of_ble_eq_true rfl) (Nat.le_of_ble_eq_true rfl) (fun _ h => ⟨fun q => h.1 q.1, h.2⟩) (fun wv1 tv1 hp1 => ?_)
  obtain ⟨hok2, rfl, rfl⟩ := hp1
  obtain ⟨kc, hlkc, rfl⟩ := hok2
  refine g_aload_n C dX2_quality_5 rfl ?_
  refine g_iload_n C dX2_quality_6 rfl ?_
  refine gx_propVI C hE hX [] ((wCo cI a b d mg pt bd tk ho ri lo fv hd lf la ++ wSo cI cW a b r2 hp rl cn be bw wo) ++ wL cI cZ cG a r nc nw cx cy ch rm on wx wy dm sv mu qq) [.int p2] (t_X2_requireWalker hl0 (by omega)) rfl rfl (cwV 1 C.ts gX2_quality_X2_requireWalker rfl rfl rfl (by decide +kernel) ⟨Nat.le_of_ble_eq_true rfl, Nat.le_of_ble_eq_true rfl⟩) rfl rfl rfl rfl (Nat.le_of_ble_eq_true rfl) dX2_quality_7 ⟨Nat.le_of_ble_eq_true rfl, Nat.le_of_ble_eq_true rfl⟩ (Nat.le_of_ble_eq_true rfl) (Nat.le_of_ble_eq_true rfl) (fun _ h => ⟨fun q => h.1 q.2, h.2⟩) (fun wv2 tv2 hp2 => ?_)
  obtain ⟨hok7, rfl, rfl⟩ := hp2
  obtain ⟨kw, hlkw, rfl⟩ := hok7
  refine g_aload_n C dX2_quality_10 rfl ?_
  refine g_get C 0 iX2_quality_X2 rfl rfl 0 (by decide) f10 rfl dX2_quality_11 ?_
  refine g_callVv C (wCo cI a b d mg pt bd tk ho ri lo fv hd lf la ++ wSo cI cW a b r2 hp rl cn be bw wo) (wL cI cZ cG a r nc nw cx cy ch rm on wx wy dm sv mu qq) [] (t_X0_measure h5 h6 hr hg hq) rfl rfl (cwV 0 C.ts gX2_quality_X0_measure rfl rfl rfl (by decide +kernel) ⟨Nat.le_of_ble_eq_true rfl, Nat.le_of_ble_eq_true rfl⟩) rfl rfl rfl (Nat.le_of_ble_eq_true rfl) dX2_quality_14 ⟨Nat.le_of_ble_eq_true rfl, Nat.le_of_ble_eq_true rfl⟩ (fun wv3 tv3 hp3 => ?_)
  obtain ⟨rfl, rfl⟩ := hp3
  refine g_aload_n C dX2_quality_17 rfl ?_
  refine g_get C 0 iX2_quality_X2 rfl rfl 0 (by decide) f10 rfl dX2_quality_18 ?_
  refine g_get C 17 iX2_quality_X0 rfl rfl 12 (by decide) f117 rfl dX2_quality_21 ?_
  refine g_iload_n C dX2_quality_24 rfl ?_
  refine g_aald C 28 3 rfl rfl kw rfl (by omega) (by decide) (r kw) (if_pos (by omega)) dX2_quality_25 ?_
  refine g_iload_n C dX2_quality_26 rfl ?_
  refine g_iald C (29 + kw) 0 (wC_row (by omega)) rfl kc rfl (by omega) (by decide) (fqu cx cy ch on wx wy (fil nc (fus rm sv dm nw) mu) nc kw kc) (if_pos ⟨hlkw, hlkc⟩) dX2_quality_27 ?_
  exact gx_I (g_iret C hret dX2_quality_28 (Nat.le_of_ble_eq_true rfl) (Nat.le_of_ble_eq_true rfl) ⟨⟨⟨kc, hlkc, rfl⟩, ⟨kw, hlkw, rfl⟩⟩, (by rw [nI_clamp (by omega), nI_clamp (by omega)]), rfl⟩)
theorem iX2_tune_X0 : ∀ w ∈ u_ws RX0 TX0 13, w ∈ wsX2_tune := by decide +kernel
theorem iX2_tune_X2 : ∀ w ∈ u_ws RX2 TX2 13, w ∈ wsX2_tune := by decide +kernel
set_option maxHeartbeats 1000000 in
set_option maxRecDepth 100000 in
theorem t_X2_tune {l : Launch} (hl0 : l.stackTraces = false) {D : va_G} {cI cZ cJ cG cW : ClassId} {a b d : Nat → Nat} {mg pt bd tk ho ri lo : Int32} {fv hd lf la : Nat → Int32} {r2 : Nat → Nat} {hp rl cn be : Nat → Int32} {bw : Int32} {wo : Nat → Nat → Int32} {r : Nat → Nat} {nc nw : Nat} {cx cy ch rm on wx wy dm sv mu : Nat → Int32} {qq : Nat → Nat → Int32} {p1 p2 : Int32} (h5 : nc ≤ 5) : CxI l yX2_tune wsX2_tune 7 113 4 24 D (T5 cI cZ cJ cG cW) [.ref (d 0), .int p1, .int p2] ((wCo cI a b d mg pt bd tk ho ri lo fv hd lf la ++ wSo cI cW a b r2 hp rl cn be bw wo) ++ wL cI cZ cG a r nc nw cx cy ch rm on wx wy dm sv mu qq) (fun rv wv => (IC nc p1 ∧ (0 ≤ p2 ∧ p2 ≤ 2)) ∧ rv = ch p1.toNatClampNeg ∧ wv = ((wCo cI a b d mg pt bd tk ho ri lo fv hd lf la ++ wSo cI cW a b r2 hp rl cn be bw wo) ++ wL cI cZ cG a r nc nw cx cy (upd ch p1.toNatClampNeg p2) rm on wx wy dm sv mu qq)) (fun Ev => (¬ IC nc p1 ∧ Ev = xIB) ∨ (IC nc p1 ∧ ¬ (0 ≤ p2 ∧ p2 ≤ 2) ∧ Ev = xIA)) := by
  refine cxI_of (cc := cX2_tune) (maxL := 4) RX2 1 [some (.ref (d 0)), some (.int p1), some (.int p2), none] (by decide +kernel) rfl rfl (Nat.le_of_ble_eq_true rfl) rfl (fun p_ e_ s_ m_ as_ bl_ me_ co_ C hret hE hX => ?_)
  have f10 := C.ts (.fieldLink RX2 10 "CellPlanner" "land" "LCellPlanner$Land;") (by decide +kernel)
  have f77 := C.ts (.fieldLink RX2 77 "CellPlanner$Land" "channel" "[I") (by decide +kernel)
  refine g_aload_n C dX2_tune_0 rfl ?_
  refine g_iload_n C dX2_tune_1 rfl ?_
  refine gx_propVI C hE hX [] ((wCo cI a b d mg pt bd tk ho ri lo fv hd lf la ++ wSo cI cW a b r2 hp rl cn be bw wo) ++ wL cI cZ cG a r nc nw cx cy ch rm on wx wy dm sv mu qq) [.int p1] (t_X2_requireCell hl0 (by omega)) rfl rfl (cwV 1 C.ts gX2_tune_X2_requireCell rfl rfl rfl (by decide +kernel) ⟨Nat.le_of_ble_eq_true rfl, Nat.le_of_ble_eq_true rfl⟩) rfl rfl rfl rfl (Nat.le_of_ble_eq_true rfl) dX2_tune_2 ⟨Nat.le_of_ble_eq_true rfl, Nat.le_of_ble_eq_true rfl⟩ (Nat.le_of_ble_eq_true rfl) (Nat.le_of_ble_eq_true rfl) (fun _ h => Or.inl h) (fun wv1 tv1 hp1 => ?_)
  obtain ⟨hok2, rfl, rfl⟩ := hp1
  obtain ⟨kc, hlkc, rfl⟩ := hok2
  refine g_iload_n C dX2_tune_5 rfl ?_
  refine g_i2l C p2.toInt64 dX2_tune_6 rfl ?_
  refine g_iconst C 0 dX2_tune_7 (by decide +kernel) ?_
  refine g_iconst C 2 dX2_tune_8 (by decide +kernel) ?_
  refine gx_propSI C hE hX ((wCo cI a b d mg pt bd tk ho ri lo fv hd lf la ++ wSo cI cW a b r2 hp rl cn be bw wo) ++ wL cI cZ cG a r nc nw cx cy ch rm on wx wy dm sv mu qq) [] [.long p2.toInt64, .int 0, .int 2] (t_X2_requireRange hl0) (va_cwS 3 C.ts gX2_tune_X2_requireRange rfl rfl rfl (by decide +kernel) ⟨Nat.le_of_ble_eq_true rfl, Nat.le_of_ble_eq_true rfl⟩) rfl (List.append_nil _).symm (List.append_nil _) rfl (Nat.le_of_ble_eq_true rfl) dX2_tune_9 ⟨Nat.le_of_ble_eq_true rfl, Nat.le_of_ble_eq_true rfl⟩ (Nat.le_of_ble_eq_true rfl) (Nat.le_of_ble_eq_true rfl) (fun _ h => Or.inr ⟨⟨kc, hlkc, rfl⟩, fun q => h.1 (rng_i.mpr q), h.2⟩) (fun wv2 tv2 hp2 => ?_)
  obtain ⟨hok9, rfl, rfl⟩ := hp2
  refine g_w (ws' := ((wCo cI a b d mg pt bd tk ho ri lo fv hd lf la ++ wSo cI cW a b r2 hp rl cn be bw wo) ++ wL cI cZ cG a r nc nw cx cy ch rm on wx wy dm sv mu qq)) (List.append_nil _) ?_
  refine g_aload_n C dX2_tune_12 rfl ?_
  refine g_get C 0 iX2_tune_X2 rfl rfl 0 (by decide) f10 rfl dX2_tune_13 ?_
  refine g_get C 17 iX2_tune_X0 rfl rfl 2 (by decide) f77 rfl dX2_tune_16 ?_
  refine g_iload_n C dX2_tune_19 rfl ?_
  refine g_iald C 20 0 rfl rfl kc rfl (by omega) (by decide) (ch kc) rfl dX2_tune_20 ?_
  refine g_istore_n C [some (.ref (d 0)), some (.int (nI kc)), some (.int p2), some (.int (ch kc))] dX2_tune_21 (by decide) rfl rfl ?_
  refine g_aload_n C dX2_tune_22 rfl ?_
  refine g_get C 0 iX2_tune_X2 rfl rfl 0 (by decide) f10 rfl dX2_tune_23 ?_
  refine g_get C 17 iX2_tune_X0 rfl rfl 2 (by decide) f77 rfl dX2_tune_26 ?_
  refine g_iload_n C dX2_tune_29 rfl ?_
  refine g_iload_n C dX2_tune_30 rfl ?_
  refine g_iast C 20 0 rfl rfl kc rfl (by omega) (by decide) ((wCo cI a b d mg pt bd tk ho ri lo fv hd lf la ++ wSo cI cW a b r2 hp rl cn be bw wo) ++ wL cI cZ cG a r nc nw cx cy (upd ch kc p2) rm on wx wy dm sv mu qq) rfl dX2_tune_31 ?_
  refine g_iload_n C dX2_tune_32 rfl ?_
  exact gx_I (g_iret C hret dX2_tune_33 (Nat.le_of_ble_eq_true rfl) (Nat.le_of_ble_eq_true rfl) ⟨⟨⟨kc, hlkc, rfl⟩, rng_i.mp hok9⟩, (by rw [nI_clamp (by omega)]), (by rw [nI_clamp (by omega)] <;> rfl)⟩)
theorem iX2_margin_X2 : ∀ w ∈ u_ws RX2 TX2 13, w ∈ wsX2_margin := by decide +kernel
set_option maxHeartbeats 1000000 in
set_option maxRecDepth 100000 in
theorem t_X2_margin {l : Launch} (hl0 : l.stackTraces = false) {D : va_G} {cI cZ cJ cG cW : ClassId} {a b d : Nat → Nat} {mg pt bd tk ho ri lo : Int32} {fv hd lf la : Nat → Int32} {r2 : Nat → Nat} {hp rl cn be : Nat → Int32} {bw : Int32} {wo : Nat → Nat → Int32} {r : Nat → Nat} {nc nw : Nat} {cx cy ch rm on wx wy dm sv mu : Nat → Int32} {qq : Nat → Nat → Int32} {p1 : Int32}  : CxI l yX2_margin wsX2_margin 7 113 2 12 D (T5 cI cZ cJ cG cW) [.ref (d 0), .int p1] ((wCo cI a b d mg pt bd tk ho ri lo fv hd lf la ++ wSo cI cW a b r2 hp rl cn be bw wo) ++ wL cI cZ cG a r nc nw cx cy ch rm on wx wy dm sv mu qq) (fun rv wv => (0 ≤ p1 ∧ p1 ≤ 1000) ∧ rv = mg ∧ wv = ((wCo cI a b d p1 pt bd tk ho ri lo fv hd lf la ++ wSo cI cW a b r2 hp rl cn be bw wo) ++ wL cI cZ cG a r nc nw cx cy ch rm on wx wy dm sv mu qq)) (fun Ev => ¬ (0 ≤ p1 ∧ p1 ≤ 1000) ∧ Ev = xIA) := by
  refine cxI_of (cc := cX2_margin) (maxL := 3) RX2 1 [some (.ref (d 0)), some (.int p1), none] (by decide +kernel) rfl rfl (Nat.le_of_ble_eq_true rfl) rfl (fun p_ e_ s_ m_ as_ bl_ me_ co_ C hret hE hX => ?_)
  have f38 := C.ts (.fieldLink RX2 38 "CellPlanner" "margin" "I") (by decide +kernel)
  refine g_iload_n C dX2_margin_0 rfl ?_
  refine g_i2l C p1.toInt64 dX2_margin_1 rfl ?_
  refine g_iconst C 0 dX2_margin_2 (by decide +kernel) ?_
  refine g_sipush C 1000 dX2_margin_3 (by decide +kernel) ?_
  refine gx_propSI C hE hX ((wCo cI a b d mg pt bd tk ho ri lo fv hd lf la ++ wSo cI cW a b r2 hp rl cn be bw wo) ++ wL cI cZ cG a r nc nw cx cy ch rm on wx wy dm sv mu qq) [] [.long p1.toInt64, .int 0, .int 1000] (t_X2_requireRange hl0) (va_cwS 3 C.ts gX2_margin_X2_requireRange rfl rfl rfl (by decide +kernel) ⟨Nat.le_of_ble_eq_true rfl, Nat.le_of_ble_eq_true rfl⟩) rfl (List.append_nil _).symm (List.append_nil _) rfl (Nat.le_of_ble_eq_true rfl) dX2_margin_6 ⟨Nat.le_of_ble_eq_true rfl, Nat.le_of_ble_eq_true rfl⟩ (Nat.le_of_ble_eq_true rfl) (Nat.le_of_ble_eq_true rfl) (fun _ h => ⟨fun q => h.1 (rng_i.mpr q), h.2⟩) (fun wv1 tv1 hp1 => ?_)
  obtain ⟨hok6, rfl, rfl⟩ := hp1
  refine g_w (ws' := ((wCo cI a b d mg pt bd tk ho ri lo fv hd lf la ++ wSo cI cW a b r2 hp rl cn be bw wo) ++ wL cI cZ cG a r nc nw cx cy ch rm on wx wy dm sv mu qq)) (List.append_nil _) ?_
  refine g_aload_n C dX2_margin_9 rfl ?_
  refine g_get C 0 iX2_margin_X2 rfl rfl 6 (by decide) f38 rfl dX2_margin_10 ?_
  refine g_istore_n C [some (.ref (d 0)), some (.int p1), some (.int mg)] dX2_margin_13 (by decide) rfl rfl ?_
  refine g_aload_n C dX2_margin_14 rfl ?_
  refine g_iload_n C dX2_margin_15 rfl ?_
  refine g_put C 0 iX2_margin_X2 rfl rfl 6 (by decide) f38 rfl tyX2 tyX2_ok nmX2 (ty := .int) (by decide +kernel) rfl rfl (Nat.le_of_ble_eq_true rfl) ((wCo cI a b d p1 pt bd tk ho ri lo fv hd lf la ++ wSo cI cW a b r2 hp rl cn be bw wo) ++ wL cI cZ cG a r nc nw cx cy ch rm on wx wy dm sv mu qq) rfl dX2_margin_16 ?_
  refine g_iload_n C dX2_margin_19 rfl ?_
  exact gx_I (g_iret C hret dX2_margin_20 (Nat.le_of_ble_eq_true rfl) (Nat.le_of_ble_eq_true rfl) ⟨(rng_i.mp hok6), rfl, rfl⟩)
theorem iX2_patience_X2 : ∀ w ∈ u_ws RX2 TX2 13, w ∈ wsX2_patience := by decide +kernel
set_option maxHeartbeats 1000000 in
set_option maxRecDepth 100000 in
theorem t_X2_patience {l : Launch} (hl0 : l.stackTraces = false) {D : va_G} {cI cZ cJ cG cW : ClassId} {a b d : Nat → Nat} {mg pt bd tk ho ri lo : Int32} {fv hd lf la : Nat → Int32} {r2 : Nat → Nat} {hp rl cn be : Nat → Int32} {bw : Int32} {wo : Nat → Nat → Int32} {r : Nat → Nat} {nc nw : Nat} {cx cy ch rm on wx wy dm sv mu : Nat → Int32} {qq : Nat → Nat → Int32} {p1 : Int32}  : CxI l yX2_patience wsX2_patience 7 113 2 12 D (T5 cI cZ cJ cG cW) [.ref (d 0), .int p1] ((wCo cI a b d mg pt bd tk ho ri lo fv hd lf la ++ wSo cI cW a b r2 hp rl cn be bw wo) ++ wL cI cZ cG a r nc nw cx cy ch rm on wx wy dm sv mu qq) (fun rv wv => (1 ≤ p1 ∧ p1 ≤ 10) ∧ rv = pt ∧ wv = ((wCo cI a b d mg p1 bd tk ho ri lo fv hd lf la ++ wSo cI cW a b r2 hp rl cn be bw wo) ++ wL cI cZ cG a r nc nw cx cy ch rm on wx wy dm sv mu qq)) (fun Ev => ¬ (1 ≤ p1 ∧ p1 ≤ 10) ∧ Ev = xIA) := by
  refine cxI_of (cc := cX2_patience) (maxL := 3) RX2 1 [some (.ref (d 0)), some (.int p1), none] (by decide +kernel) rfl rfl (Nat.le_of_ble_eq_true rfl) rfl (fun p_ e_ s_ m_ as_ bl_ me_ co_ C hret hE hX => ?_)
  have f42 := C.ts (.fieldLink RX2 42 "CellPlanner" "patience" "I") (by decide +kernel)
  refine g_iload_n C dX2_patience_0 rfl ?_
  refine g_i2l C p1.toInt64 dX2_patience_1 rfl ?_
  refine g_iconst C 1 dX2_patience_2 (by decide +kernel) ?_
  refine g_bipush C 10 dX2_patience_3 (by decide +kernel) ?_
  refine gx_propSI C hE hX ((wCo cI a b d mg pt bd tk ho ri lo fv hd lf la ++ wSo cI cW a b r2 hp rl cn be bw wo) ++ wL cI cZ cG a r nc nw cx cy ch rm on wx wy dm sv mu qq) [] [.long p1.toInt64, .int 1, .int 10] (t_X2_requireRange hl0) (va_cwS 3 C.ts gX2_patience_X2_requireRange rfl rfl rfl (by decide +kernel) ⟨Nat.le_of_ble_eq_true rfl, Nat.le_of_ble_eq_true rfl⟩) rfl (List.append_nil _).symm (List.append_nil _) rfl (Nat.le_of_ble_eq_true rfl) dX2_patience_5 ⟨Nat.le_of_ble_eq_true rfl, Nat.le_of_ble_eq_true rfl⟩ (Nat.le_of_ble_eq_true rfl) (Nat.le_of_ble_eq_true rfl) (fun _ h => ⟨fun q => h.1 (rng_i.mpr q), h.2⟩) (fun wv1 tv1 hp1 => ?_)
  obtain ⟨hok5, rfl, rfl⟩ := hp1
  refine g_w (ws' := ((wCo cI a b d mg pt bd tk ho ri lo fv hd lf la ++ wSo cI cW a b r2 hp rl cn be bw wo) ++ wL cI cZ cG a r nc nw cx cy ch rm on wx wy dm sv mu qq)) (List.append_nil _) ?_
  refine g_aload_n C dX2_patience_8 rfl ?_
  refine g_get C 0 iX2_patience_X2 rfl rfl 7 (by decide) f42 rfl dX2_patience_9 ?_
  refine g_istore_n C [some (.ref (d 0)), some (.int p1), some (.int pt)] dX2_patience_12 (by decide) rfl rfl ?_
  refine g_aload_n C dX2_patience_13 rfl ?_
  refine g_iload_n C dX2_patience_14 rfl ?_
  refine g_put C 0 iX2_patience_X2 rfl rfl 7 (by decide) f42 rfl tyX2 tyX2_ok nmX2 (ty := .int) (by decide +kernel) rfl rfl (Nat.le_of_ble_eq_true rfl) ((wCo cI a b d mg p1 bd tk ho ri lo fv hd lf la ++ wSo cI cW a b r2 hp rl cn be bw wo) ++ wL cI cZ cG a r nc nw cx cy ch rm on wx wy dm sv mu qq) rfl dX2_patience_15 ?_
  refine g_iload_n C dX2_patience_18 rfl ?_
  exact gx_I (g_iret C hret dX2_patience_19 (Nat.le_of_ble_eq_true rfl) (Nat.le_of_ble_eq_true rfl) ⟨(rng_i.mp hok5), rfl, rfl⟩)
theorem iX2_bound_X2 : ∀ w ∈ u_ws RX2 TX2 13, w ∈ wsX2_bound := by decide +kernel
set_option maxHeartbeats 1000000 in
set_option maxRecDepth 100000 in
theorem t_X2_bound {l : Launch} (hl0 : l.stackTraces = false) {D : va_G} {cI cZ cJ cG cW : ClassId} {a b d : Nat → Nat} {mg pt bd tk ho ri lo : Int32} {fv hd lf la : Nat → Int32} {r2 : Nat → Nat} {hp rl cn be : Nat → Int32} {bw : Int32} {wo : Nat → Nat → Int32} {r : Nat → Nat} {nc nw : Nat} {cx cy ch rm on wx wy dm sv mu : Nat → Int32} {qq : Nat → Nat → Int32} {p1 : Int32}  : CxI l yX2_bound wsX2_bound 7 113 2 12 D (T5 cI cZ cJ cG cW) [.ref (d 0), .int p1] ((wCo cI a b d mg pt bd tk ho ri lo fv hd lf la ++ wSo cI cW a b r2 hp rl cn be bw wo) ++ wL cI cZ cG a r nc nw cx cy ch rm on wx wy dm sv mu qq) (fun rv wv => (1 ≤ p1 ∧ p1 ≤ 10000) ∧ rv = bd ∧ wv = ((wCo cI a b d mg pt p1 tk ho ri lo fv hd lf la ++ wSo cI cW a b r2 hp rl cn be bw wo) ++ wL cI cZ cG a r nc nw cx cy ch rm on wx wy dm sv mu qq)) (fun Ev => ¬ (1 ≤ p1 ∧ p1 ≤ 10000) ∧ Ev = xIA) := by
  refine cxI_of (cc := cX2_bound) (maxL := 3) RX2 1 [some (.ref (d 0)), some (.int p1), none] (by decide +kernel) rfl rfl (Nat.le_of_ble_eq_true rfl) rfl (fun p_ e_ s_ m_ as_ bl_ me_ co_ C hret hE hX => ?_)
  have f45 := C.ts (.fieldLink RX2 45 "CellPlanner" "bound" "I") (by decide +kernel)
  refine g_iload_n C dX2_bound_0 rfl ?_
  refine g_i2l C p1.toInt64 dX2_bound_1 rfl ?_
  refine g_iconst C 1 dX2_bound_2 (by decide +kernel) ?_
  refine g_sipush C 10000 dX2_bound_3 (by decide +kernel) ?_
  refine gx_propSI C hE hX ((wCo cI a b d mg pt bd tk ho ri lo fv hd lf la ++ wSo cI cW a b r2 hp rl cn be bw wo) ++ wL cI cZ cG a r nc nw cx cy ch rm on wx wy dm sv mu qq) [] [.long p1.toInt64, .int 1, .int 10000] (t_X2_requireRange hl0) (va_cwS 3 C.ts gX2_bound_X2_requireRange rfl rfl rfl (by decide +kernel) ⟨Nat.le_of_ble_eq_true rfl, Nat.le_of_ble_eq_true rfl⟩) rfl (List.append_nil _).symm (List.append_nil _) rfl (Nat.le_of_ble_eq_true rfl) dX2_bound_6 ⟨Nat.le_of_ble_eq_true rfl, Nat.le_of_ble_eq_true rfl⟩ (Nat.le_of_ble_eq_true rfl) (Nat.le_of_ble_eq_true rfl) (fun _ h => ⟨fun q => h.1 (rng_i.mpr q), h.2⟩) (fun wv1 tv1 hp1 => ?_)
  obtain ⟨hok6, rfl, rfl⟩ := hp1
  refine g_w (ws' := ((wCo cI a b d mg pt bd tk ho ri lo fv hd lf la ++ wSo cI cW a b r2 hp rl cn be bw wo) ++ wL cI cZ cG a r nc nw cx cy ch rm on wx wy dm sv mu qq)) (List.append_nil _) ?_
  refine g_aload_n C dX2_bound_9 rfl ?_
  refine g_get C 0 iX2_bound_X2 rfl rfl 8 (by decide) f45 rfl dX2_bound_10 ?_
  refine g_istore_n C [some (.ref (d 0)), some (.int p1), some (.int bd)] dX2_bound_13 (by decide) rfl rfl ?_
  refine g_aload_n C dX2_bound_14 rfl ?_
  refine g_iload_n C dX2_bound_15 rfl ?_
  refine g_put C 0 iX2_bound_X2 rfl rfl 8 (by decide) f45 rfl tyX2 tyX2_ok nmX2 (ty := .int) (by decide +kernel) rfl rfl (Nat.le_of_ble_eq_true rfl) ((wCo cI a b d mg pt p1 tk ho ri lo fv hd lf la ++ wSo cI cW a b r2 hp rl cn be bw wo) ++ wL cI cZ cG a r nc nw cx cy ch rm on wx wy dm sv mu qq) rfl dX2_bound_16 ?_
  refine g_iload_n C dX2_bound_19 rfl ?_
  exact gx_I (g_iret C hret dX2_bound_20 (Nat.le_of_ble_eq_true rfl) (Nat.le_of_ble_eq_true rfl) ⟨(rng_i.mp hok6), rfl, rfl⟩)
theorem iX2_move_X0 : ∀ w ∈ u_ws RX0 TX0 13, w ∈ wsX2_move := by decide +kernel
theorem iX2_move_X2 : ∀ w ∈ u_ws RX2 TX2 13, w ∈ wsX2_move := by decide +kernel
set_option maxHeartbeats 1000000 in
set_option maxRecDepth 100000 in
theorem t_X2_move {l : Launch} (hl0 : l.stackTraces = false) {D : va_G} {cI cZ cJ cG cW : ClassId} {a b d : Nat → Nat} {mg pt bd tk ho ri lo : Int32} {fv hd lf la : Nat → Int32} {r2 : Nat → Nat} {hp rl cn be : Nat → Int32} {bw : Int32} {wo : Nat → Nat → Int32} {r : Nat → Nat} {nc nw : Nat} {cx cy ch rm on wx wy dm sv mu : Nat → Int32} {qq : Nat → Nat → Int32} {p1 p2 p3 : Int32} (h6 : nw ≤ 6) : CxV l yX2_move wsX2_move 7 113 6 36 D (T5 cI cZ cJ cG cW) [.ref (d 0), .int p1, .int p2, .int p3] ((wCo cI a b d mg pt bd tk ho ri lo fv hd lf la ++ wSo cI cW a b r2 hp rl cn be bw wo) ++ wL cI cZ cG a r nc nw cx cy ch rm on wx wy dm sv mu qq) (fun wv tv => (IC nw p1 ∧ rng (mvx wx p1 p2) 0 63 ∧ rng (mvx wy p1 p3) 0 63) ∧ wv = ((wCo cI a b d mg pt bd tk ho ri lo fv hd lf la ++ wSo cI cW a b r2 hp rl cn be bw wo) ++ wL cI cZ cG a r nc nw cx cy ch rm on (upd wx p1.toNatClampNeg (mvx wx p1 p2).toInt32) (upd wy p1.toNatClampNeg (mvx wy p1 p3).toInt32) dm sv mu qq) ∧ tv = (T5 cI cZ cJ cG cW)) (fun Ev => (¬ IC nw p1 ∧ Ev = xIB) ∨ (IC nw p1 ∧ ¬ (rng (mvx wx p1 p2) 0 63 ∧ rng (mvx wy p1 p3) 0 63) ∧ Ev = xIA)) := by
  refine cxV_of (cc := cX2_move) (maxL := 8) RX2 4 [some (.ref (d 0)), some (.int p1), some (.int p2), some (.int p3), none, none, none, none] (by decide +kernel) rfl rfl (Nat.le_of_ble_eq_true rfl) rfl (fun p_ e_ s_ m_ as_ bl_ me_ co_ C hret hE hX => ?_)
  have f10 := C.ts (.fieldLink RX2 10 "CellPlanner" "land" "LCellPlanner$Land;") (by decide +kernel)
  have f95 := C.ts (.fieldLink RX2 95 "CellPlanner$Land" "walkerX" "[I") (by decide +kernel)
  have f98 := C.ts (.fieldLink RX2 98 "CellPlanner$Land" "walkerY" "[I") (by decide +kernel)
  refine g_aload_n C dX2_move_0 rfl ?_
  refine g_iload_n C dX2_move_1 rfl ?_
  refine gx_propVV C hE hX [] ((wCo cI a b d mg pt bd tk ho ri lo fv hd lf la ++ wSo cI cW a b r2 hp rl cn be bw wo) ++ wL cI cZ cG a r nc nw cx cy ch rm on wx wy dm sv mu qq) [.int p1] (t_X2_requireWalker hl0 (by omega)) rfl rfl (cwV 1 C.ts gX2_move_X2_requireWalker rfl rfl rfl (by decide +kernel) ⟨Nat.le_of_ble_eq_true rfl, Nat.le_of_ble_eq_true rfl⟩) rfl rfl rfl rfl (Nat.le_of_ble_eq_true rfl) dX2_move_2 ⟨Nat.le_of_ble_eq_true rfl, Nat.le_of_ble_eq_true rfl⟩ (Nat.le_of_ble_eq_true rfl) (Nat.le_of_ble_eq_true rfl) (fun _ h => Or.inl h) (fun wv1 tv1 hp1 => ?_)
  obtain ⟨hok2, rfl, rfl⟩ := hp1
  obtain ⟨kc, hlkc, rfl⟩ := hok2
  have hkl : (nI kc).toNatClampNeg = kc := nI_clamp (by omega)
  refine g_aload_n C dX2_move_5 rfl ?_
  refine g_get C 0 iX2_move_X2 rfl rfl 0 (by decide) f10 rfl dX2_move_6 ?_
  refine g_get C 17 iX2_move_X0 rfl rfl 6 (by decide) f95 rfl dX2_move_9 ?_
  refine g_iload_n C dX2_move_12 rfl ?_
  refine g_iald C 23 0 rfl rfl kc rfl (by omega) (by decide) (wx kc) rfl dX2_move_13 ?_
  refine g_i2l C ((wx kc).toInt64) dX2_move_14 rfl ?_
  refine g_iload_n C dX2_move_15 rfl ?_
  refine g_i2l C p2.toInt64 dX2_move_16 rfl ?_
  refine g_ladd C (mvx wx (nI kc) p2) dX2_move_17 (by unfold mvx; rw [hkl]) ?_
  refine g_lstore C [some (.ref (d 0)), some (.int (nI kc)), some (.int p2), some (.int p3), some (.long (mvx wx (nI kc) p2)), none, none, none] dX2_move_18 (by decide) rfl rfl ?_
  refine g_aload_n C dX2_move_20 rfl ?_
  refine g_get C 0 iX2_move_X2 rfl rfl 0 (by decide) f10 rfl dX2_move_21 ?_
  refine g_get C 17 iX2_move_X0 rfl rfl 7 (by decide) f98 rfl dX2_move_24 ?_
  refine g_iload_n C dX2_move_27 rfl ?_
  refine g_iald C 24 0 rfl rfl kc rfl (by omega) (by decide) (wy kc) rfl dX2_move_28 ?_
  refine g_i2l C ((wy kc).toInt64) dX2_move_29 rfl ?_
  refine g_iload_n C dX2_move_30 rfl ?_
  refine g_i2l C p3.toInt64 dX2_move_31 rfl ?_
  refine g_ladd C (mvx wy (nI kc) p3) dX2_move_32 (by unfold mvx; rw [hkl]) ?_
  refine g_lstore C [some (.ref (d 0)), some (.int (nI kc)), some (.int p2), some (.int p3), some (.long (mvx wx (nI kc) p2)), none, some (.long (mvx wy (nI kc) p3)), none] dX2_move_33 (by decide) rfl rfl ?_
  refine g_lload C dX2_move_35 rfl ?_
  refine g_iconst C 0 dX2_move_37 (by decide +kernel) ?_
  refine g_bipush C 63 dX2_move_38 (by decide +kernel) ?_
  refine gx_propSV C hE hX ((wCo cI a b d mg pt bd tk ho ri lo fv hd lf la ++ wSo cI cW a b r2 hp rl cn be bw wo) ++ wL cI cZ cG a r nc nw cx cy ch rm on wx wy dm sv mu qq) [] [.long (mvx wx (nI kc) p2), .int 0, .int 63] (t_X2_requireRange hl0) (va_cwS 3 C.ts gX2_move_X2_requireRange rfl rfl rfl (by decide +kernel) ⟨Nat.le_of_ble_eq_true rfl, Nat.le_of_ble_eq_true rfl⟩) rfl (List.append_nil _).symm (List.append_nil _) rfl (Nat.le_of_ble_eq_true rfl) dX2_move_40 ⟨Nat.le_of_ble_eq_true rfl, Nat.le_of_ble_eq_true rfl⟩ (Nat.le_of_ble_eq_true rfl) (Nat.le_of_ble_eq_true rfl) (fun _ h => Or.inr ⟨⟨kc, hlkc, rfl⟩, fun q => h.1 q.1, h.2⟩) (fun wv2 tv2 hp2 => ?_)
  obtain ⟨hok40, rfl, rfl⟩ := hp2
  refine g_w (ws' := ((wCo cI a b d mg pt bd tk ho ri lo fv hd lf la ++ wSo cI cW a b r2 hp rl cn be bw wo) ++ wL cI cZ cG a r nc nw cx cy ch rm on wx wy dm sv mu qq)) (List.append_nil _) ?_
  refine g_lload C dX2_move_43 rfl ?_
  refine g_iconst C 0 dX2_move_45 (by decide +kernel) ?_
  refine g_bipush C 63 dX2_move_46 (by decide +kernel) ?_
  refine gx_propSV C hE hX ((wCo cI a b d mg pt bd tk ho ri lo fv hd lf la ++ wSo cI cW a b r2 hp rl cn be bw wo) ++ wL cI cZ cG a r nc nw cx cy ch rm on wx wy dm sv mu qq) [] [.long (mvx wy (nI kc) p3), .int 0, .int 63] (t_X2_requireRange hl0) (va_cwS 3 C.ts gX2_move_X2_requireRange rfl rfl rfl (by decide +kernel) ⟨Nat.le_of_ble_eq_true rfl, Nat.le_of_ble_eq_true rfl⟩) rfl (List.append_nil _).symm (List.append_nil _) rfl (Nat.le_of_ble_eq_true rfl) dX2_move_48 ⟨Nat.le_of_ble_eq_true rfl, Nat.le_of_ble_eq_true rfl⟩ (Nat.le_of_ble_eq_true rfl) (Nat.le_of_ble_eq_true rfl) (fun _ h => Or.inr ⟨⟨kc, hlkc, rfl⟩, fun q => h.1 q.2, h.2⟩) (fun wv3 tv3 hp3 => ?_)
  obtain ⟨hok48, rfl, rfl⟩ := hp3
  refine g_w (ws' := ((wCo cI a b d mg pt bd tk ho ri lo fv hd lf la ++ wSo cI cW a b r2 hp rl cn be bw wo) ++ wL cI cZ cG a r nc nw cx cy ch rm on wx wy dm sv mu qq)) (List.append_nil _) ?_
  refine g_aload_n C dX2_move_51 rfl ?_
  refine g_get C 0 iX2_move_X2 rfl rfl 0 (by decide) f10 rfl dX2_move_52 ?_
  refine g_get C 17 iX2_move_X0 rfl rfl 6 (by decide) f95 rfl dX2_move_55 ?_
  refine g_iload_n C dX2_move_58 rfl ?_
  refine g_lload C dX2_move_59 rfl ?_
  refine g_l2i C ((mvx wx (nI kc) p2).toInt32) dX2_move_61 rfl ?_
  refine g_iast C 23 0 rfl rfl kc rfl (by omega) (by decide) ((wCo cI a b d mg pt bd tk ho ri lo fv hd lf la ++ wSo cI cW a b r2 hp rl cn be bw wo) ++ wL cI cZ cG a r nc nw cx cy ch rm on (upd wx kc ((mvx wx (nI kc) p2).toInt32)) wy dm sv mu qq) rfl dX2_move_62 ?_
  refine g_aload_n C dX2_move_63 rfl ?_
  refine g_get C 0 iX2_move_X2 rfl rfl 0 (by decide) f10 rfl dX2_move_64 ?_
  refine g_get C 17 iX2_move_X0 rfl rfl 7 (by decide) f98 rfl dX2_move_67 ?_
  refine g_iload_n C dX2_move_70 rfl ?_
  refine g_lload C dX2_move_71 rfl ?_
  refine g_l2i C ((mvx wy (nI kc) p3).toInt32) dX2_move_73 rfl ?_
  refine g_iast C 24 0 rfl rfl kc rfl (by omega) (by decide) ((wCo cI a b d mg pt bd tk ho ri lo fv hd lf la ++ wSo cI cW a b r2 hp rl cn be bw wo) ++ wL cI cZ cG a r nc nw cx cy ch rm on (upd wx kc ((mvx wx (nI kc) p2).toInt32)) (upd wy kc ((mvx wy (nI kc) p3).toInt32)) dm sv mu qq) rfl dX2_move_74 ?_
  exact gx_V (g_vret C hret dX2_move_75 (Nat.le_of_ble_eq_true rfl) (Nat.le_of_ble_eq_true rfl) ⟨⟨⟨kc, hlkc, rfl⟩, hok40, hok48⟩, (by rw [hkl] <;> rfl), rfl⟩)
theorem iX2_turn_X0 : ∀ w ∈ u_ws RX0 TX0 13, w ∈ wsX2_turn := by decide +kernel
theorem iX2_turn_X2 : ∀ w ∈ u_ws RX2 TX2 13, w ∈ wsX2_turn := by decide +kernel
set_option maxHeartbeats 1000000 in
set_option maxRecDepth 100000 in
theorem t_X2_turn {l : Launch} (hl0 : l.stackTraces = false) {D : va_G} {cI cZ cJ cG cW : ClassId} {a b d : Nat → Nat} {mg pt bd tk ho ri lo : Int32} {fv hd lf la : Nat → Int32} {r2 : Nat → Nat} {hp rl cn be : Nat → Int32} {bw : Int32} {wo : Nat → Nat → Int32} {r : Nat → Nat} {nc nw : Nat} {cx cy ch rm on wx wy dm sv mu : Nat → Int32} {qq : Nat → Nat → Int32} {p1 : Int32} (h5 : nc ≤ 5) (h6 : nw ≤ 6) : CxI l yX2_turn wsX2_turn 7 111 2 12 D (T5 cI cZ cJ cG cW) [.ref (d 0), .int p1] ((wCo cI a b d mg pt bd tk ho ri lo fv hd lf la ++ wSo cI cW a b r2 hp rl cn be bw wo) ++ wL cI cZ cG a r nc nw cx cy ch rm on wx wy dm sv mu qq) (fun rv wv => IC nc p1 ∧ rv = ftn (on p1.toNatClampNeg) ∧ wv = ((wCo cI a b d mg pt bd tk ho ri lo ((if on p1.toNatClampNeg = 0 then (sv, fv, hd) else frw p1 (sv, fv, hd) nw).2.1) ((if on p1.toNatClampNeg = 0 then (sv, fv, hd) else frw p1 (sv, fv, hd) nw).2.2) lf la ++ wSo cI cW a b r2 hp rl cn be bw wo) ++ wL cI cZ cG a r nc nw cx cy ch rm (upd on p1.toNatClampNeg (ftn (on p1.toNatClampNeg))) wx wy dm ((if on p1.toNatClampNeg = 0 then (sv, fv, hd) else frw p1 (sv, fv, hd) nw).1) mu qq)) (fun Ev => ¬ IC nc p1 ∧ Ev = xIB) := by
  refine cxI_of (cc := cX2_turn) (maxL := 2) RX2 0 [some (.ref (d 0)), some (.int p1)] (by decide +kernel) rfl rfl (Nat.le_of_ble_eq_true rfl) rfl (fun p_ e_ s_ m_ as_ bl_ me_ co_ C hret hE hX => ?_)
  have f10 := C.ts (.fieldLink RX2 10 "CellPlanner" "land" "LCellPlanner$Land;") (by decide +kernel)
  have f70 := C.ts (.fieldLink RX2 70 "CellPlanner$Land" "on" "[Z") (by decide +kernel)
  refine g_aload_n C dX2_turn_0 rfl ?_
  refine g_iload_n C dX2_turn_1 rfl ?_
  refine gx_propVI C hE hX [] ((wCo cI a b d mg pt bd tk ho ri lo fv hd lf la ++ wSo cI cW a b r2 hp rl cn be bw wo) ++ wL cI cZ cG a r nc nw cx cy ch rm on wx wy dm sv mu qq) [.int p1] (t_X2_requireCell hl0 (by omega)) rfl rfl (cwV 1 C.ts gX2_turn_X2_requireCell rfl rfl rfl (by decide +kernel) ⟨Nat.le_of_ble_eq_true rfl, Nat.le_of_ble_eq_true rfl⟩) rfl rfl rfl rfl (Nat.le_of_ble_eq_true rfl) dX2_turn_2 ⟨Nat.le_of_ble_eq_true rfl, Nat.le_of_ble_eq_true rfl⟩ (Nat.le_of_ble_eq_true rfl) (Nat.le_of_ble_eq_true rfl) (fun _ h => h) (fun wv1 tv1 hp1 => ?_)
  obtain ⟨hok2, rfl, rfl⟩ := hp1
  obtain ⟨kc, hlkc, rfl⟩ := hok2
  have hkl : (nI kc).toNatClampNeg = kc := nI_clamp (by omega)
  refine g_aload_n C dX2_turn_5 rfl ?_
  refine g_get C 0 iX2_turn_X2 rfl rfl 0 (by decide) f10 rfl dX2_turn_6 ?_
  refine g_get C 17 iX2_turn_X0 rfl rfl 4 (by decide) f70 rfl dX2_turn_9 ?_
  refine g_iload_n C dX2_turn_12 rfl ?_
  refine g_aload_n C dX2_turn_13 rfl ?_
  refine g_get C 0 iX2_turn_X2 rfl rfl 0 (by decide) f10 rfl dX2_turn_14 ?_
  refine g_get C 17 iX2_turn_X0 rfl rfl 4 (by decide) f70 rfl dX2_turn_17 ?_
  refine g_iload_n C dX2_turn_20 rfl ?_
  refine g_zald C 22 1 rfl rfl kc rfl (by omega) (by decide) (on kc) rfl dX2_turn_21 ?_
  refine g_if_ne C 29 dX2_turn_22 (by decide) (fun c_22 => ?_) (fun c_22 => ?_)
  · skip
    refine g_iconst C 0 dX2_turn_29 (by decide +kernel) ?_
    refine g_zast C 22 1 rfl rfl kc rfl (by omega) (by decide) ((wCo cI a b d mg pt bd tk ho ri lo fv hd lf la ++ wSo cI cW a b r2 hp rl cn be bw wo) ++ wL cI cZ cG a r nc nw cx cy ch rm (upd on kc 0) wx wy dm sv mu qq) rfl dX2_turn_30 ?_
    refine g_aload_n C dX2_turn_31 rfl ?_
    refine g_get C 0 iX2_turn_X2 rfl rfl 0 (by decide) f10 rfl dX2_turn_32 ?_
    refine g_get C 17 iX2_turn_X0 rfl rfl 4 (by decide) f70 rfl dX2_turn_35 ?_
    refine g_iload_n C dX2_turn_38 rfl ?_
    refine g_zald C 22 1 rfl rfl kc rfl (by omega) (by decide) 0 upd_at dX2_turn_39 ?_
    refine g_if_ne C 48 dX2_turn_40 (by decide) (fun c9 => absurd rfl c9) (fun _ => ?_)
    refine g_aload_n C dX2_turn_43 rfl ?_
    refine g_iload_n C dX2_turn_44 rfl ?_
    refine g_callVv C [] ((wCo cI a b d mg pt bd tk ho ri lo fv hd lf la ++ wSo cI cW a b r2 hp rl cn be bw wo) ++ wL cI cZ cG a r nc nw cx cy ch rm (upd on kc 0) wx wy dm sv mu qq) [.int (nI kc)] (t_X2_releaseWalkers h6) rfl rfl (cwV 1 C.ts gX2_turn_X2_releaseWalkers rfl rfl rfl (by decide +kernel) ⟨Nat.le_of_ble_eq_true rfl, Nat.le_of_ble_eq_true rfl⟩) rfl rfl rfl (Nat.le_of_ble_eq_true rfl) dX2_turn_45 ⟨Nat.le_of_ble_eq_true rfl, Nat.le_of_ble_eq_true rfl⟩ (fun wv2 tv2 hp2 => ?_)
    obtain ⟨rfl, rfl⟩ := hp2
    refine g_aload_n C dX2_turn_48 rfl ?_
    refine g_get C 0 iX2_turn_X2 rfl rfl 0 (by decide) f10 rfl dX2_turn_49 ?_
    refine g_get C 17 iX2_turn_X0 rfl rfl 4 (by decide) f70 rfl dX2_turn_52 ?_
    refine g_iload_n C dX2_turn_55 rfl ?_
    refine g_zald C 22 1 rfl rfl kc rfl (by omega) (by decide) 0 upd_at dX2_turn_56 ?_
    exact gx_I (g_zret C hret rfl dX2_turn_57 (Nat.le_of_ble_eq_true rfl) (Nat.le_of_ble_eq_true rfl) ⟨⟨kc, hlkc, rfl⟩, (by unfold ftn; rw [hkl, if_neg c_22]), (by rw [hkl, if_neg c_22]; unfold ftn; rw [if_neg c_22] <;> rfl)⟩)
  · skip
    refine g_iconst C 1 dX2_turn_25 (by decide +kernel) ?_
    refine g_goto C 30 dX2_turn_26 (by decide) ?_
    refine g_zast C 22 1 rfl rfl kc rfl (by omega) (by decide) ((wCo cI a b d mg pt bd tk ho ri lo fv hd lf la ++ wSo cI cW a b r2 hp rl cn be bw wo) ++ wL cI cZ cG a r nc nw cx cy ch rm (upd on kc 1) wx wy dm sv mu qq) rfl dX2_turn_30 ?_
    refine g_aload_n C dX2_turn_31 rfl ?_
    refine g_get C 0 iX2_turn_X2 rfl rfl 0 (by decide) f10 rfl dX2_turn_32 ?_
    refine g_get C 17 iX2_turn_X0 rfl rfl 4 (by decide) f70 rfl dX2_turn_35 ?_
    refine g_iload_n C dX2_turn_38 rfl ?_
    refine g_zald C 22 1 rfl rfl kc rfl (by omega) (by decide) 1 upd_at dX2_turn_39 ?_
    refine g_if_ne C 48 dX2_turn_40 (by decide) (fun _ => ?_) (fun c9 => absurd c9 (by decide))
    refine g_aload_n C dX2_turn_48 rfl ?_
    refine g_get C 0 iX2_turn_X2 rfl rfl 0 (by decide) f10 rfl dX2_turn_49 ?_
    refine g_get C 17 iX2_turn_X0 rfl rfl 4 (by decide) f70 rfl dX2_turn_52 ?_
    refine g_iload_n C dX2_turn_55 rfl ?_
    refine g_zald C 22 1 rfl rfl kc rfl (by omega) (by decide) 1 upd_at dX2_turn_56 ?_
    exact gx_I (g_zret C hret rfl dX2_turn_57 (Nat.le_of_ble_eq_true rfl) (Nat.le_of_ble_eq_true rfl) ⟨⟨kc, hlkc, rfl⟩, (by unfold ftn; rw [hkl, if_pos c_22]), (by rw [hkl, if_pos c_22]; unfold ftn; rw [if_pos c_22] <;> rfl)⟩)
theorem iX2_tick_X2 : ∀ w ∈ u_ws RX2 TX2 13, w ∈ wsX2_tick := by decide +kernel
set_option maxHeartbeats 1000000 in
set_option maxRecDepth 100000 in
theorem t_X2_tick {l : Launch} (hl0 : l.stackTraces = false) {D : va_G} {cI cZ cJ cG cW : ClassId} {a b d : Nat → Nat} {mg pt bd tk ho ri lo : Int32} {fv hd lf la : Nat → Int32} {r2 : Nat → Nat} {hp rl cn be : Nat → Int32} {bw : Int32} {wo : Nat → Nat → Int32} {r : Nat → Nat} {nc nw : Nat} {cx cy ch rm on wx wy dm sv mu : Nat → Int32} {qq : Nat → Nat → Int32} {p1 : Int32} (h5 : nc ≤ 5) (h6 : nw ≤ 6) (hr : ∀ c, c < nc → ¬ rm c ≤ 0) (hg : ∀ c w, c < nc → w < nw → ¬ dsq (cx c) (cy c) (wx w) (wy w) = 0) (hQ : GQ nc nw cx cy ch on wx wy rm dm) (hsv : ∀ j, j < nw → SV nc (sv j)) : CxI l yX2_tick wsX2_tick 7 131 2 12 D (T5 cI cZ cJ cG cW) [.ref (d 0), .int p1] ((wCo cI a b d mg pt bd tk ho ri lo fv hd lf la ++ wSo cI cW a b r2 hp rl cn be bw wo) ++ wL cI cZ cG a r nc nw cx cy ch rm on wx wy dm sv mu qq) (fun rv wv => (1 ≤ p1 ∧ p1 ≤ 20) ∧ rv = (fti cx cy ch on wx wy rm dm nc nw mg pt bd (tk, mu, qq, sv, fv, hd, lf, la, ho, ri, lo) p1.toNatClampNeg).2.2.2.2.2.2.2.2.1 - ho ∧ wv = ((wCo cI a b d mg pt bd ((fti cx cy ch on wx wy rm dm nc nw mg pt bd (tk, mu, qq, sv, fv, hd, lf, la, ho, ri, lo) p1.toNatClampNeg).1) ((fti cx cy ch on wx wy rm dm nc nw mg pt bd (tk, mu, qq, sv, fv, hd, lf, la, ho, ri, lo) p1.toNatClampNeg).2.2.2.2.2.2.2.2.1) ((fti cx cy ch on wx wy rm dm nc nw mg pt bd (tk, mu, qq, sv, fv, hd, lf, la, ho, ri, lo) p1.toNatClampNeg).2.2.2.2.2.2.2.2.2.1) ((fti cx cy ch on wx wy rm dm nc nw mg pt bd (tk, mu, qq, sv, fv, hd, lf, la, ho, ri, lo) p1.toNatClampNeg).2.2.2.2.2.2.2.2.2.2) ((fti cx cy ch on wx wy rm dm nc nw mg pt bd (tk, mu, qq, sv, fv, hd, lf, la, ho, ri, lo) p1.toNatClampNeg).2.2.2.2.1) ((fti cx cy ch on wx wy rm dm nc nw mg pt bd (tk, mu, qq, sv, fv, hd, lf, la, ho, ri, lo) p1.toNatClampNeg).2.2.2.2.2.1) ((fti cx cy ch on wx wy rm dm nc nw mg pt bd (tk, mu, qq, sv, fv, hd, lf, la, ho, ri, lo) p1.toNatClampNeg).2.2.2.2.2.2.1) ((fti cx cy ch on wx wy rm dm nc nw mg pt bd (tk, mu, qq, sv, fv, hd, lf, la, ho, ri, lo) p1.toNatClampNeg).2.2.2.2.2.2.2.1) ++ wSo cI cW a b r2 hp rl cn be bw wo) ++ wL cI cZ cG a r nc nw cx cy ch rm on wx wy dm ((fti cx cy ch on wx wy rm dm nc nw mg pt bd (tk, mu, qq, sv, fv, hd, lf, la, ho, ri, lo) p1.toNatClampNeg).2.2.2.1) ((fti cx cy ch on wx wy rm dm nc nw mg pt bd (tk, mu, qq, sv, fv, hd, lf, la, ho, ri, lo) p1.toNatClampNeg).2.1) ((fti cx cy ch on wx wy rm dm nc nw mg pt bd (tk, mu, qq, sv, fv, hd, lf, la, ho, ri, lo) p1.toNatClampNeg).2.2.1))) (fun Ev => ¬ (1 ≤ p1 ∧ p1 ≤ 20) ∧ Ev = xIA) := by
  refine cxI_of (cc := cX2_tick) (maxL := 4) RX2 2 [some (.ref (d 0)), some (.int p1), none, none] (by decide +kernel) rfl rfl (Nat.le_of_ble_eq_true rfl) rfl (fun p_ e_ s_ m_ as_ bl_ me_ co_ C hret hE hX => ?_)
  have f101 := C.ts (.fieldLink RX2 101 "CellPlanner" "handovers" "I") (by decide +kernel)
  refine g_iload_n C dX2_tick_0 rfl ?_
  refine g_i2l C p1.toInt64 dX2_tick_1 rfl ?_
  refine g_iconst C 1 dX2_tick_2 (by decide +kernel) ?_
  refine g_bipush C 20 dX2_tick_3 (by decide +kernel) ?_
  refine gx_propSI C hE hX ((wCo cI a b d mg pt bd tk ho ri lo fv hd lf la ++ wSo cI cW a b r2 hp rl cn be bw wo) ++ wL cI cZ cG a r nc nw cx cy ch rm on wx wy dm sv mu qq) [] [.long p1.toInt64, .int 1, .int 20] (t_X2_requireRange hl0) (va_cwS 3 C.ts gX2_tick_X2_requireRange rfl rfl rfl (by decide +kernel) ⟨Nat.le_of_ble_eq_true rfl, Nat.le_of_ble_eq_true rfl⟩) rfl (List.append_nil _).symm (List.append_nil _) rfl (Nat.le_of_ble_eq_true rfl) dX2_tick_5 ⟨Nat.le_of_ble_eq_true rfl, Nat.le_of_ble_eq_true rfl⟩ (Nat.le_of_ble_eq_true rfl) (Nat.le_of_ble_eq_true rfl) (fun _ h => ⟨fun q => h.1 (rng_i.mpr q), h.2⟩) (fun wv1 tv1 hp1 => ?_)
  obtain ⟨hok5, rfl, rfl⟩ := hp1
  refine g_w (ws' := ((wCo cI a b d mg pt bd tk ho ri lo fv hd lf la ++ wSo cI cW a b r2 hp rl cn be bw wo) ++ wL cI cZ cG a r nc nw cx cy ch rm on wx wy dm sv mu qq)) (List.append_nil _) ?_
  have hr1 := rng_i.mp hok5
  obtain ⟨T, hT, rfl⟩ := tick_T hr1
  have hTl : (nI T).toNatClampNeg = T := nI_clamp (by omega)
  refine g_aload_n C dX2_tick_8 rfl ?_
  refine g_get C 0 iX2_tick_X2 rfl rfl 10 (by decide) f101 rfl dX2_tick_9 ?_
  refine g_istore_n C [some (.ref (d 0)), some (.int (nI T)), some (.int ho), none] dX2_tick_12 (by decide) rfl rfl ?_
  refine g_iconst C 0 dX2_tick_13 (by decide +kernel) ?_
  refine g_istore_n C [some (.ref (d 0)), some (.int (nI T)), some (.int ho), some (.int 0)] dX2_tick_14 (by decide) rfl rfl ?_
  refine g_loop2 0 ((tk, mu, qq, sv, fv, hd, lf, la, ho, ri, lo)) (fun (i : Nat) (z : PS) => i ≤ T ∧ z = fti cx cy ch on wx wy rm dm nc nw mg pt bd (tk, mu, qq, sv, fv, hd, lf, la, ho, ri, lo) i ∧ ∀ j, j < nw → SV nc (z.2.2.2.1 j)) (fun (i : Nat) (z : PS) => ((wCo cI a b d mg pt bd z.1 z.2.2.2.2.2.2.2.2.1 z.2.2.2.2.2.2.2.2.2.1 z.2.2.2.2.2.2.2.2.2.2 z.2.2.2.2.1 z.2.2.2.2.2.1 z.2.2.2.2.2.2.1 z.2.2.2.2.2.2.2.1 ++ wSo cI cW a b r2 hp rl cn be bw wo) ++ wL cI cZ cG a r nc nw cx cy ch rm on wx wy dm z.2.2.2.1 z.2.1 z.2.2.1)) (fun (i : Nat) (z : PS) => [some (.ref (d 0)), some (.int (nI T)), some (.int ho), some (.int (nI i))]) (fun (i : Nat) (z : PS) => T - i) ⟨Nat.zero_le _, rfl, hsv⟩ rfl rfl (fun i z hI ih => ?_)
  obtain ⟨h1, h2, h3⟩ := hI
  refine g_iload_n C dX2_tick_15 rfl ?_
  refine g_iload_n C dX2_tick_16 rfl ?_
  refine g_icmp_ge C 30 dX2_tick_17 (by decide) (fun c_17 => ?_) (fun c_17 => ?_)
  · skip
    have c_17 : T ≤ i := (nI_leI (by omega) (by omega)).mp c_17
    refine g_aload_n C dX2_tick_30 rfl ?_
    refine g_get C 0 iX2_tick_X2 rfl rfl 10 (by decide) f101 rfl dX2_tick_31 ?_
    refine g_iload_n C dX2_tick_34 rfl ?_
    refine g_isub C (z.2.2.2.2.2.2.2.2.1 - ho) dX2_tick_35 rfl ?_
    exact gx_I (g_iret C hret dX2_tick_36 (Nat.le_of_ble_eq_true rfl) (Nat.le_of_ble_eq_true rfl) ⟨hr1, (by rw [hTl, h2, show i = T by omega]), (by rw [hTl, ← show z = fti cx cy ch on wx wy rm dm nc nw mg pt bd (tk, mu, qq, sv, fv, hd, lf, la, ho, ri, lo) T from (by rw [h2, show i = T by omega])] <;> rfl)⟩)
  · skip
    have c_17 : ¬ (T ≤ i) := fun h9 => c_17 ((nI_leI (by omega) (by omega)).mpr h9)
    refine g_aload_n C dX2_tick_20 rfl ?_
    refine g_callVv C [] ((wCo cI a b d mg pt bd z.1 z.2.2.2.2.2.2.2.2.1 z.2.2.2.2.2.2.2.2.2.1 z.2.2.2.2.2.2.2.2.2.2 z.2.2.2.2.1 z.2.2.2.2.2.1 z.2.2.2.2.2.2.1 z.2.2.2.2.2.2.2.1 ++ wSo cI cW a b r2 hp rl cn be bw wo) ++ wL cI cZ cG a r nc nw cx cy ch rm on wx wy dm z.2.2.2.1 z.2.1 z.2.2.1) [] (t_X2_passTick h5 h6 hr hg (hQ _ _) h3) rfl rfl (cwV 0 C.ts gX2_tick_X2_passTick rfl rfl rfl (by decide +kernel) ⟨Nat.le_of_ble_eq_true rfl, Nat.le_of_ble_eq_true rfl⟩) rfl rfl rfl (Nat.le_of_ble_eq_true rfl) dX2_tick_21 ⟨Nat.le_of_ble_eq_true rfl, Nat.le_of_ble_eq_true rfl⟩ (fun wv2 tv2 hp2 => ?_)
    obtain ⟨rfl, rfl⟩ := hp2
    refine g_iinc C (nI (i + 1)) [some (.ref (d 0)), some (.int (nI T)), some (.int ho), some (.int (nI (i + 1)))] dX2_tick_24 rfl (nI_1 i) (by decide) rfl rfl ?_
    refine g_goto C 15 dX2_tick_27 (by decide) ?_
    exact ih (i + 1) (fpt cx cy ch on wx wy rm dm nc nw mg pt bd z) ⟨by omega, by rw [fti, ← h2], ftw_sv nw h3⟩ (by omega)
theorem iX2_bestCell_X1 : ∀ w ∈ u_ws RX1 TX1 7, w ∈ wsX2_bestCell := by decide +kernel
theorem iX2_bestCell_X2 : ∀ w ∈ u_ws RX2 TX2 13, w ∈ wsX2_bestCell := by decide +kernel
set_option maxHeartbeats 1000000 in
set_option maxRecDepth 100000 in
theorem t_X2_bestCell {l : Launch} (hl0 : l.stackTraces = false) {D : va_G} {cI cZ cJ cG cW : ClassId} {a b d : Nat → Nat} {mg pt bd tk ho ri lo : Int32} {fv hd lf la : Nat → Int32} {r2 : Nat → Nat} {hp rl cn be : Nat → Int32} {bw : Int32} {wo : Nat → Nat → Int32} {r : Nat → Nat} {nc nw : Nat} {cx cy ch rm on wx wy dm sv mu : Nat → Int32} {qq : Nat → Nat → Int32} {p1 : Int32} (h5 : nc ≤ 5) (h6 : nw ≤ 6) (hr : ∀ c, c < nc → ¬ rm c ≤ 0) (hg : ∀ c w, c < nc → w < nw → ¬ dsq (cx c) (cy c) (wx w) (wy w) = 0) (hq : ∀ c w, c < nc → w < nw → ¬ 10 + fdi ch on (fil nc (fus rm sv dm nw) mu) (sgw cx cy wx wy w) c nc = 0) : CxI l yX2_bestCell wsX2_bestCell 12 531 2 12 D (T5 cI cZ cJ cG cW) [.ref (d 0), .int p1] ((wCo cI a b d mg pt bd tk ho ri lo fv hd lf la ++ wSo cI cW a b r2 hp rl cn be bw wo) ++ wL cI cZ cG a r nc nw cx cy ch rm on wx wy dm sv mu qq) (fun rv wv => IC nw p1 ∧ ∃ (z : S4) (P : Nat → Int32) (Y : Nat → Nat → Int32), rv = z.2.2.1 p1.toNatClampNeg ∧ wv = ((wCo cI a b d mg pt bd tk ho ri lo fv hd lf la ++ wSo cI cW a b r2 P z.1 z.2.1 z.2.2.1 z.2.2.2 Y) ++ wL cI cZ cG a r nc nw cx cy ch rm on wx wy dm sv (fil nc (fus rm sv dm nw) mu) (fil2 nw nc (fun w c => fqu cx cy ch on wx wy (fil nc (fus rm sv dm nw) mu) nc w c) qq)) ∧ GW nc nw rm on dm (fil2 nw nc (fun w c => fqu cx cy ch on wx wy (fil nc (fus rm sv dm nw) mu) nc w c) qq) bd 1000000 0 1 rl cn be P Y z) (fun Ev => ¬ IC nw p1 ∧ Ev = xIB) := by
  refine cxI_of (cc := cX2_bestCell) (maxL := 2) RX2 0 [some (.ref (d 0)), some (.int p1)] (by decide +kernel) rfl rfl (Nat.le_of_ble_eq_true rfl) rfl (fun p_ e_ s_ m_ as_ bl_ me_ co_ C hret hE hX => ?_)
  have f21 := C.ts (.fieldLink RX2 21 "CellPlanner" "search" "LCellPlanner$Search;") (by decide +kernel)
  have f45 := C.ts (.fieldLink RX2 45 "CellPlanner" "bound" "I") (by decide +kernel)
  have f141 := C.ts (.fieldLink RX2 141 "CellPlanner$Search" "best" "[I") (by decide +kernel)
  refine g_aload_n C dX2_bestCell_0 rfl ?_
  refine g_iload_n C dX2_bestCell_1 rfl ?_
  refine gx_propVI C hE hX [] ((wCo cI a b d mg pt bd tk ho ri lo fv hd lf la ++ wSo cI cW a b r2 hp rl cn be bw wo) ++ wL cI cZ cG a r nc nw cx cy ch rm on wx wy dm sv mu qq) [.int p1] (t_X2_requireWalker hl0 (by omega)) rfl rfl (cwV 1 C.ts gX2_bestCell_X2_requireWalker rfl rfl rfl (by decide +kernel) ⟨Nat.le_of_ble_eq_true rfl, Nat.le_of_ble_eq_true rfl⟩) rfl rfl rfl rfl (Nat.le_of_ble_eq_true rfl) dX2_bestCell_2 ⟨Nat.le_of_ble_eq_true rfl, Nat.le_of_ble_eq_true rfl⟩ (Nat.le_of_ble_eq_true rfl) (Nat.le_of_ble_eq_true rfl) (fun _ h => h) (fun wv1 tv1 hp1 => ?_)
  obtain ⟨hok2, rfl, rfl⟩ := hp1
  obtain ⟨kc, hlkc, rfl⟩ := hok2
  refine g_aload_n C dX2_bestCell_5 rfl ?_
  refine g_get C 0 iX2_bestCell_X2 rfl rfl 1 (by decide) f21 rfl dX2_bestCell_6 ?_
  refine g_aload_n C dX2_bestCell_9 rfl ?_
  refine g_get C 0 iX2_bestCell_X2 rfl rfl 8 (by decide) f45 rfl dX2_bestCell_10 ?_
  refine g_ldc C (v := 1000000) (C.ts _ (by decide +kernel)) dX2_bestCell_13 ?_
  refine g_iconst C 0 dX2_bestCell_15 (by decide +kernel) ?_
  refine g_iconst C 1 dX2_bestCell_16 (by decide +kernel) ?_
  refine g_callVi C (wCo cI a b d mg pt bd tk ho ri lo fv hd lf la) (wSo cI cW a b r2 hp rl cn be bw wo ++ (wL cI cZ cG a r nc nw cx cy ch rm on wx wy dm sv mu qq)) [.int bd, .int 1000000, .int 0, .int 1] (t_X1_greatestWorth h5 h6 hr hg hq) rfl rfl (cwV 4 C.ts gX2_bestCell_X1_greatestWorth rfl rfl rfl (by decide +kernel) ⟨Nat.le_of_ble_eq_true rfl, Nat.le_of_ble_eq_true rfl⟩) rfl (List.append_assoc _ _ _) rfl (Nat.le_of_ble_eq_true rfl) dX2_bestCell_17 ⟨Nat.le_of_ble_eq_true rfl, Nat.le_of_ble_eq_true rfl⟩ (fun rv2 wv2 hp2 => ?_)
  obtain ⟨z, P, Y, rfl, rfl, hz⟩ := hp2
  refine g_w (ws' := ((wCo cI a b d mg pt bd tk ho ri lo fv hd lf la ++ wSo cI cW a b r2 P z.1 z.2.1 z.2.2.1 z.2.2.2 Y) ++ wL cI cZ cG a r nc nw cx cy ch rm on wx wy dm sv (fil nc (fus rm sv dm nw) mu) (fil2 nw nc (fun w c => fqu cx cy ch on wx wy (fil nc (fus rm sv dm nw) mu) nc w c) qq))) (List.append_assoc _ _ _).symm ?_
  refine g_pop C dX2_bestCell_20 rfl ?_
  refine g_aload_n C dX2_bestCell_21 rfl ?_
  refine g_get C 0 iX2_bestCell_X2 rfl rfl 1 (by decide) f21 rfl dX2_bestCell_22 ?_
  refine g_get C 5 iX2_bestCell_X1 rfl rfl 5 (by decide) f141 rfl dX2_bestCell_25 ?_
  refine g_iload_n C dX2_bestCell_28 rfl ?_
  refine g_iald C 10 0 rfl rfl kc rfl (by omega) (by decide) (z.2.2.1 kc) rfl dX2_bestCell_29 ?_
  exact gx_I (g_iret C hret dX2_bestCell_30 (Nat.le_of_ble_eq_true rfl) (Nat.le_of_ble_eq_true rfl) ⟨⟨kc, hlkc, rfl⟩, z, P, Y, by rw [nI_clamp (by omega)], rfl, hz⟩)
end
section
/-! the reference's assignments: g says of each walker its cell, nc being none -/
def fgl (g : Nat → Nat) (dm : Nat → Int32) (c : Nat) : Nat → Int32
  | 0 => 0
  | n + 1 => if g n = c then fgl g dm c n + dm n else fgl g dm c n
def fok (on rm dm : Nat → Int32) (bd : Int32) (Q : Nat → Nat → Int32) (g : Nat → Nat) (nc : Nat) : Nat → Bool
  | 0 => true
  | n + 1 => if fok on rm dm bd Q g nc n = true then (if nc ≤ g n then true else if on (g n) = 0 then false else if Q n (g n) < bd then false else if fgl g dm (g n) (n + 1) ≤ rm (g n) then true else false) else false
theorem fok_false {on rm dm : Nat → Int32} {bd : Int32} {Q : Nat → Nat → Int32} {g : Nat → Nat} {nc i : Nat} : ∀ {n : Nat}, i ≤ n → fok on rm dm bd Q g nc i = false → fok on rm dm bd Q g nc n = false
  | 0, h, h2 => by rw [show (0 : Nat) = i by omega]; exact h2
  | n + 1, h, h2 => by
    by_cases q : i = n + 1
    · rw [← q]; exact h2
    · unfold fok
      rw [if_neg (by rw [fok_false (by omega) h2]; decide)]
/-- how many are served, the sum of their qualities, their demands -/
def fsv (g : Nat → Nat) (nc : Nat) : Nat → Int32
  | 0 => 0
  | n + 1 => if nc ≤ g n then fsv g nc n else fsv g nc n + 1
def fsu (Q : Nat → Nat → Int32) (g : Nat → Nat) (nc : Nat) : Nat → Int32
  | 0 => 0
  | n + 1 => if nc ≤ g n then fsu Q g nc n else fsu Q g nc n + Q n (g n)
def fsd (dm : Nat → Int32) (g : Nat → Nat) (nc : Nat) : Nat → Int32
  | 0 => 0
  | n + 1 => if nc ≤ g n then fsd dm g nc n else fsd dm g nc n + dm n
/-- the digits of an assignment's number: walker 0's is the first -/
def dg (nc nw N j : Nat) : Nat := N / (nc + 1) ^ (nw - 1 - j) % (nc + 1)
theorem dg_le {nc nw N j : Nat} : dg nc nw N j ≤ nc := Nat.lt_succ_iff.mp (Nat.mod_lt _ (Nat.succ_pos nc))
/-- most served, greatest sum, most demand, the best -/
abbrev AS : Type := Int32 × Int32 × Int32 × (Nat → Int32)
def fst (on rm dm : Nat → Int32) (bd : Int32) (Q : Nat → Nat → Int32) (nc nw : Nat) (g : Nat → Nat) (x : AS) : AS :=
  if fok on rm dm bd Q g nc nw = true then
    (if x.1 < fsv g nc nw then (fsv g nc nw, fsu Q g nc nw, (if fsd dm g nc nw ≤ x.2.2.1 then x.2.2.1 else fsd dm g nc nw), fil nw (fun j => nI (g j)) x.2.2.2)
     else if fsv g nc nw = x.1 then
       (if fsu Q g nc nw ≤ x.2.1 then (x.1, x.2.1, (if fsd dm g nc nw ≤ x.2.2.1 then x.2.2.1 else fsd dm g nc nw), x.2.2.2)
        else (fsv g nc nw, fsu Q g nc nw, (if fsd dm g nc nw ≤ x.2.2.1 then x.2.2.1 else fsd dm g nc nw), fil nw (fun j => nI (g j)) x.2.2.2))
     else (x.1, x.2.1, (if fsd dm g nc nw ≤ x.2.2.1 then x.2.2.1 else fsd dm g nc nw), x.2.2.2))
  else x
def fas (on rm dm : Nat → Int32) (bd : Int32) (Q : Nat → Nat → Int32) (nc nw : Nat) (b0 : Nat → Int32) : Nat → AS
  | 0 => (0, -1, 0, b0)
  | N + 1 => fst on rm dm bd Q nc nw (dg nc nw N) (fas on rm dm bd Q nc nw b0 N)
theorem fil_all {n : Nat} {f g M : Nat → Int32} {i : Nat} (h : ∀ j, M j = if j < i then f j else g j) (hi : i = n) : M = fil n f g := funext fun j => by rw [h, hi]; rfl
theorem fil_congr {n : Nat} {f f2 g : Nat → Int32} (h : ∀ j, j < n → f j = f2 j) : fil n f g = fil n f2 g := funext fun j => by
  show (if j < n then f j else g j) = if j < n then f2 j else g j
  by_cases q : j < n
  · rw [if_pos q, if_pos q, h j q]
  · rw [if_neg q, if_neg q]
theorem upd_ne {f : Nat → Int32} {i j : Nat} {x : Int32} (h : j ≠ i) : upd f i x j = f j := by simp [upd, h]
end
section
/-! making the objects -/
/-- what the makers know of the tables: the arrays' classes by their names, and the nest mate -/
def NK (cI cZ : ClassId) (U : State) : Prop := U.vm.findClass ("[" ++ FieldType.int.toString) = some cI ∧ U.vm.findClass ("[" ++ FieldType.boolean.toString) = some cZ ∧ U.vm.findClass (FieldType.array .int).toString = some cI ∧ va_AOA .int U ∧ va_Nw (.methodLinkNest RX2 9 yX0_init "CellPlanner") U
theorem NK.warm {cI cZ : ClassId} {s U : State} (hW : s.WarmedH U.vm) (h : NK cI cZ s) : NK cI cZ U := ⟨by rw [hW.alike.findClass]; exact h.1, by rw [hW.alike.findClass]; exact h.2.1, by rw [hW.alike.findClass]; exact h.2.2.1, h.2.2.2.1.moved hW.alike, h.2.2.2.2.warmM hW⟩
theorem NK.same {cI cZ : ClassId} {s U : State} (hv : U.vm = s.vm) (h : NK cI cZ s) : NK cI cZ U := ⟨by rw [hv]; exact h.1, by rw [hv]; exact h.2.1, by rw [hv]; exact h.2.2.1, h.2.2.2.1.moved (by rw [hv]; exact Vm.Alike.refl _), h.2.2.2.2.same rfl hv.symm⟩
def Bn (D : va_G) (tys : List (ClassId × FieldType)) (cI cZ : ClassId) (w : va_W) (sz : Nat) : State → Prop := fun U => Bf D tys w sz U ∧ NK cI cZ U
def CnV (l : Launch) (y : MethodName) (wds : List Cond) (fr lo mc ms : Nat) (D : va_G) (tys : List (ClassId × FieldType)) (cI cZ : ClassId) (av : List Value) (w : va_W) (post : va_W → List (ClassId × FieldType) → Prop) : Prop :=
  ∀ sz : Nat, Met l y wds { frames := fr, cells := mc, slots := ms, locals := lo } (va_Pc av (Bn D tys cI cZ w sz)) (va_Qv (fun u => post u.1 u.2) (Af D w sz) (va_A w sz)) mc ms (va_A w sz)
theorem Bn_blind {D : va_G} {tys : List (ClassId × FieldType)} {cI cZ : ClassId} {av : List Value} {w : va_W} {sz : Nat} : FrameBlind (va_Pc av (Bn D tys cI cZ w sz)) := fun a U g mk q => by
  obtain ⟨q0, ⟨q1, qP, qK, qD⟩, e1⟩ := q
  exact ⟨q0, ⟨q1, qP, va_K.moved (u := U) (U := U.calling g mk a) (Vm.Alike.refl U.vm) qK, qD⟩, e1.same rfl⟩
theorem cnV_of {l : Launch} {D : va_G} {tys : List (ClassId × FieldType)} {cI cZ : ClassId} {y : MethodName} {wds wds' : List Cond} {fr lo mc ms : Nat} {av : List Value} {w : va_W} {post : va_W → List (ClassId × FieldType) → Prop} {cc : ByteArray} {maxL : Nat} (own : String) (r : Nat) (lv0 : List (Option Value)) (hy : plainName y.cls = true) (hw : wds = Cond.code y cc maxL none :: wds') (hown : y.cls = own) (hyi : y.name = "<init>") (hlen : (lg_sl av).length ≤ maxL) (hlv : lvE av ++ List.replicate r none = lv0)
    (body : ∀ (p : Program) (e : Env) (s : State) (m : MethodId) (args : Array Value) (below : List Frame) (meth : Method) (c : Code), CX p s m args meth c cc own wds D tys (va_A w s.heap.size) maxL → meth.sig.returnType = none → meth.name = "<init>" → NK cI cZ s →
      G p l e { frames := fr, cells := mc, slots := ms, locals := lo } s m args below meth c D (va_A w s.heap.size) maxL (QV below post D w args s mc ms) 0 0 w lv0 0 []) : CnV l y wds fr lo mc ms D tys cI cZ av w post := by
  intro sz
  refine Met.ofW (cc := cc) (maxL := maxL) (ret := none) hy hw ?_
  intro p e s m args below meth c s₁ B hml hv
  obtain ⟨rfl, ⟨hsz, hP, hK, hD0⟩, hN⟩ := hv
  subst hsz
  rw [lg_entry_eq]
  exact body p e s m av.toArray below meth c ⟨B.exec, B.bytes, hml, by rw [← hown]; exact findClass_of_methodNamed B.named, atoms_spec (ws := wds) B.pre, hK, fun q h => Or.inr h, B.notSynchronized⟩ B.returns ((name_of_methodNamed B.named B.method).1.trans hyi) hN s.heap [] _ hP (hD0.self) va_S.rf (lh_entry hlen hlv)
section GN
variable {p : Program} {l : Launch} {e : Env} {R : Room} {s : State} {m : MethodId} {args : Array Value} {below : List Frame} {meth : Method} {c : Code} {Q : State → Prop} {k n : Nat}
variable {cc : ByteArray} {own : String} {Ts : List Cond} {D : va_G} {tys : List (ClassId × FieldType)} {A : Nat → Prop} {nL : Nat} {ws : va_W} {lv : List (Option Value)} {pc : Nat} {st : List Value}
theorem CX.wi (C : CX p s m args meth c cc own Ts D tys A nL) {t1 : List (ClassId × FieldType)} (h : va_K D vwCl t1 s) : CX p s m args meth c cc own Ts D t1 A nL := ⟨C.1, C.2.1, C.2.2.1, C.2.2.2.1, C.2.2.2.2.1, h, C.2.2.2.2.2.2⟩
/-- new int[6][5] -/
theorem g_mna (C : CX p s m args meth c cc own Ts D tys A nL) {cI : ClassId} {index : Nat} (hclink : (Cond.classLink own index ("[" ++ (FieldType.array .int).toString)).before args s = true) (hover : va_AOA .int s) (harr : (Cond.arrayClass .int).before args s = true) (hcy : s.vm.findClass (FieldType.array .int).toString = some cI) (hk : k + 7 ≤ R.cells) (hn : n + 36 ≤ R.slots) (hdg : decode cc pc = .ok (.multianewarray index 2, 4))
    (kk : ∀ (q : Nat) (r : Nat → Nat) (cA : ClassId), va_K D vwCl (tys ++ [(cA, .array .int)]) s → G p l e R s m args below meth c D A nL Q (k + 7) (n + 36) (ws ++ [(q, .inl (cA, 6, .inr (.inr (.inr (.inr (fun i => if i < 6 then some (r i) else none)))))), (r 0, .inl (cI, 5, .inl (fun _ => 0))), (r 1, .inl (cI, 5, .inl (fun _ => 0))), (r 2, .inl (cI, 5, .inl (fun _ => 0))), (r 3, .inl (cI, 5, .inl (fun _ => 0))), (r 4, .inl (cI, 5, .inl (fun _ => 0))), (r 5, .inl (cI, 5, .inl (fun _ => 0)))]) lv (pc + 4) (.ref q :: st)) : G p l e R s m args below meth c D A nL Q k n ws lv pc (.int 5 :: .int 6 :: st) := by
  intro H locs ls hP hD hS hl
  refine va_mna (X := ws) (L := []) (f := fun _ => .inr (0, [])) (N' := 6) (K' := 5) (z := (5, .inl (fun _ => 0))) C.1 C.2.1 C.2.2.2.1 hclink hover harr hcy C.hK (by rw [show va_pl [] (fun _ => (.inr (0, []) : va_E)) = [] from rfl, List.append_nil]; exact hP) (by rw [show va_pl [] (fun _ => (.inr (0, []) : va_E)) = [] from rfl, List.append_nil]; exact hD) hS C.hA (by decide +kernel) (by decide +kernel) (by decide +kernel) (by decide +kernel) (by decide) (by decide) (by decide) rfl rfl (by omega) (by omega) (fun c9 => by show ({ cls := c9, slots := Array.replicate 5 (Value.int 0), vm := .none } : Cell) = _; rw [arrV_new]; rfl) hdg ?_
  intro q r cA H1 hinj hnL hK1 hP1 hD1 hS1
  have e : ((ws ++ [(q, .inl (cA, 6, .inr (.inr (.inr (.inr (fun i => if i < 6 then some (r i) else none))))))]) ++ va_pl ([] ++ (List.range 6).map r) (vr_up (fun _ => (.inr (0, []) : va_E)) ((List.range 6).map r) (.inl (cI, (5, .inl (fun _ => 0)))))) = (ws ++ [(q, .inl (cA, 6, .inr (.inr (.inr (.inr (fun i => if i < 6 then some (r i) else none)))))), (r 0, .inl (cI, 5, .inl (fun _ => 0))), (r 1, .inl (cI, 5, .inl (fun _ => 0))), (r 2, .inl (cI, 5, .inl (fun _ => 0))), (r 3, .inl (cI, 5, .inl (fun _ => 0))), (r 4, .inl (cI, 5, .inl (fun _ => 0))), (r 5, .inl (cI, 5, .inl (fun _ => 0)))]) := by
    rw [List.append_assoc]
    congr 1
    have hm : ∀ i, i < 6 → vr_up (fun _ => (.inr (0, []) : va_E)) ((List.range 6).map r) (.inl (cI, (5, .inl (fun _ => 0)))) (r i) = .inl (cI, (5, .inl (fun _ => 0))) := fun i hi => vr_up_in (List.mem_map.mpr ⟨i, List.mem_range.mpr hi, rfl⟩)
    show (q, _) :: [(r 0, vr_up _ _ _ (r 0)), (r 1, vr_up _ _ _ (r 1)), (r 2, vr_up _ _ _ (r 2)), (r 3, vr_up _ _ _ (r 3)), (r 4, vr_up _ _ _ (r 4)), (r 5, vr_up _ _ _ (r 5))] = _
    rw [hm 0 (by decide), hm 1 (by decide), hm 2 (by decide), hm 3 (by decide), hm 4 (by decide), hm 5 (by decide)]
  rw [e] at hP1 hD1
  have h9 := kk q r cA hK1 H1 locs ls hP1 hD1 hS1 hl
  rw [show k + 7 = k + 1 + 6 by omega, show n + 36 = n + 6 + 6 * 5 by omega] at h9
  exact h9

theorem g_makeI (C : CX p s m args meth c cc own Ts D tys A nL) {cI cZ : ClassId} (hN : NK cI cZ s) {y : MethodName} {wds : List Cond} {fr lo mc ms index maxL nA : Nat} {bytes : ByteArray} (wr wc : va_W) {b : Nat} (As : List Value) {stk : List Value} {post : va_W → List (ClassId × FieldType) → Prop} (hM : CnV l y wds fr lo mc ms D tys cI cZ (.ref b :: As) wc post) (cw : CallB R s args own index y bytes maxL none wds { frames := fr, cells := mc, slots := ms, locals := lo } mc ms nA ∧ y.name = "<init>" ∧ (Cond.instanceMethod y).before args s = true) (hnA : As.length = nA) (hws : ws = wr ++ wc) (hst : stk = As.reverse ++ .ref b :: st) (hcat : (st.map fun v => v.category).sum ≤ 8) (hdg : decode cc pc = .ok (.invokespecial index, 3)) (hkn : k + mc ≤ R.cells ∧ n + ms ≤ R.slots)
    (kk : ∀ (w1 : va_W) (t1 : List (ClassId × FieldType)), post w1 t1 → va_K D vwCl t1 s → G p l e R s m args below meth c D A nL Q (k + mc) (n + ms) (wr ++ w1) lv (pc + 3) (st)) : G p l e R s m args below meth c D A nL Q k n ws lv pc (stk) := by
  subst hws
  subst hst
  intro H locs ls hP hD hS hl
  exact va_callv (A1 := va_A wc H.size) (va_runI (As := As) (rest := st) C.fix (hM H.size) cw ⟨Bn_blind, fun U hU hW => ⟨rfl, ⟨by rw [hU], by rw [hU]; exact ap_P hP, va_K.moved hW.alike C.hK, (ap_D hD).weaken (fun _ _ _ _ => trivial)⟩, hN.warm hW⟩⟩ rfl hnA hl.1 rfl (lv_room hcat) hdg hkn) hS (fun q _ h => ap_F hD hS C.hA q h) (ap_F hD hS C.hA) (fun u t H1 locs1 ht hvm hw hB hz1 hk1 hS1 => kk u.1 u.2 hw (va_K.moved hvm.symm hB.2.1) H1 locs1 ls (ap_join hP hD hk1 (ap_F hD hS C.hA) (ht ▸ hB.1) hB.2.2).1 (ap_join hP hD hk1 (ap_F hD hS C.hA) (ht ▸ hB.1) hB.2.2).2 hS1 hl)
theorem g_makeN (C : CX p s m args meth c cc own Ts D tys A nL) {cI cZ : ClassId} (hN : NK cI cZ s) {y : MethodName} {wds : List Cond} {fr lo mc ms index maxL nA : Nat} {bytes : ByteArray} (wr wc : va_W) {b : Nat} (As : List Value) {stk : List Value} {post : va_W → List (ClassId × FieldType) → Prop} (hM : CnV l y wds fr lo mc ms D tys cI cZ (.ref b :: As) wc post) {host : String} (cw : va_CN R s args own index y host bytes maxL none wds { frames := fr, cells := mc, slots := ms, locals := lo } mc ms nA ∧ y.name = "<init>" ∧ (Cond.instanceMethod y).before args s = true) (hnA : As.length = nA) (hws : ws = wr ++ wc) (hst : stk = As.reverse ++ .ref b :: st) (hcat : (st.map fun v => v.category).sum ≤ 8) (hdg : decode cc pc = .ok (.invokespecial index, 3)) (hkn : k + mc ≤ R.cells ∧ n + ms ≤ R.slots)
    (kk : ∀ (w1 : va_W) (t1 : List (ClassId × FieldType)), post w1 t1 → va_K D vwCl t1 s → G p l e R s m args below meth c D A nL Q (k + mc) (n + ms) (wr ++ w1) lv (pc + 3) (st)) : G p l e R s m args below meth c D A nL Q k n ws lv pc (stk) := by
  subst hws
  subst hst
  intro H locs ls hP hD hS hl
  exact va_callv (A1 := va_A wc H.size) (va_runIN (As := As) (rest := st) C.fix (hM H.size) cw ⟨Bn_blind, fun U hU hW => ⟨rfl, ⟨by rw [hU], by rw [hU]; exact ap_P hP, va_K.moved hW.alike C.hK, (ap_D hD).weaken (fun _ _ _ _ => trivial)⟩, hN.warm hW⟩⟩ rfl hnA hl.1 rfl (lv_room hcat) hdg hkn) hS (fun q _ h => ap_F hD hS C.hA q h) (ap_F hD hS C.hA) (fun u t H1 locs1 ht hvm hw hB hz1 hk1 hS1 => kk u.1 u.2 hw (va_K.moved hvm.symm hB.2.1) H1 locs1 ls (ap_join hP hD hk1 (ap_F hD hS C.hA) (ht ▸ hB.1) hB.2.2).1 (ap_join hP hD hk1 (ap_F hD hS C.hA) (ht ▸ hB.1) hB.2.2).2 hS1 hl)
theorem g_perm {ws' : va_W} (is : List Nat) (hn : va_nd is = true) (hs : is.filterMap (fun i => ws[i]?) = ws') (hs2 : is.map (fun i => ws[i]?) = ws'.map some) (kk : G p l e R s m args below meth c D A nL Q k n ws' lv pc st) : G p l e R s m args below meth c D A nL Q k n ws lv pc st :=
  fun H locs ls hP hD hS hl => kk H locs ls (hP.sub is hs) (hD.sub is hn hs2) hS hl
end GN
theorem iX0_init_X0 : ∀ w ∈ u_ws RX0 TX0 13, w ∈ wsX0_init := by decide +kernel
set_option maxHeartbeats 2000000 in
set_option maxRecDepth 100000 in
theorem t_X0_init {l : Launch} {D : va_G} {cI cZ cJ : ClassId} {a0 : Nat} : CnV l yX0_init wsX0_init 2 40 17 90 D [(cI, .int), (cZ, .boolean), (cJ, .int)] cI cZ [.ref (a0)] [(a0, .inr (0, [.null, .null, .null, .null, .null, .int 0, .null, .null, .null, .null, .int 0, .null, .null]))] (fun wv tv => ∃ (a r : Nat → Nat) (cG : ClassId), a 0 = a0 ∧ wv = wL cI cZ cG a r 0 0 (fun _ => 0) (fun _ => 0) (fun _ => 0) (fun _ => 0) (fun _ => 0) (fun _ => 0) (fun _ => 0) (fun _ => 0) (fun _ => 0) (fun _ => 0) (fun _ _ => 0) ∧ tv = [(cI, .int), (cZ, .boolean), (cJ, .int), (cG, .array .int)]) := by
  refine cnV_of (cc := cX0_init) (maxL := 1) RX0 0 [some (.ref (a0))] (by decide +kernel) rfl rfl rfl (Nat.le_of_ble_eq_true rfl) rfl (fun p_ e_ s_ m_ as_ bl_ me_ co_ C hret hini hN => ?_)
  have f9 := C.ts (.fieldLink RX0 9 "CellPlanner$Land" "cellX" "[I") (by decide +kernel)
  have f15 := C.ts (.fieldLink RX0 15 "CellPlanner$Land" "cellY" "[I") (by decide +kernel)
  have f18 := C.ts (.fieldLink RX0 18 "CellPlanner$Land" "channel" "[I") (by decide +kernel)
  have f21 := C.ts (.fieldLink RX0 21 "CellPlanner$Land" "room" "[I") (by decide +kernel)
  have f24 := C.ts (.fieldLink RX0 24 "CellPlanner$Land" "on" "[Z") (by decide +kernel)
  have f28 := C.ts (.fieldLink RX0 28 "CellPlanner$Land" "walkerX" "[I") (by decide +kernel)
  have f31 := C.ts (.fieldLink RX0 31 "CellPlanner$Land" "walkerY" "[I") (by decide +kernel)
  have f34 := C.ts (.fieldLink RX0 34 "CellPlanner$Land" "demand" "[I") (by decide +kernel)
  have f37 := C.ts (.fieldLink RX0 37 "CellPlanner$Land" "server" "[I") (by decide +kernel)
  have f40 := C.ts (.fieldLink RX0 40 "CellPlanner$Land" "measuredUse" "[I") (by decide +kernel)
  have f45 := C.ts (.fieldLink RX0 45 "CellPlanner$Land" "quality" "[[I") (by decide +kernel)
  refine g_aload_n C dX0_init_0 rfl ?_
  refine g_objInit C (C.ts _ (by decide +kernel)) (C.ts _ (by decide +kernel)) (C.ts _ (by decide +kernel)) dX0_init_1 (Nat.le_of_ble_eq_true rfl) (Nat.le_of_ble_eq_true rfl) ?_
  refine g_aload_n C dX0_init_4 rfl ?_
  refine g_iconst C 5 dX0_init_5 (by decide +kernel) ?_
  refine g_newa C (atype := .int) (ty := .int) rfl hN.1 (C.ts _ (by decide +kernel)) 5 rfl (by decide) (z := (5, .inl (fun _ => 0))) (fun _ => rfl) (by decide) (Nat.le_of_ble_eq_true rfl) (Nat.le_of_ble_eq_true rfl) dX0_init_6 (fun z1 => ?_)
  refine g_w (ws' := [(a0, .inr (0, [.null, .null, .null, .null, .null, .int 0, .null, .null, .null, .null, .int 0, .null, .null])), (z1, .inl (cI, 5, .inl (fun _ => 0)))]) rfl ?_
  refine g_putF C 0 iX0_init_X0 rfl rfl 0 (by decide) f9 rfl hini rfl tyX0 tyX0_ok nmX0 (ty := .array .int) (by decide +kernel) rfl rfl (Nat.le_of_ble_eq_true rfl) [(a0, .inr (0, [.ref (z1), .null, .null, .null, .null, .int 0, .null, .null, .null, .null, .int 0, .null, .null])), (z1, .inl (cI, 5, .inl (fun _ => 0)))] rfl dX0_init_8 ?_
  refine g_aload_n C dX0_init_11 rfl ?_
  refine g_iconst C 5 dX0_init_12 (by decide +kernel) ?_
  refine g_newa C (atype := .int) (ty := .int) rfl hN.1 (C.ts _ (by decide +kernel)) 5 rfl (by decide) (z := (5, .inl (fun _ => 0))) (fun _ => rfl) (by decide) (Nat.le_of_ble_eq_true rfl) (Nat.le_of_ble_eq_true rfl) dX0_init_13 (fun z2 => ?_)
  refine g_w (ws' := [(a0, .inr (0, [.ref (z1), .null, .null, .null, .null, .int 0, .null, .null, .null, .null, .int 0, .null, .null])), (z1, .inl (cI, 5, .inl (fun _ => 0))), (z2, .inl (cI, 5, .inl (fun _ => 0)))]) rfl ?_
  refine g_putF C 0 iX0_init_X0 rfl rfl 1 (by decide) f15 rfl hini rfl tyX0 tyX0_ok nmX0 (ty := .array .int) (by decide +kernel) rfl rfl (Nat.le_of_ble_eq_true rfl) [(a0, .inr (0, [.ref (z1), .ref (z2), .null, .null, .null, .int 0, .null, .null, .null, .null, .int 0, .null, .null])), (z1, .inl (cI, 5, .inl (fun _ => 0))), (z2, .inl (cI, 5, .inl (fun _ => 0)))] rfl dX0_init_15 ?_
  refine g_aload_n C dX0_init_18 rfl ?_
  refine g_iconst C 5 dX0_init_19 (by decide +kernel) ?_
  refine g_newa C (atype := .int) (ty := .int) rfl hN.1 (C.ts _ (by decide +kernel)) 5 rfl (by decide) (z := (5, .inl (fun _ => 0))) (fun _ => rfl) (by decide) (Nat.le_of_ble_eq_true rfl) (Nat.le_of_ble_eq_true rfl) dX0_init_20 (fun z3 => ?_)
  refine g_w (ws' := [(a0, .inr (0, [.ref (z1), .ref (z2), .null, .null, .null, .int 0, .null, .null, .null, .null, .int 0, .null, .null])), (z1, .inl (cI, 5, .inl (fun _ => 0))), (z2, .inl (cI, 5, .inl (fun _ => 0))), (z3, .inl (cI, 5, .inl (fun _ => 0)))]) rfl ?_
  refine g_putF C 0 iX0_init_X0 rfl rfl 2 (by decide) f18 rfl hini rfl tyX0 tyX0_ok nmX0 (ty := .array .int) (by decide +kernel) rfl rfl (Nat.le_of_ble_eq_true rfl) [(a0, .inr (0, [.ref (z1), .ref (z2), .ref (z3), .null, .null, .int 0, .null, .null, .null, .null, .int 0, .null, .null])), (z1, .inl (cI, 5, .inl (fun _ => 0))), (z2, .inl (cI, 5, .inl (fun _ => 0))), (z3, .inl (cI, 5, .inl (fun _ => 0)))] rfl dX0_init_22 ?_
  refine g_aload_n C dX0_init_25 rfl ?_
  refine g_iconst C 5 dX0_init_26 (by decide +kernel) ?_
  refine g_newa C (atype := .int) (ty := .int) rfl hN.1 (C.ts _ (by decide +kernel)) 5 rfl (by decide) (z := (5, .inl (fun _ => 0))) (fun _ => rfl) (by decide) (Nat.le_of_ble_eq_true rfl) (Nat.le_of_ble_eq_true rfl) dX0_init_27 (fun z4 => ?_)
  refine g_w (ws' := [(a0, .inr (0, [.ref (z1), .ref (z2), .ref (z3), .null, .null, .int 0, .null, .null, .null, .null, .int 0, .null, .null])), (z1, .inl (cI, 5, .inl (fun _ => 0))), (z2, .inl (cI, 5, .inl (fun _ => 0))), (z3, .inl (cI, 5, .inl (fun _ => 0))), (z4, .inl (cI, 5, .inl (fun _ => 0)))]) rfl ?_
  refine g_putF C 0 iX0_init_X0 rfl rfl 3 (by decide) f21 rfl hini rfl tyX0 tyX0_ok nmX0 (ty := .array .int) (by decide +kernel) rfl rfl (Nat.le_of_ble_eq_true rfl) [(a0, .inr (0, [.ref (z1), .ref (z2), .ref (z3), .ref (z4), .null, .int 0, .null, .null, .null, .null, .int 0, .null, .null])), (z1, .inl (cI, 5, .inl (fun _ => 0))), (z2, .inl (cI, 5, .inl (fun _ => 0))), (z3, .inl (cI, 5, .inl (fun _ => 0))), (z4, .inl (cI, 5, .inl (fun _ => 0)))] rfl dX0_init_29 ?_
  refine g_aload_n C dX0_init_32 rfl ?_
  refine g_iconst C 5 dX0_init_33 (by decide +kernel) ?_
  refine g_newa C (atype := .boolean) (ty := .boolean) rfl hN.2.1 (C.ts _ (by decide +kernel)) 5 rfl (by decide) (z := (5, .inl (fun _ => 0))) (fun _ => rfl) (by decide) (Nat.le_of_ble_eq_true rfl) (Nat.le_of_ble_eq_true rfl) dX0_init_34 (fun z5 => ?_)
  refine g_w (ws' := [(a0, .inr (0, [.ref (z1), .ref (z2), .ref (z3), .ref (z4), .null, .int 0, .null, .null, .null, .null, .int 0, .null, .null])), (z1, .inl (cI, 5, .inl (fun _ => 0))), (z2, .inl (cI, 5, .inl (fun _ => 0))), (z3, .inl (cI, 5, .inl (fun _ => 0))), (z4, .inl (cI, 5, .inl (fun _ => 0))), (z5, .inl (cZ, 5, .inl (fun _ => 0)))]) rfl ?_
  refine g_putF C 0 iX0_init_X0 rfl rfl 4 (by decide) f24 rfl hini rfl tyX0 tyX0_ok nmX0 (ty := .array .boolean) (by decide +kernel) rfl rfl (Nat.le_of_ble_eq_true rfl) [(a0, .inr (0, [.ref (z1), .ref (z2), .ref (z3), .ref (z4), .ref (z5), .int 0, .null, .null, .null, .null, .int 0, .null, .null])), (z1, .inl (cI, 5, .inl (fun _ => 0))), (z2, .inl (cI, 5, .inl (fun _ => 0))), (z3, .inl (cI, 5, .inl (fun _ => 0))), (z4, .inl (cI, 5, .inl (fun _ => 0))), (z5, .inl (cZ, 5, .inl (fun _ => 0)))] rfl dX0_init_36 ?_
  refine g_aload_n C dX0_init_39 rfl ?_
  refine g_bipush C 6 dX0_init_40 (by decide +kernel) ?_
  refine g_newa C (atype := .int) (ty := .int) rfl hN.1 (C.ts _ (by decide +kernel)) 6 rfl (by decide) (z := (6, .inl (fun _ => 0))) (fun _ => rfl) (by decide) (Nat.le_of_ble_eq_true rfl) (Nat.le_of_ble_eq_true rfl) dX0_init_42 (fun z6 => ?_)
  refine g_w (ws' := [(a0, .inr (0, [.ref (z1), .ref (z2), .ref (z3), .ref (z4), .ref (z5), .int 0, .null, .null, .null, .null, .int 0, .null, .null])), (z1, .inl (cI, 5, .inl (fun _ => 0))), (z2, .inl (cI, 5, .inl (fun _ => 0))), (z3, .inl (cI, 5, .inl (fun _ => 0))), (z4, .inl (cI, 5, .inl (fun _ => 0))), (z5, .inl (cZ, 5, .inl (fun _ => 0))), (z6, .inl (cI, 6, .inl (fun _ => 0)))]) rfl ?_
  refine g_putF C 0 iX0_init_X0 rfl rfl 6 (by decide) f28 rfl hini rfl tyX0 tyX0_ok nmX0 (ty := .array .int) (by decide +kernel) rfl rfl (Nat.le_of_ble_eq_true rfl) [(a0, .inr (0, [.ref (z1), .ref (z2), .ref (z3), .ref (z4), .ref (z5), .int 0, .ref (z6), .null, .null, .null, .int 0, .null, .null])), (z1, .inl (cI, 5, .inl (fun _ => 0))), (z2, .inl (cI, 5, .inl (fun _ => 0))), (z3, .inl (cI, 5, .inl (fun _ => 0))), (z4, .inl (cI, 5, .inl (fun _ => 0))), (z5, .inl (cZ, 5, .inl (fun _ => 0))), (z6, .inl (cI, 6, .inl (fun _ => 0)))] rfl dX0_init_44 ?_
  refine g_aload_n C dX0_init_47 rfl ?_
  refine g_bipush C 6 dX0_init_48 (by decide +kernel) ?_
  refine g_newa C (atype := .int) (ty := .int) rfl hN.1 (C.ts _ (by decide +kernel)) 6 rfl (by decide) (z := (6, .inl (fun _ => 0))) (fun _ => rfl) (by decide) (Nat.le_of_ble_eq_true rfl) (Nat.le_of_ble_eq_true rfl) dX0_init_50 (fun z7 => ?_)
  refine g_w (ws' := [(a0, .inr (0, [.ref (z1), .ref (z2), .ref (z3), .ref (z4), .ref (z5), .int 0, .ref (z6), .null, .null, .null, .int 0, .null, .null])), (z1, .inl (cI, 5, .inl (fun _ => 0))), (z2, .inl (cI, 5, .inl (fun _ => 0))), (z3, .inl (cI, 5, .inl (fun _ => 0))), (z4, .inl (cI, 5, .inl (fun _ => 0))), (z5, .inl (cZ, 5, .inl (fun _ => 0))), (z6, .inl (cI, 6, .inl (fun _ => 0))), (z7, .inl (cI, 6, .inl (fun _ => 0)))]) rfl ?_
  refine g_putF C 0 iX0_init_X0 rfl rfl 7 (by decide) f31 rfl hini rfl tyX0 tyX0_ok nmX0 (ty := .array .int) (by decide +kernel) rfl rfl (Nat.le_of_ble_eq_true rfl) [(a0, .inr (0, [.ref (z1), .ref (z2), .ref (z3), .ref (z4), .ref (z5), .int 0, .ref (z6), .ref (z7), .null, .null, .int 0, .null, .null])), (z1, .inl (cI, 5, .inl (fun _ => 0))), (z2, .inl (cI, 5, .inl (fun _ => 0))), (z3, .inl (cI, 5, .inl (fun _ => 0))), (z4, .inl (cI, 5, .inl (fun _ => 0))), (z5, .inl (cZ, 5, .inl (fun _ => 0))), (z6, .inl (cI, 6, .inl (fun _ => 0))), (z7, .inl (cI, 6, .inl (fun _ => 0)))] rfl dX0_init_52 ?_
  refine g_aload_n C dX0_init_55 rfl ?_
  refine g_bipush C 6 dX0_init_56 (by decide +kernel) ?_
  refine g_newa C (atype := .int) (ty := .int) rfl hN.1 (C.ts _ (by decide +kernel)) 6 rfl (by decide) (z := (6, .inl (fun _ => 0))) (fun _ => rfl) (by decide) (Nat.le_of_ble_eq_true rfl) (Nat.le_of_ble_eq_true rfl) dX0_init_58 (fun z8 => ?_)
  refine g_w (ws' := [(a0, .inr (0, [.ref (z1), .ref (z2), .ref (z3), .ref (z4), .ref (z5), .int 0, .ref (z6), .ref (z7), .null, .null, .int 0, .null, .null])), (z1, .inl (cI, 5, .inl (fun _ => 0))), (z2, .inl (cI, 5, .inl (fun _ => 0))), (z3, .inl (cI, 5, .inl (fun _ => 0))), (z4, .inl (cI, 5, .inl (fun _ => 0))), (z5, .inl (cZ, 5, .inl (fun _ => 0))), (z6, .inl (cI, 6, .inl (fun _ => 0))), (z7, .inl (cI, 6, .inl (fun _ => 0))), (z8, .inl (cI, 6, .inl (fun _ => 0)))]) rfl ?_
  refine g_putF C 0 iX0_init_X0 rfl rfl 8 (by decide) f34 rfl hini rfl tyX0 tyX0_ok nmX0 (ty := .array .int) (by decide +kernel) rfl rfl (Nat.le_of_ble_eq_true rfl) [(a0, .inr (0, [.ref (z1), .ref (z2), .ref (z3), .ref (z4), .ref (z5), .int 0, .ref (z6), .ref (z7), .ref (z8), .null, .int 0, .null, .null])), (z1, .inl (cI, 5, .inl (fun _ => 0))), (z2, .inl (cI, 5, .inl (fun _ => 0))), (z3, .inl (cI, 5, .inl (fun _ => 0))), (z4, .inl (cI, 5, .inl (fun _ => 0))), (z5, .inl (cZ, 5, .inl (fun _ => 0))), (z6, .inl (cI, 6, .inl (fun _ => 0))), (z7, .inl (cI, 6, .inl (fun _ => 0))), (z8, .inl (cI, 6, .inl (fun _ => 0)))] rfl dX0_init_60 ?_
  refine g_aload_n C dX0_init_63 rfl ?_
  refine g_bipush C 6 dX0_init_64 (by decide +kernel) ?_
  refine g_newa C (atype := .int) (ty := .int) rfl hN.1 (C.ts _ (by decide +kernel)) 6 rfl (by decide) (z := (6, .inl (fun _ => 0))) (fun _ => rfl) (by decide) (Nat.le_of_ble_eq_true rfl) (Nat.le_of_ble_eq_true rfl) dX0_init_66 (fun z9 => ?_)
  refine g_w (ws' := [(a0, .inr (0, [.ref (z1), .ref (z2), .ref (z3), .ref (z4), .ref (z5), .int 0, .ref (z6), .ref (z7), .ref (z8), .null, .int 0, .null, .null])), (z1, .inl (cI, 5, .inl (fun _ => 0))), (z2, .inl (cI, 5, .inl (fun _ => 0))), (z3, .inl (cI, 5, .inl (fun _ => 0))), (z4, .inl (cI, 5, .inl (fun _ => 0))), (z5, .inl (cZ, 5, .inl (fun _ => 0))), (z6, .inl (cI, 6, .inl (fun _ => 0))), (z7, .inl (cI, 6, .inl (fun _ => 0))), (z8, .inl (cI, 6, .inl (fun _ => 0))), (z9, .inl (cI, 6, .inl (fun _ => 0)))]) rfl ?_
  refine g_putF C 0 iX0_init_X0 rfl rfl 9 (by decide) f37 rfl hini rfl tyX0 tyX0_ok nmX0 (ty := .array .int) (by decide +kernel) rfl rfl (Nat.le_of_ble_eq_true rfl) [(a0, .inr (0, [.ref (z1), .ref (z2), .ref (z3), .ref (z4), .ref (z5), .int 0, .ref (z6), .ref (z7), .ref (z8), .ref (z9), .int 0, .null, .null])), (z1, .inl (cI, 5, .inl (fun _ => 0))), (z2, .inl (cI, 5, .inl (fun _ => 0))), (z3, .inl (cI, 5, .inl (fun _ => 0))), (z4, .inl (cI, 5, .inl (fun _ => 0))), (z5, .inl (cZ, 5, .inl (fun _ => 0))), (z6, .inl (cI, 6, .inl (fun _ => 0))), (z7, .inl (cI, 6, .inl (fun _ => 0))), (z8, .inl (cI, 6, .inl (fun _ => 0))), (z9, .inl (cI, 6, .inl (fun _ => 0)))] rfl dX0_init_68 ?_
  refine g_aload_n C dX0_init_71 rfl ?_
  refine g_iconst C 5 dX0_init_72 (by decide +kernel) ?_
  refine g_newa C (atype := .int) (ty := .int) rfl hN.1 (C.ts _ (by decide +kernel)) 5 rfl (by decide) (z := (5, .inl (fun _ => 0))) (fun _ => rfl) (by decide) (Nat.le_of_ble_eq_true rfl) (Nat.le_of_ble_eq_true rfl) dX0_init_73 (fun z10 => ?_)
  refine g_w (ws' := [(a0, .inr (0, [.ref (z1), .ref (z2), .ref (z3), .ref (z4), .ref (z5), .int 0, .ref (z6), .ref (z7), .ref (z8), .ref (z9), .int 0, .null, .null])), (z1, .inl (cI, 5, .inl (fun _ => 0))), (z2, .inl (cI, 5, .inl (fun _ => 0))), (z3, .inl (cI, 5, .inl (fun _ => 0))), (z4, .inl (cI, 5, .inl (fun _ => 0))), (z5, .inl (cZ, 5, .inl (fun _ => 0))), (z6, .inl (cI, 6, .inl (fun _ => 0))), (z7, .inl (cI, 6, .inl (fun _ => 0))), (z8, .inl (cI, 6, .inl (fun _ => 0))), (z9, .inl (cI, 6, .inl (fun _ => 0))), (z10, .inl (cI, 5, .inl (fun _ => 0)))]) rfl ?_
  refine g_putF C 0 iX0_init_X0 rfl rfl 11 (by decide) f40 rfl hini rfl tyX0 tyX0_ok nmX0 (ty := .array .int) (by decide +kernel) rfl rfl (Nat.le_of_ble_eq_true rfl) [(a0, .inr (0, [.ref (z1), .ref (z2), .ref (z3), .ref (z4), .ref (z5), .int 0, .ref (z6), .ref (z7), .ref (z8), .ref (z9), .int 0, .ref (z10), .null])), (z1, .inl (cI, 5, .inl (fun _ => 0))), (z2, .inl (cI, 5, .inl (fun _ => 0))), (z3, .inl (cI, 5, .inl (fun _ => 0))), (z4, .inl (cI, 5, .inl (fun _ => 0))), (z5, .inl (cZ, 5, .inl (fun _ => 0))), (z6, .inl (cI, 6, .inl (fun _ => 0))), (z7, .inl (cI, 6, .inl (fun _ => 0))), (z8, .inl (cI, 6, .inl (fun _ => 0))), (z9, .inl (cI, 6, .inl (fun _ => 0))), (z10, .inl (cI, 5, .inl (fun _ => 0)))] rfl dX0_init_75 ?_
  refine g_aload_n C dX0_init_78 rfl ?_
  refine g_bipush C 6 dX0_init_79 (by decide +kernel) ?_
  refine g_iconst C 5 dX0_init_81 (by decide +kernel) ?_
  refine g_mna C (C.ts _ (by decide +kernel)) hN.2.2.2.1 (C.ts _ (by decide +kernel)) hN.2.2.1 (Nat.le_of_ble_eq_true rfl) (Nat.le_of_ble_eq_true rfl) dX0_init_82 (fun z11 r11 cA11 hK11 => ?_)
  have C11 := C.wi hK11
  refine g_w (ws' := [(a0, .inr (0, [.ref (z1), .ref (z2), .ref (z3), .ref (z4), .ref (z5), .int 0, .ref (z6), .ref (z7), .ref (z8), .ref (z9), .int 0, .ref (z10), .null])), (z1, .inl (cI, 5, .inl (fun _ => 0))), (z2, .inl (cI, 5, .inl (fun _ => 0))), (z3, .inl (cI, 5, .inl (fun _ => 0))), (z4, .inl (cI, 5, .inl (fun _ => 0))), (z5, .inl (cZ, 5, .inl (fun _ => 0))), (z6, .inl (cI, 6, .inl (fun _ => 0))), (z7, .inl (cI, 6, .inl (fun _ => 0))), (z8, .inl (cI, 6, .inl (fun _ => 0))), (z9, .inl (cI, 6, .inl (fun _ => 0))), (z10, .inl (cI, 5, .inl (fun _ => 0))), (z11, .inl (cA11, 6, .inr (.inr (.inr (.inr (fun i => if i < 6 then some (r11 i) else none)))))), (r11 0, .inl (cI, 5, .inl (fun _ => 0))), (r11 1, .inl (cI, 5, .inl (fun _ => 0))), (r11 2, .inl (cI, 5, .inl (fun _ => 0))), (r11 3, .inl (cI, 5, .inl (fun _ => 0))), (r11 4, .inl (cI, 5, .inl (fun _ => 0))), (r11 5, .inl (cI, 5, .inl (fun _ => 0)))]) rfl ?_
  refine g_putF C11 0 iX0_init_X0 rfl rfl 12 (by decide) f45 rfl hini rfl tyX0 tyX0_ok nmX0 (ty := .array (.array .int)) (by decide +kernel) rfl rfl (Nat.le_of_ble_eq_true rfl) [(a0, .inr (0, [.ref (z1), .ref (z2), .ref (z3), .ref (z4), .ref (z5), .int 0, .ref (z6), .ref (z7), .ref (z8), .ref (z9), .int 0, .ref (z10), .ref (z11)])), (z1, .inl (cI, 5, .inl (fun _ => 0))), (z2, .inl (cI, 5, .inl (fun _ => 0))), (z3, .inl (cI, 5, .inl (fun _ => 0))), (z4, .inl (cI, 5, .inl (fun _ => 0))), (z5, .inl (cZ, 5, .inl (fun _ => 0))), (z6, .inl (cI, 6, .inl (fun _ => 0))), (z7, .inl (cI, 6, .inl (fun _ => 0))), (z8, .inl (cI, 6, .inl (fun _ => 0))), (z9, .inl (cI, 6, .inl (fun _ => 0))), (z10, .inl (cI, 5, .inl (fun _ => 0))), (z11, .inl (cA11, 6, .inr (.inr (.inr (.inr (fun i => if i < 6 then some (r11 i) else none)))))), (r11 0, .inl (cI, 5, .inl (fun _ => 0))), (r11 1, .inl (cI, 5, .inl (fun _ => 0))), (r11 2, .inl (cI, 5, .inl (fun _ => 0))), (r11 3, .inl (cI, 5, .inl (fun _ => 0))), (r11 4, .inl (cI, 5, .inl (fun _ => 0))), (r11 5, .inl (cI, 5, .inl (fun _ => 0)))] rfl dX0_init_86 ?_
  exact g_vret C11 hret dX0_init_89 (Nat.le_of_ble_eq_true rfl) (Nat.le_of_ble_eq_true rfl) ⟨(fun i => [a0, z1, z2, z3, z4, z5, z6, z7, z8, z9, z10, z11].getD i 0), r11, cA11, rfl, rfl, rfl⟩
theorem iX1_init_X1 : ∀ w ∈ u_ws RX1 TX1 7, w ∈ wsX1_init := by decide +kernel
set_option maxHeartbeats 2000000 in
set_option maxRecDepth 100000 in
theorem t_X1_init {l : Launch} {D : va_G} {cI cZ cJ : ClassId} {cG : ClassId} {b0 a0 : Nat} : CnV l yX1_init wsX1_init 2 40 11 60 D [(cI, .int), (cZ, .boolean), (cJ, .int), (cG, .array .int)] cI cZ [.ref (b0), .ref (a0)] [(b0, .inr (1, [.null, .null, .null, .null, .null, .null, .int 0]))] (fun wv tv => ∃ (b r2 : Nat → Nat) (cW : ClassId), b 0 = b0 ∧ (∃ wv2 : va_W, wv = wv2 ∧ wv2 = [(b 0, .inr (1, [.ref a0, .ref (b 1), .ref (b 2), .ref (b 3), .ref (b 4), .ref (b 5), .int 0])), (b 1, .inl (cW, 6, .inr (.inr (.inr (.inr (fun i => if i < 6 then some (r2 i) else none)))))), (r2 0, .inl (cI, 5, .inl (fun _ => 0))), (r2 1, .inl (cI, 5, .inl (fun _ => 0))), (r2 2, .inl (cI, 5, .inl (fun _ => 0))), (r2 3, .inl (cI, 5, .inl (fun _ => 0))), (r2 4, .inl (cI, 5, .inl (fun _ => 0))), (r2 5, .inl (cI, 5, .inl (fun _ => 0))), (b 2, .inl (cI, 7, .inl (fun _ => 0))), (b 3, .inl (cI, 5, .inl (fun _ => 0))), (b 4, .inl (cI, 6, .inl (fun _ => 0))), (b 5, .inl (cI, 6, .inl (fun _ => 0)))]) ∧ tv = [(cI, .int), (cZ, .boolean), (cJ, .int), (cG, .array .int), (cW, .array .int)]) := by
  refine cnV_of (cc := cX1_init) (maxL := 2) RX1 0 [some (.ref (b0)), some (.ref (a0))] (by decide +kernel) rfl rfl rfl (Nat.le_of_ble_eq_true rfl) rfl (fun p_ e_ s_ m_ as_ bl_ me_ co_ C hret hini hN => ?_)
  have f11 := C.ts (.fieldLink RX1 11 "CellPlanner$Search" "worth" "[[I") (by decide +kernel)
  have f16 := C.ts (.fieldLink RX1 16 "CellPlanner$Search" "hope" "[I") (by decide +kernel)
  have f20 := C.ts (.fieldLink RX1 20 "CellPlanner$Search" "roomLeft" "[I") (by decide +kernel)
  have f23 := C.ts (.fieldLink RX1 23 "CellPlanner$Search" "chosen" "[I") (by decide +kernel)
  have f26 := C.ts (.fieldLink RX1 26 "CellPlanner$Search" "best" "[I") (by decide +kernel)
  have f29 := C.ts (.fieldLink RX1 29 "CellPlanner$Search" "land" "LCellPlanner$Land;") (by decide +kernel)
  refine g_aload_n C dX1_init_0 rfl ?_
  refine g_objInit C (C.ts _ (by decide +kernel)) (C.ts _ (by decide +kernel)) (C.ts _ (by decide +kernel)) dX1_init_1 (Nat.le_of_ble_eq_true rfl) (Nat.le_of_ble_eq_true rfl) ?_
  refine g_aload_n C dX1_init_4 rfl ?_
  refine g_bipush C 6 dX1_init_5 (by decide +kernel) ?_
  refine g_iconst C 5 dX1_init_7 (by decide +kernel) ?_
  refine g_mna C (C.ts _ (by decide +kernel)) hN.2.2.2.1 (C.ts _ (by decide +kernel)) hN.2.2.1 (Nat.le_of_ble_eq_true rfl) (Nat.le_of_ble_eq_true rfl) dX1_init_8 (fun z1 r1 cA1 hK1 => ?_)
  have C1 := C.wi hK1
  refine g_w (ws' := [(b0, .inr (1, [.null, .null, .null, .null, .null, .null, .int 0])), (z1, .inl (cA1, 6, .inr (.inr (.inr (.inr (fun i => if i < 6 then some (r1 i) else none)))))), (r1 0, .inl (cI, 5, .inl (fun _ => 0))), (r1 1, .inl (cI, 5, .inl (fun _ => 0))), (r1 2, .inl (cI, 5, .inl (fun _ => 0))), (r1 3, .inl (cI, 5, .inl (fun _ => 0))), (r1 4, .inl (cI, 5, .inl (fun _ => 0))), (r1 5, .inl (cI, 5, .inl (fun _ => 0)))]) rfl ?_
  refine g_putF C1 0 iX1_init_X1 rfl rfl 1 (by decide) f11 rfl hini rfl tyX1 tyX1_ok nmX1 (ty := .array (.array .int)) (by decide +kernel) rfl rfl (Nat.le_of_ble_eq_true rfl) [(b0, .inr (1, [.null, .ref (z1), .null, .null, .null, .null, .int 0])), (z1, .inl (cA1, 6, .inr (.inr (.inr (.inr (fun i => if i < 6 then some (r1 i) else none)))))), (r1 0, .inl (cI, 5, .inl (fun _ => 0))), (r1 1, .inl (cI, 5, .inl (fun _ => 0))), (r1 2, .inl (cI, 5, .inl (fun _ => 0))), (r1 3, .inl (cI, 5, .inl (fun _ => 0))), (r1 4, .inl (cI, 5, .inl (fun _ => 0))), (r1 5, .inl (cI, 5, .inl (fun _ => 0)))] rfl dX1_init_12 ?_
  refine g_aload_n C1 dX1_init_15 rfl ?_
  refine g_bipush C1 7 dX1_init_16 (by decide +kernel) ?_
  refine g_newa C1 (atype := .int) (ty := .int) rfl hN.1 (C1.ts _ (by decide +kernel)) 7 rfl (by decide) (z := (7, .inl (fun _ => 0))) (fun _ => rfl) (by decide) (Nat.le_of_ble_eq_true rfl) (Nat.le_of_ble_eq_true rfl) dX1_init_18 (fun z2 => ?_)
  refine g_w (ws' := [(b0, .inr (1, [.null, .ref (z1), .null, .null, .null, .null, .int 0])), (z1, .inl (cA1, 6, .inr (.inr (.inr (.inr (fun i => if i < 6 then some (r1 i) else none)))))), (r1 0, .inl (cI, 5, .inl (fun _ => 0))), (r1 1, .inl (cI, 5, .inl (fun _ => 0))), (r1 2, .inl (cI, 5, .inl (fun _ => 0))), (r1 3, .inl (cI, 5, .inl (fun _ => 0))), (r1 4, .inl (cI, 5, .inl (fun _ => 0))), (r1 5, .inl (cI, 5, .inl (fun _ => 0))), (z2, .inl (cI, 7, .inl (fun _ => 0)))]) rfl ?_
  refine g_putF C1 0 iX1_init_X1 rfl rfl 2 (by decide) f16 rfl hini rfl tyX1 tyX1_ok nmX1 (ty := .array .int) (by decide +kernel) rfl rfl (Nat.le_of_ble_eq_true rfl) [(b0, .inr (1, [.null, .ref (z1), .ref (z2), .null, .null, .null, .int 0])), (z1, .inl (cA1, 6, .inr (.inr (.inr (.inr (fun i => if i < 6 then some (r1 i) else none)))))), (r1 0, .inl (cI, 5, .inl (fun _ => 0))), (r1 1, .inl (cI, 5, .inl (fun _ => 0))), (r1 2, .inl (cI, 5, .inl (fun _ => 0))), (r1 3, .inl (cI, 5, .inl (fun _ => 0))), (r1 4, .inl (cI, 5, .inl (fun _ => 0))), (r1 5, .inl (cI, 5, .inl (fun _ => 0))), (z2, .inl (cI, 7, .inl (fun _ => 0)))] rfl dX1_init_20 ?_
  refine g_aload_n C1 dX1_init_23 rfl ?_
  refine g_iconst C1 5 dX1_init_24 (by decide +kernel) ?_
  refine g_newa C1 (atype := .int) (ty := .int) rfl hN.1 (C1.ts _ (by decide +kernel)) 5 rfl (by decide) (z := (5, .inl (fun _ => 0))) (fun _ => rfl) (by decide) (Nat.le_of_ble_eq_true rfl) (Nat.le_of_ble_eq_true rfl) dX1_init_25 (fun z3 => ?_)
  refine g_w (ws' := [(b0, .inr (1, [.null, .ref (z1), .ref (z2), .null, .null, .null, .int 0])), (z1, .inl (cA1, 6, .inr (.inr (.inr (.inr (fun i => if i < 6 then some (r1 i) else none)))))), (r1 0, .inl (cI, 5, .inl (fun _ => 0))), (r1 1, .inl (cI, 5, .inl (fun _ => 0))), (r1 2, .inl (cI, 5, .inl (fun _ => 0))), (r1 3, .inl (cI, 5, .inl (fun _ => 0))), (r1 4, .inl (cI, 5, .inl (fun _ => 0))), (r1 5, .inl (cI, 5, .inl (fun _ => 0))), (z2, .inl (cI, 7, .inl (fun _ => 0))), (z3, .inl (cI, 5, .inl (fun _ => 0)))]) rfl ?_
  refine g_putF C1 0 iX1_init_X1 rfl rfl 3 (by decide) f20 rfl hini rfl tyX1 tyX1_ok nmX1 (ty := .array .int) (by decide +kernel) rfl rfl (Nat.le_of_ble_eq_true rfl) [(b0, .inr (1, [.null, .ref (z1), .ref (z2), .ref (z3), .null, .null, .int 0])), (z1, .inl (cA1, 6, .inr (.inr (.inr (.inr (fun i => if i < 6 then some (r1 i) else none)))))), (r1 0, .inl (cI, 5, .inl (fun _ => 0))), (r1 1, .inl (cI, 5, .inl (fun _ => 0))), (r1 2, .inl (cI, 5, .inl (fun _ => 0))), (r1 3, .inl (cI, 5, .inl (fun _ => 0))), (r1 4, .inl (cI, 5, .inl (fun _ => 0))), (r1 5, .inl (cI, 5, .inl (fun _ => 0))), (z2, .inl (cI, 7, .inl (fun _ => 0))), (z3, .inl (cI, 5, .inl (fun _ => 0)))] rfl dX1_init_27 ?_
  refine g_aload_n C1 dX1_init_30 rfl ?_
  refine g_bipush C1 6 dX1_init_31 (by decide +kernel) ?_
  refine g_newa C1 (atype := .int) (ty := .int) rfl hN.1 (C1.ts _ (by decide +kernel)) 6 rfl (by decide) (z := (6, .inl (fun _ => 0))) (fun _ => rfl) (by decide) (Nat.le_of_ble_eq_true rfl) (Nat.le_of_ble_eq_true rfl) dX1_init_33 (fun z4 => ?_)
  refine g_w (ws' := [(b0, .inr (1, [.null, .ref (z1), .ref (z2), .ref (z3), .null, .null, .int 0])), (z1, .inl (cA1, 6, .inr (.inr (.inr (.inr (fun i => if i < 6 then some (r1 i) else none)))))), (r1 0, .inl (cI, 5, .inl (fun _ => 0))), (r1 1, .inl (cI, 5, .inl (fun _ => 0))), (r1 2, .inl (cI, 5, .inl (fun _ => 0))), (r1 3, .inl (cI, 5, .inl (fun _ => 0))), (r1 4, .inl (cI, 5, .inl (fun _ => 0))), (r1 5, .inl (cI, 5, .inl (fun _ => 0))), (z2, .inl (cI, 7, .inl (fun _ => 0))), (z3, .inl (cI, 5, .inl (fun _ => 0))), (z4, .inl (cI, 6, .inl (fun _ => 0)))]) rfl ?_
  refine g_putF C1 0 iX1_init_X1 rfl rfl 4 (by decide) f23 rfl hini rfl tyX1 tyX1_ok nmX1 (ty := .array .int) (by decide +kernel) rfl rfl (Nat.le_of_ble_eq_true rfl) [(b0, .inr (1, [.null, .ref (z1), .ref (z2), .ref (z3), .ref (z4), .null, .int 0])), (z1, .inl (cA1, 6, .inr (.inr (.inr (.inr (fun i => if i < 6 then some (r1 i) else none)))))), (r1 0, .inl (cI, 5, .inl (fun _ => 0))), (r1 1, .inl (cI, 5, .inl (fun _ => 0))), (r1 2, .inl (cI, 5, .inl (fun _ => 0))), (r1 3, .inl (cI, 5, .inl (fun _ => 0))), (r1 4, .inl (cI, 5, .inl (fun _ => 0))), (r1 5, .inl (cI, 5, .inl (fun _ => 0))), (z2, .inl (cI, 7, .inl (fun _ => 0))), (z3, .inl (cI, 5, .inl (fun _ => 0))), (z4, .inl (cI, 6, .inl (fun _ => 0)))] rfl dX1_init_35 ?_
  refine g_aload_n C1 dX1_init_38 rfl ?_
  refine g_bipush C1 6 dX1_init_39 (by decide +kernel) ?_
  refine g_newa C1 (atype := .int) (ty := .int) rfl hN.1 (C1.ts _ (by decide +kernel)) 6 rfl (by decide) (z := (6, .inl (fun _ => 0))) (fun _ => rfl) (by decide) (Nat.le_of_ble_eq_true rfl) (Nat.le_of_ble_eq_true rfl) dX1_init_41 (fun z5 => ?_)
  refine g_w (ws' := [(b0, .inr (1, [.null, .ref (z1), .ref (z2), .ref (z3), .ref (z4), .null, .int 0])), (z1, .inl (cA1, 6, .inr (.inr (.inr (.inr (fun i => if i < 6 then some (r1 i) else none)))))), (r1 0, .inl (cI, 5, .inl (fun _ => 0))), (r1 1, .inl (cI, 5, .inl (fun _ => 0))), (r1 2, .inl (cI, 5, .inl (fun _ => 0))), (r1 3, .inl (cI, 5, .inl (fun _ => 0))), (r1 4, .inl (cI, 5, .inl (fun _ => 0))), (r1 5, .inl (cI, 5, .inl (fun _ => 0))), (z2, .inl (cI, 7, .inl (fun _ => 0))), (z3, .inl (cI, 5, .inl (fun _ => 0))), (z4, .inl (cI, 6, .inl (fun _ => 0))), (z5, .inl (cI, 6, .inl (fun _ => 0)))]) rfl ?_
  refine g_putF C1 0 iX1_init_X1 rfl rfl 5 (by decide) f26 rfl hini rfl tyX1 tyX1_ok nmX1 (ty := .array .int) (by decide +kernel) rfl rfl (Nat.le_of_ble_eq_true rfl) [(b0, .inr (1, [.null, .ref (z1), .ref (z2), .ref (z3), .ref (z4), .ref (z5), .int 0])), (z1, .inl (cA1, 6, .inr (.inr (.inr (.inr (fun i => if i < 6 then some (r1 i) else none)))))), (r1 0, .inl (cI, 5, .inl (fun _ => 0))), (r1 1, .inl (cI, 5, .inl (fun _ => 0))), (r1 2, .inl (cI, 5, .inl (fun _ => 0))), (r1 3, .inl (cI, 5, .inl (fun _ => 0))), (r1 4, .inl (cI, 5, .inl (fun _ => 0))), (r1 5, .inl (cI, 5, .inl (fun _ => 0))), (z2, .inl (cI, 7, .inl (fun _ => 0))), (z3, .inl (cI, 5, .inl (fun _ => 0))), (z4, .inl (cI, 6, .inl (fun _ => 0))), (z5, .inl (cI, 6, .inl (fun _ => 0)))] rfl dX1_init_43 ?_
  refine g_aload_n C1 dX1_init_46 rfl ?_
  refine g_aload_n C1 dX1_init_47 rfl ?_
  refine g_putF C1 0 iX1_init_X1 rfl rfl 0 (by decide) f29 rfl hini rfl tyX1 tyX1_ok nmX1 (ty := .object "CellPlanner$Land") (by decide +kernel) rfl rfl (Nat.le_of_ble_eq_true rfl) [(b0, .inr (1, [.ref (a0), .ref (z1), .ref (z2), .ref (z3), .ref (z4), .ref (z5), .int 0])), (z1, .inl (cA1, 6, .inr (.inr (.inr (.inr (fun i => if i < 6 then some (r1 i) else none)))))), (r1 0, .inl (cI, 5, .inl (fun _ => 0))), (r1 1, .inl (cI, 5, .inl (fun _ => 0))), (r1 2, .inl (cI, 5, .inl (fun _ => 0))), (r1 3, .inl (cI, 5, .inl (fun _ => 0))), (r1 4, .inl (cI, 5, .inl (fun _ => 0))), (r1 5, .inl (cI, 5, .inl (fun _ => 0))), (z2, .inl (cI, 7, .inl (fun _ => 0))), (z3, .inl (cI, 5, .inl (fun _ => 0))), (z4, .inl (cI, 6, .inl (fun _ => 0))), (z5, .inl (cI, 6, .inl (fun _ => 0)))] rfl dX1_init_48 ?_
  exact g_vret C1 hret dX1_init_51 (Nat.le_of_ble_eq_true rfl) (Nat.le_of_ble_eq_true rfl) ⟨(fun i => [b0, z1, z2, z3, z4, z5].getD i 0), r1, cA1, rfl, ⟨_, rfl, rfl⟩, rfl⟩
theorem iX2_init_X0 : ∀ w ∈ u_ws RX0 TX0 13, w ∈ wsX2_init := by decide +kernel
theorem iX2_init_X1 : ∀ w ∈ u_ws RX1 TX1 7, w ∈ wsX2_init := by decide +kernel
theorem iX2_init_X2 : ∀ w ∈ u_ws RX2 TX2 13, w ∈ wsX2_init := by decide +kernel
set_option maxHeartbeats 4000000 in
set_option maxRecDepth 100000 in
theorem t_X2_init {l : Launch} {D : va_G} {cI cZ cJ : ClassId} {d0 : Nat} : CnV l yX2_init wsX2_init 3 80 34 194 D [(cI, .int), (cZ, .boolean), (cJ, .int)] cI cZ [.ref (d0)] [(d0, .inr (2, [.null, .null, .null, .null, .null, .null, .int 0, .int 0, .int 0, .int 0, .int 0, .int 0, .int 0]))] (fun wv tv => ∃ (a b d r r2 : Nat → Nat) (cG cW : ClassId), d 0 = d0 ∧ wv = ((wCo cI a b d 20 2 100 0 0 0 0 (fun _ => 0) (fun _ => 0) (fun _ => 0) (fun _ => 0) ++ wSo cI cW a b r2 (fun _ => 0) (fun _ => 0) (fun _ => 0) (fun _ => 0) 0 (fun _ _ => 0)) ++ wL cI cZ cG a r 0 0 (fun _ => 0) (fun _ => 0) (fun _ => 0) (fun _ => 0) (fun _ => 0) (fun _ => 0) (fun _ => 0) (fun _ => 0) (fun _ => 0) (fun _ => 0) (fun _ _ => 0)) ∧ tv = [(cI, .int), (cZ, .boolean), (cJ, .int), (cG, .array .int), (cW, .array .int)]) := by
  refine cnV_of (cc := cX2_init) (maxL := 1) RX2 0 [some (.ref (d0))] (by decide +kernel) rfl rfl rfl (Nat.le_of_ble_eq_true rfl) rfl (fun p_ e_ s_ m_ as_ bl_ me_ co_ C hret hini hN => ?_)
  have f10 := C.ts (.fieldLink RX2 10 "CellPlanner" "land" "LCellPlanner$Land;") (by decide +kernel)
  have f21 := C.ts (.fieldLink RX2 21 "CellPlanner" "search" "LCellPlanner$Search;") (by decide +kernel)
  have f25 := C.ts (.fieldLink RX2 25 "CellPlanner" "favourite" "[I") (by decide +kernel)
  have f29 := C.ts (.fieldLink RX2 29 "CellPlanner" "held" "[I") (by decide +kernel)
  have f32 := C.ts (.fieldLink RX2 32 "CellPlanner" "leftCell" "[I") (by decide +kernel)
  have f35 := C.ts (.fieldLink RX2 35 "CellPlanner" "leftAt" "[I") (by decide +kernel)
  have f38 := C.ts (.fieldLink RX2 38 "CellPlanner" "margin" "I") (by decide +kernel)
  have f42 := C.ts (.fieldLink RX2 42 "CellPlanner" "patience" "I") (by decide +kernel)
  have f45 := C.ts (.fieldLink RX2 45 "CellPlanner" "bound" "I") (by decide +kernel)
  refine g_aload_n C dX2_init_0 rfl ?_
  refine g_objInit C (C.ts _ (by decide +kernel)) (C.ts _ (by decide +kernel)) (C.ts _ (by decide +kernel)) dX2_init_1 (Nat.le_of_ble_eq_true rfl) (Nat.le_of_ble_eq_true rfl) ?_
  refine g_aload_n C dX2_init_4 rfl ?_
  refine g_new C (ci := 0) (N := 13) iX2_init_X0 tyX0 tyX0_ok (C.ts _ (by decide +kernel)) (C.ts _ (by decide +kernel)) (C.ts _ (by decide +kernel)) rfl [.null, .null, .null, .null, .null, .int 0, .null, .null, .null, .null, .int 0, .null, .null] (fun j hj => by rcases (show j = 0 ∨ j = 1 ∨ j = 2 ∨ j = 3 ∨ j = 4 ∨ j = 5 ∨ j = 6 ∨ j = 7 ∨ j = 8 ∨ j = 9 ∨ j = 10 ∨ j = 11 ∨ j = 12 by omega) with rfl | rfl | rfl | rfl | rfl | rfl | rfl | rfl | rfl | rfl | rfl | rfl | rfl <;> rfl) (Nat.le_of_ble_eq_true rfl) (Nat.le_of_ble_eq_true rfl) dX2_init_5 (fun z1 => ?_)
  refine g_dup C dX2_init_8 rfl ?_
  refine g_makeN C hN [(d0, .inr (2, [.null, .null, .null, .null, .null, .null, .int 0, .int 0, .int 0, .int 0, .int 0, .int 0, .int 0]))] [(z1, .inr (0, [.null, .null, .null, .null, .null, .int 0, .null, .null, .null, .null, .int 0, .null, .null]))] [] t_X0_init ⟨va_cnB 0 C.ts gX2_init_X0_init_n9 rfl rfl rfl hN.2.2.2.2 (C.ts (.initialized RX0) (by decide +kernel)) (by decide +kernel) ⟨Nat.le_of_ble_eq_true rfl, Nat.le_of_ble_eq_true rfl⟩, rfl, C.ts _ (by decide +kernel)⟩ rfl rfl rfl (Nat.le_of_ble_eq_true rfl) dX2_init_9 ⟨Nat.le_of_ble_eq_true rfl, Nat.le_of_ble_eq_true rfl⟩ (fun wv1 tv1 hp1 hK1 => ?_)
  obtain ⟨a, r, cG, rfl, rfl, rfl⟩ := hp1
  have C1 := C.wi hK1
  refine g_putF C1 0 iX2_init_X2 rfl rfl 0 (by decide) f10 rfl hini rfl tyX2 tyX2_ok nmX2 (ty := .object "CellPlanner$Land") (by decide +kernel) rfl rfl (Nat.le_of_ble_eq_true rfl) ([(d0, .inr (2, [.ref (a 0), .null, .null, .null, .null, .null, .int 0, .int 0, .int 0, .int 0, .int 0, .int 0, .int 0]))] ++ wL cI cZ cG a r 0 0 (fun _ => 0) (fun _ => 0) (fun _ => 0) (fun _ => 0) (fun _ => 0) (fun _ => 0) (fun _ => 0) (fun _ => 0) (fun _ => 0) (fun _ => 0) (fun _ _ => 0)) rfl dX2_init_12 ?_
  refine g_aload_n C1 dX2_init_15 rfl ?_
  refine g_new C1 (ci := 1) (N := 7) iX2_init_X1 tyX1 tyX1_ok (C1.ts _ (by decide +kernel)) (C1.ts _ (by decide +kernel)) (C1.ts _ (by decide +kernel)) rfl [.null, .null, .null, .null, .null, .null, .int 0] (fun j hj => by rcases (show j = 0 ∨ j = 1 ∨ j = 2 ∨ j = 3 ∨ j = 4 ∨ j = 5 ∨ j = 6 by omega) with rfl | rfl | rfl | rfl | rfl | rfl | rfl <;> rfl) (Nat.le_of_ble_eq_true rfl) (Nat.le_of_ble_eq_true rfl) dX2_init_16 (fun z2 => ?_)
  refine g_dup C1 dX2_init_19 rfl ?_
  refine g_aload_n C1 dX2_init_20 rfl ?_
  refine g_get C1 0 iX2_init_X2 rfl rfl 0 (by decide) f10 rfl dX2_init_21 ?_
  refine g_makeI C1 hN ([(d0, .inr (2, [.ref (a 0), .null, .null, .null, .null, .null, .int 0, .int 0, .int 0, .int 0, .int 0, .int 0, .int 0]))] ++ wL cI cZ cG a r 0 0 (fun _ => 0) (fun _ => 0) (fun _ => 0) (fun _ => 0) (fun _ => 0) (fun _ => 0) (fun _ => 0) (fun _ => 0) (fun _ => 0) (fun _ => 0) (fun _ _ => 0)) [(z2, .inr (1, [.null, .null, .null, .null, .null, .null, .int 0]))] [.ref (a 0)] t_X1_init (cwI 1 C1.ts gX2_init_X1_init rfl rfl rfl (C1.ts (.initialized RX1) (by decide +kernel)) (C1.ts (.methodLink RX2 18 yX1_init) (by decide +kernel)) (C1.ts (.instanceMethod yX1_init) (by decide +kernel)) rfl (by decide +kernel) ⟨Nat.le_of_ble_eq_true rfl, Nat.le_of_ble_eq_true rfl⟩) rfl rfl rfl (Nat.le_of_ble_eq_true rfl) dX2_init_24 ⟨Nat.le_of_ble_eq_true rfl, Nat.le_of_ble_eq_true rfl⟩ (fun wv2 tv2 hp2 hK2 => ?_)
  obtain ⟨b, r2, cW, rfl, ⟨_, rfl, rfl⟩, rfl⟩ := hp2
  have C2 := C1.wi hK2
  refine g_w (ws' := [(d0, .inr (2, [.ref (a 0), .null, .null, .null, .null, .null, .int 0, .int 0, .int 0, .int 0, .int 0, .int 0, .int 0]))] ++ (wL cI cZ cG a r 0 0 (fun _ => 0) (fun _ => 0) (fun _ => 0) (fun _ => 0) (fun _ => 0) (fun _ => 0) (fun _ => 0) (fun _ => 0) (fun _ => 0) (fun _ => 0) (fun _ _ => 0) ++ [(b 0, .inr (1, [.ref (a 0), .ref (b 1), .ref (b 2), .ref (b 3), .ref (b 4), .ref (b 5), .int 0])), (b 1, .inl (cW, 6, .inr (.inr (.inr (.inr (fun i => if i < 6 then some (r2 i) else none)))))), (r2 0, .inl (cI, 5, .inl (fun _ => 0))), (r2 1, .inl (cI, 5, .inl (fun _ => 0))), (r2 2, .inl (cI, 5, .inl (fun _ => 0))), (r2 3, .inl (cI, 5, .inl (fun _ => 0))), (r2 4, .inl (cI, 5, .inl (fun _ => 0))), (r2 5, .inl (cI, 5, .inl (fun _ => 0))), (b 2, .inl (cI, 7, .inl (fun _ => 0))), (b 3, .inl (cI, 5, .inl (fun _ => 0))), (b 4, .inl (cI, 6, .inl (fun _ => 0))), (b 5, .inl (cI, 6, .inl (fun _ => 0)))])) rfl ?_
  refine g_putF C2 0 iX2_init_X2 rfl rfl 1 (by decide) f21 rfl hini rfl tyX2 tyX2_ok nmX2 (ty := .object "CellPlanner$Search") (by decide +kernel) rfl rfl (Nat.le_of_ble_eq_true rfl) ([(d0, .inr (2, [.ref (a 0), .ref (b 0), .null, .null, .null, .null, .int 0, .int 0, .int 0, .int 0, .int 0, .int 0, .int 0]))] ++ (wL cI cZ cG a r 0 0 (fun _ => 0) (fun _ => 0) (fun _ => 0) (fun _ => 0) (fun _ => 0) (fun _ => 0) (fun _ => 0) (fun _ => 0) (fun _ => 0) (fun _ => 0) (fun _ _ => 0) ++ [(b 0, .inr (1, [.ref (a 0), .ref (b 1), .ref (b 2), .ref (b 3), .ref (b 4), .ref (b 5), .int 0])), (b 1, .inl (cW, 6, .inr (.inr (.inr (.inr (fun i => if i < 6 then some (r2 i) else none)))))), (r2 0, .inl (cI, 5, .inl (fun _ => 0))), (r2 1, .inl (cI, 5, .inl (fun _ => 0))), (r2 2, .inl (cI, 5, .inl (fun _ => 0))), (r2 3, .inl (cI, 5, .inl (fun _ => 0))), (r2 4, .inl (cI, 5, .inl (fun _ => 0))), (r2 5, .inl (cI, 5, .inl (fun _ => 0))), (b 2, .inl (cI, 7, .inl (fun _ => 0))), (b 3, .inl (cI, 5, .inl (fun _ => 0))), (b 4, .inl (cI, 6, .inl (fun _ => 0))), (b 5, .inl (cI, 6, .inl (fun _ => 0)))])) rfl dX2_init_27 ?_
  refine g_aload_n C2 dX2_init_30 rfl ?_
  refine g_bipush C2 6 dX2_init_31 (by decide +kernel) ?_
  refine g_newa C2 (atype := .int) (ty := .int) rfl hN.1 (C2.ts _ (by decide +kernel)) 6 rfl (by decide) (z := (6, .inl (fun _ => 0))) (fun _ => rfl) (by decide) (Nat.le_of_ble_eq_true rfl) (Nat.le_of_ble_eq_true rfl) dX2_init_33 (fun z3 => ?_)
  refine g_w (ws' := [(d0, .inr (2, [.ref (a 0), .ref (b 0), .null, .null, .null, .null, .int 0, .int 0, .int 0, .int 0, .int 0, .int 0, .int 0]))] ++ (wL cI cZ cG a r 0 0 (fun _ => 0) (fun _ => 0) (fun _ => 0) (fun _ => 0) (fun _ => 0) (fun _ => 0) (fun _ => 0) (fun _ => 0) (fun _ => 0) (fun _ => 0) (fun _ _ => 0) ++ ([(b 0, .inr (1, [.ref (a 0), .ref (b 1), .ref (b 2), .ref (b 3), .ref (b 4), .ref (b 5), .int 0])), (b 1, .inl (cW, 6, .inr (.inr (.inr (.inr (fun i => if i < 6 then some (r2 i) else none)))))), (r2 0, .inl (cI, 5, .inl (fun _ => 0))), (r2 1, .inl (cI, 5, .inl (fun _ => 0))), (r2 2, .inl (cI, 5, .inl (fun _ => 0))), (r2 3, .inl (cI, 5, .inl (fun _ => 0))), (r2 4, .inl (cI, 5, .inl (fun _ => 0))), (r2 5, .inl (cI, 5, .inl (fun _ => 0))), (b 2, .inl (cI, 7, .inl (fun _ => 0))), (b 3, .inl (cI, 5, .inl (fun _ => 0))), (b 4, .inl (cI, 6, .inl (fun _ => 0))), (b 5, .inl (cI, 6, .inl (fun _ => 0)))] ++ [(z3, .inl (cI, 6, .inl (fun _ => 0)))]))) rfl ?_
  refine g_putF C2 0 iX2_init_X2 rfl rfl 2 (by decide) f25 rfl hini rfl tyX2 tyX2_ok nmX2 (ty := .array .int) (by decide +kernel) rfl rfl (Nat.le_of_ble_eq_true rfl) ([(d0, .inr (2, [.ref (a 0), .ref (b 0), .ref z3, .null, .null, .null, .int 0, .int 0, .int 0, .int 0, .int 0, .int 0, .int 0]))] ++ (wL cI cZ cG a r 0 0 (fun _ => 0) (fun _ => 0) (fun _ => 0) (fun _ => 0) (fun _ => 0) (fun _ => 0) (fun _ => 0) (fun _ => 0) (fun _ => 0) (fun _ => 0) (fun _ _ => 0) ++ ([(b 0, .inr (1, [.ref (a 0), .ref (b 1), .ref (b 2), .ref (b 3), .ref (b 4), .ref (b 5), .int 0])), (b 1, .inl (cW, 6, .inr (.inr (.inr (.inr (fun i => if i < 6 then some (r2 i) else none)))))), (r2 0, .inl (cI, 5, .inl (fun _ => 0))), (r2 1, .inl (cI, 5, .inl (fun _ => 0))), (r2 2, .inl (cI, 5, .inl (fun _ => 0))), (r2 3, .inl (cI, 5, .inl (fun _ => 0))), (r2 4, .inl (cI, 5, .inl (fun _ => 0))), (r2 5, .inl (cI, 5, .inl (fun _ => 0))), (b 2, .inl (cI, 7, .inl (fun _ => 0))), (b 3, .inl (cI, 5, .inl (fun _ => 0))), (b 4, .inl (cI, 6, .inl (fun _ => 0))), (b 5, .inl (cI, 6, .inl (fun _ => 0)))] ++ [(z3, .inl (cI, 6, .inl (fun _ => 0)))]))) rfl dX2_init_35 ?_
  refine g_aload_n C2 dX2_init_38 rfl ?_
  refine g_bipush C2 6 dX2_init_39 (by decide +kernel) ?_
  refine g_newa C2 (atype := .int) (ty := .int) rfl hN.1 (C2.ts _ (by decide +kernel)) 6 rfl (by decide) (z := (6, .inl (fun _ => 0))) (fun _ => rfl) (by decide) (Nat.le_of_ble_eq_true rfl) (Nat.le_of_ble_eq_true rfl) dX2_init_41 (fun z4 => ?_)
  refine g_w (ws' := [(d0, .inr (2, [.ref (a 0), .ref (b 0), .ref z3, .null, .null, .null, .int 0, .int 0, .int 0, .int 0, .int 0, .int 0, .int 0]))] ++ (wL cI cZ cG a r 0 0 (fun _ => 0) (fun _ => 0) (fun _ => 0) (fun _ => 0) (fun _ => 0) (fun _ => 0) (fun _ => 0) (fun _ => 0) (fun _ => 0) (fun _ => 0) (fun _ _ => 0) ++ ([(b 0, .inr (1, [.ref (a 0), .ref (b 1), .ref (b 2), .ref (b 3), .ref (b 4), .ref (b 5), .int 0])), (b 1, .inl (cW, 6, .inr (.inr (.inr (.inr (fun i => if i < 6 then some (r2 i) else none)))))), (r2 0, .inl (cI, 5, .inl (fun _ => 0))), (r2 1, .inl (cI, 5, .inl (fun _ => 0))), (r2 2, .inl (cI, 5, .inl (fun _ => 0))), (r2 3, .inl (cI, 5, .inl (fun _ => 0))), (r2 4, .inl (cI, 5, .inl (fun _ => 0))), (r2 5, .inl (cI, 5, .inl (fun _ => 0))), (b 2, .inl (cI, 7, .inl (fun _ => 0))), (b 3, .inl (cI, 5, .inl (fun _ => 0))), (b 4, .inl (cI, 6, .inl (fun _ => 0))), (b 5, .inl (cI, 6, .inl (fun _ => 0)))] ++ [(z3, .inl (cI, 6, .inl (fun _ => 0))), (z4, .inl (cI, 6, .inl (fun _ => 0)))]))) rfl ?_
  refine g_putF C2 0 iX2_init_X2 rfl rfl 3 (by decide) f29 rfl hini rfl tyX2 tyX2_ok nmX2 (ty := .array .int) (by decide +kernel) rfl rfl (Nat.le_of_ble_eq_true rfl) ([(d0, .inr (2, [.ref (a 0), .ref (b 0), .ref z3, .ref z4, .null, .null, .int 0, .int 0, .int 0, .int 0, .int 0, .int 0, .int 0]))] ++ (wL cI cZ cG a r 0 0 (fun _ => 0) (fun _ => 0) (fun _ => 0) (fun _ => 0) (fun _ => 0) (fun _ => 0) (fun _ => 0) (fun _ => 0) (fun _ => 0) (fun _ => 0) (fun _ _ => 0) ++ ([(b 0, .inr (1, [.ref (a 0), .ref (b 1), .ref (b 2), .ref (b 3), .ref (b 4), .ref (b 5), .int 0])), (b 1, .inl (cW, 6, .inr (.inr (.inr (.inr (fun i => if i < 6 then some (r2 i) else none)))))), (r2 0, .inl (cI, 5, .inl (fun _ => 0))), (r2 1, .inl (cI, 5, .inl (fun _ => 0))), (r2 2, .inl (cI, 5, .inl (fun _ => 0))), (r2 3, .inl (cI, 5, .inl (fun _ => 0))), (r2 4, .inl (cI, 5, .inl (fun _ => 0))), (r2 5, .inl (cI, 5, .inl (fun _ => 0))), (b 2, .inl (cI, 7, .inl (fun _ => 0))), (b 3, .inl (cI, 5, .inl (fun _ => 0))), (b 4, .inl (cI, 6, .inl (fun _ => 0))), (b 5, .inl (cI, 6, .inl (fun _ => 0)))] ++ [(z3, .inl (cI, 6, .inl (fun _ => 0))), (z4, .inl (cI, 6, .inl (fun _ => 0)))]))) rfl dX2_init_43 ?_
  refine g_aload_n C2 dX2_init_46 rfl ?_
  refine g_bipush C2 6 dX2_init_47 (by decide +kernel) ?_
  refine g_newa C2 (atype := .int) (ty := .int) rfl hN.1 (C2.ts _ (by decide +kernel)) 6 rfl (by decide) (z := (6, .inl (fun _ => 0))) (fun _ => rfl) (by decide) (Nat.le_of_ble_eq_true rfl) (Nat.le_of_ble_eq_true rfl) dX2_init_49 (fun z5 => ?_)
  refine g_w (ws' := [(d0, .inr (2, [.ref (a 0), .ref (b 0), .ref z3, .ref z4, .null, .null, .int 0, .int 0, .int 0, .int 0, .int 0, .int 0, .int 0]))] ++ (wL cI cZ cG a r 0 0 (fun _ => 0) (fun _ => 0) (fun _ => 0) (fun _ => 0) (fun _ => 0) (fun _ => 0) (fun _ => 0) (fun _ => 0) (fun _ => 0) (fun _ => 0) (fun _ _ => 0) ++ ([(b 0, .inr (1, [.ref (a 0), .ref (b 1), .ref (b 2), .ref (b 3), .ref (b 4), .ref (b 5), .int 0])), (b 1, .inl (cW, 6, .inr (.inr (.inr (.inr (fun i => if i < 6 then some (r2 i) else none)))))), (r2 0, .inl (cI, 5, .inl (fun _ => 0))), (r2 1, .inl (cI, 5, .inl (fun _ => 0))), (r2 2, .inl (cI, 5, .inl (fun _ => 0))), (r2 3, .inl (cI, 5, .inl (fun _ => 0))), (r2 4, .inl (cI, 5, .inl (fun _ => 0))), (r2 5, .inl (cI, 5, .inl (fun _ => 0))), (b 2, .inl (cI, 7, .inl (fun _ => 0))), (b 3, .inl (cI, 5, .inl (fun _ => 0))), (b 4, .inl (cI, 6, .inl (fun _ => 0))), (b 5, .inl (cI, 6, .inl (fun _ => 0)))] ++ [(z3, .inl (cI, 6, .inl (fun _ => 0))), (z4, .inl (cI, 6, .inl (fun _ => 0))), (z5, .inl (cI, 6, .inl (fun _ => 0)))]))) rfl ?_
  refine g_putF C2 0 iX2_init_X2 rfl rfl 4 (by decide) f32 rfl hini rfl tyX2 tyX2_ok nmX2 (ty := .array .int) (by decide +kernel) rfl rfl (Nat.le_of_ble_eq_true rfl) ([(d0, .inr (2, [.ref (a 0), .ref (b 0), .ref z3, .ref z4, .ref z5, .null, .int 0, .int 0, .int 0, .int 0, .int 0, .int 0, .int 0]))] ++ (wL cI cZ cG a r 0 0 (fun _ => 0) (fun _ => 0) (fun _ => 0) (fun _ => 0) (fun _ => 0) (fun _ => 0) (fun _ => 0) (fun _ => 0) (fun _ => 0) (fun _ => 0) (fun _ _ => 0) ++ ([(b 0, .inr (1, [.ref (a 0), .ref (b 1), .ref (b 2), .ref (b 3), .ref (b 4), .ref (b 5), .int 0])), (b 1, .inl (cW, 6, .inr (.inr (.inr (.inr (fun i => if i < 6 then some (r2 i) else none)))))), (r2 0, .inl (cI, 5, .inl (fun _ => 0))), (r2 1, .inl (cI, 5, .inl (fun _ => 0))), (r2 2, .inl (cI, 5, .inl (fun _ => 0))), (r2 3, .inl (cI, 5, .inl (fun _ => 0))), (r2 4, .inl (cI, 5, .inl (fun _ => 0))), (r2 5, .inl (cI, 5, .inl (fun _ => 0))), (b 2, .inl (cI, 7, .inl (fun _ => 0))), (b 3, .inl (cI, 5, .inl (fun _ => 0))), (b 4, .inl (cI, 6, .inl (fun _ => 0))), (b 5, .inl (cI, 6, .inl (fun _ => 0)))] ++ [(z3, .inl (cI, 6, .inl (fun _ => 0))), (z4, .inl (cI, 6, .inl (fun _ => 0))), (z5, .inl (cI, 6, .inl (fun _ => 0)))]))) rfl dX2_init_51 ?_
  refine g_aload_n C2 dX2_init_54 rfl ?_
  refine g_bipush C2 6 dX2_init_55 (by decide +kernel) ?_
  refine g_newa C2 (atype := .int) (ty := .int) rfl hN.1 (C2.ts _ (by decide +kernel)) 6 rfl (by decide) (z := (6, .inl (fun _ => 0))) (fun _ => rfl) (by decide) (Nat.le_of_ble_eq_true rfl) (Nat.le_of_ble_eq_true rfl) dX2_init_57 (fun z6 => ?_)
  refine g_w (ws' := [(d0, .inr (2, [.ref (a 0), .ref (b 0), .ref z3, .ref z4, .ref z5, .null, .int 0, .int 0, .int 0, .int 0, .int 0, .int 0, .int 0]))] ++ (wL cI cZ cG a r 0 0 (fun _ => 0) (fun _ => 0) (fun _ => 0) (fun _ => 0) (fun _ => 0) (fun _ => 0) (fun _ => 0) (fun _ => 0) (fun _ => 0) (fun _ => 0) (fun _ _ => 0) ++ ([(b 0, .inr (1, [.ref (a 0), .ref (b 1), .ref (b 2), .ref (b 3), .ref (b 4), .ref (b 5), .int 0])), (b 1, .inl (cW, 6, .inr (.inr (.inr (.inr (fun i => if i < 6 then some (r2 i) else none)))))), (r2 0, .inl (cI, 5, .inl (fun _ => 0))), (r2 1, .inl (cI, 5, .inl (fun _ => 0))), (r2 2, .inl (cI, 5, .inl (fun _ => 0))), (r2 3, .inl (cI, 5, .inl (fun _ => 0))), (r2 4, .inl (cI, 5, .inl (fun _ => 0))), (r2 5, .inl (cI, 5, .inl (fun _ => 0))), (b 2, .inl (cI, 7, .inl (fun _ => 0))), (b 3, .inl (cI, 5, .inl (fun _ => 0))), (b 4, .inl (cI, 6, .inl (fun _ => 0))), (b 5, .inl (cI, 6, .inl (fun _ => 0)))] ++ [(z3, .inl (cI, 6, .inl (fun _ => 0))), (z4, .inl (cI, 6, .inl (fun _ => 0))), (z5, .inl (cI, 6, .inl (fun _ => 0))), (z6, .inl (cI, 6, .inl (fun _ => 0)))]))) rfl ?_
  refine g_putF C2 0 iX2_init_X2 rfl rfl 5 (by decide) f35 rfl hini rfl tyX2 tyX2_ok nmX2 (ty := .array .int) (by decide +kernel) rfl rfl (Nat.le_of_ble_eq_true rfl) ([(d0, .inr (2, [.ref (a 0), .ref (b 0), .ref z3, .ref z4, .ref z5, .ref z6, .int 0, .int 0, .int 0, .int 0, .int 0, .int 0, .int 0]))] ++ (wL cI cZ cG a r 0 0 (fun _ => 0) (fun _ => 0) (fun _ => 0) (fun _ => 0) (fun _ => 0) (fun _ => 0) (fun _ => 0) (fun _ => 0) (fun _ => 0) (fun _ => 0) (fun _ _ => 0) ++ ([(b 0, .inr (1, [.ref (a 0), .ref (b 1), .ref (b 2), .ref (b 3), .ref (b 4), .ref (b 5), .int 0])), (b 1, .inl (cW, 6, .inr (.inr (.inr (.inr (fun i => if i < 6 then some (r2 i) else none)))))), (r2 0, .inl (cI, 5, .inl (fun _ => 0))), (r2 1, .inl (cI, 5, .inl (fun _ => 0))), (r2 2, .inl (cI, 5, .inl (fun _ => 0))), (r2 3, .inl (cI, 5, .inl (fun _ => 0))), (r2 4, .inl (cI, 5, .inl (fun _ => 0))), (r2 5, .inl (cI, 5, .inl (fun _ => 0))), (b 2, .inl (cI, 7, .inl (fun _ => 0))), (b 3, .inl (cI, 5, .inl (fun _ => 0))), (b 4, .inl (cI, 6, .inl (fun _ => 0))), (b 5, .inl (cI, 6, .inl (fun _ => 0)))] ++ [(z3, .inl (cI, 6, .inl (fun _ => 0))), (z4, .inl (cI, 6, .inl (fun _ => 0))), (z5, .inl (cI, 6, .inl (fun _ => 0))), (z6, .inl (cI, 6, .inl (fun _ => 0)))]))) rfl dX2_init_59 ?_
  refine g_aload_n C2 dX2_init_62 rfl ?_
  refine g_bipush C2 20 dX2_init_63 (by decide +kernel) ?_
  refine g_put C2 0 iX2_init_X2 rfl rfl 6 (by decide) f38 rfl tyX2 tyX2_ok nmX2 (ty := .int) (by decide +kernel) rfl rfl (Nat.le_of_ble_eq_true rfl) ([(d0, .inr (2, [.ref (a 0), .ref (b 0), .ref z3, .ref z4, .ref z5, .ref z6, .int 20, .int 0, .int 0, .int 0, .int 0, .int 0, .int 0]))] ++ (wL cI cZ cG a r 0 0 (fun _ => 0) (fun _ => 0) (fun _ => 0) (fun _ => 0) (fun _ => 0) (fun _ => 0) (fun _ => 0) (fun _ => 0) (fun _ => 0) (fun _ => 0) (fun _ _ => 0) ++ ([(b 0, .inr (1, [.ref (a 0), .ref (b 1), .ref (b 2), .ref (b 3), .ref (b 4), .ref (b 5), .int 0])), (b 1, .inl (cW, 6, .inr (.inr (.inr (.inr (fun i => if i < 6 then some (r2 i) else none)))))), (r2 0, .inl (cI, 5, .inl (fun _ => 0))), (r2 1, .inl (cI, 5, .inl (fun _ => 0))), (r2 2, .inl (cI, 5, .inl (fun _ => 0))), (r2 3, .inl (cI, 5, .inl (fun _ => 0))), (r2 4, .inl (cI, 5, .inl (fun _ => 0))), (r2 5, .inl (cI, 5, .inl (fun _ => 0))), (b 2, .inl (cI, 7, .inl (fun _ => 0))), (b 3, .inl (cI, 5, .inl (fun _ => 0))), (b 4, .inl (cI, 6, .inl (fun _ => 0))), (b 5, .inl (cI, 6, .inl (fun _ => 0)))] ++ [(z3, .inl (cI, 6, .inl (fun _ => 0))), (z4, .inl (cI, 6, .inl (fun _ => 0))), (z5, .inl (cI, 6, .inl (fun _ => 0))), (z6, .inl (cI, 6, .inl (fun _ => 0)))]))) rfl dX2_init_65 ?_
  refine g_aload_n C2 dX2_init_68 rfl ?_
  refine g_iconst C2 2 dX2_init_69 (by decide +kernel) ?_
  refine g_put C2 0 iX2_init_X2 rfl rfl 7 (by decide) f42 rfl tyX2 tyX2_ok nmX2 (ty := .int) (by decide +kernel) rfl rfl (Nat.le_of_ble_eq_true rfl) ([(d0, .inr (2, [.ref (a 0), .ref (b 0), .ref z3, .ref z4, .ref z5, .ref z6, .int 20, .int 2, .int 0, .int 0, .int 0, .int 0, .int 0]))] ++ (wL cI cZ cG a r 0 0 (fun _ => 0) (fun _ => 0) (fun _ => 0) (fun _ => 0) (fun _ => 0) (fun _ => 0) (fun _ => 0) (fun _ => 0) (fun _ => 0) (fun _ => 0) (fun _ _ => 0) ++ ([(b 0, .inr (1, [.ref (a 0), .ref (b 1), .ref (b 2), .ref (b 3), .ref (b 4), .ref (b 5), .int 0])), (b 1, .inl (cW, 6, .inr (.inr (.inr (.inr (fun i => if i < 6 then some (r2 i) else none)))))), (r2 0, .inl (cI, 5, .inl (fun _ => 0))), (r2 1, .inl (cI, 5, .inl (fun _ => 0))), (r2 2, .inl (cI, 5, .inl (fun _ => 0))), (r2 3, .inl (cI, 5, .inl (fun _ => 0))), (r2 4, .inl (cI, 5, .inl (fun _ => 0))), (r2 5, .inl (cI, 5, .inl (fun _ => 0))), (b 2, .inl (cI, 7, .inl (fun _ => 0))), (b 3, .inl (cI, 5, .inl (fun _ => 0))), (b 4, .inl (cI, 6, .inl (fun _ => 0))), (b 5, .inl (cI, 6, .inl (fun _ => 0)))] ++ [(z3, .inl (cI, 6, .inl (fun _ => 0))), (z4, .inl (cI, 6, .inl (fun _ => 0))), (z5, .inl (cI, 6, .inl (fun _ => 0))), (z6, .inl (cI, 6, .inl (fun _ => 0)))]))) rfl dX2_init_70 ?_
  refine g_aload_n C2 dX2_init_73 rfl ?_
  refine g_bipush C2 100 dX2_init_74 (by decide +kernel) ?_
  refine g_put C2 0 iX2_init_X2 rfl rfl 8 (by decide) f45 rfl tyX2 tyX2_ok nmX2 (ty := .int) (by decide +kernel) rfl rfl (Nat.le_of_ble_eq_true rfl) ([(d0, .inr (2, [.ref (a 0), .ref (b 0), .ref z3, .ref z4, .ref z5, .ref z6, .int 20, .int 2, .int 100, .int 0, .int 0, .int 0, .int 0]))] ++ (wL cI cZ cG a r 0 0 (fun _ => 0) (fun _ => 0) (fun _ => 0) (fun _ => 0) (fun _ => 0) (fun _ => 0) (fun _ => 0) (fun _ => 0) (fun _ => 0) (fun _ => 0) (fun _ _ => 0) ++ ([(b 0, .inr (1, [.ref (a 0), .ref (b 1), .ref (b 2), .ref (b 3), .ref (b 4), .ref (b 5), .int 0])), (b 1, .inl (cW, 6, .inr (.inr (.inr (.inr (fun i => if i < 6 then some (r2 i) else none)))))), (r2 0, .inl (cI, 5, .inl (fun _ => 0))), (r2 1, .inl (cI, 5, .inl (fun _ => 0))), (r2 2, .inl (cI, 5, .inl (fun _ => 0))), (r2 3, .inl (cI, 5, .inl (fun _ => 0))), (r2 4, .inl (cI, 5, .inl (fun _ => 0))), (r2 5, .inl (cI, 5, .inl (fun _ => 0))), (b 2, .inl (cI, 7, .inl (fun _ => 0))), (b 3, .inl (cI, 5, .inl (fun _ => 0))), (b 4, .inl (cI, 6, .inl (fun _ => 0))), (b 5, .inl (cI, 6, .inl (fun _ => 0)))] ++ [(z3, .inl (cI, 6, .inl (fun _ => 0))), (z4, .inl (cI, 6, .inl (fun _ => 0))), (z5, .inl (cI, 6, .inl (fun _ => 0))), (z6, .inl (cI, 6, .inl (fun _ => 0)))]))) rfl dX2_init_76 ?_
  refine g_perm (ws' := ((wCo cI a b (fun i => [d0, z3, z4, z5, z6].getD i 0) 20 2 100 0 0 0 0 (fun _ => 0) (fun _ => 0) (fun _ => 0) (fun _ => 0) ++ wSo cI cW a b r2 (fun _ => 0) (fun _ => 0) (fun _ => 0) (fun _ => 0) 0 (fun _ _ => 0)) ++ wL cI cZ cG a r 0 0 (fun _ => 0) (fun _ => 0) (fun _ => 0) (fun _ => 0) (fun _ => 0) (fun _ => 0) (fun _ => 0) (fun _ => 0) (fun _ => 0) (fun _ => 0) (fun _ _ => 0))) [0, 31, 32, 33, 34, 19, 20, 27, 28, 29, 30, 21, 22, 23, 24, 25, 26, 1, 2, 3, 4, 5, 6, 7, 8, 9, 10, 11, 12, 13, 14, 15, 16, 17, 18] (by decide) rfl rfl ?_
  exact g_vret C2 hret dX2_init_79 (Nat.le_of_ble_eq_true rfl) (Nat.le_of_ble_eq_true rfl) ⟨a, b, (fun i => [d0, z3, z4, z5, z6].getD i 0), r, r2, cG, cW, rfl, rfl, rfl⟩
end
section
/-! bounds: no divisor is 0 -/
def tB (lo hi : Int) (x : Int32) : Prop := lo ≤ x.toInt ∧ x.toInt ≤ hi
theorem bm_id {x : Int} (h1 : -2147483648 ≤ x) (h2 : x < 2147483648) : x.bmod (2 ^ 32) = x := Int.bmod_eq_of_le (by omega) (by omega)
theorem tB_add {a b c d : Int} {x y : Int32} (hx : tB a b x) (hy : tB c d y) (h1 : -2147483648 ≤ a + c) (h2 : b + d < 2147483648) : tB (a + c) (b + d) (x + y) := by
  unfold tB at *
  rw [Int32.toInt_add, bm_id (by omega) (by omega)]
  omega
theorem tB_sub {a b c d : Int} {x y : Int32} (hx : tB a b x) (hy : tB c d y) (h1 : -2147483648 ≤ a - d) (h2 : b - c < 2147483648) : tB (a - d) (b - c) (x - y) := by
  unfold tB at *
  rw [Int32.toInt_sub, bm_id (by omega) (by omega)]
  omega
theorem tB_mul {a b c d : Int} {x y : Int32} (hx : tB a b x) (hy : tB c d y) (ha : 0 ≤ a) (hc : 0 ≤ c) (h2 : b * d < 2147483648) : tB (a * c) (b * d) (x * y) := by
  unfold tB at *
  have h3 : x.toInt * y.toInt ≤ b * d := Int.mul_le_mul hx.2 hy.2 (by omega) (by omega)
  have h4 : a * c ≤ x.toInt * y.toInt := Int.mul_le_mul hx.1 hy.1 (by omega) (by omega)
  have h5 : 0 ≤ a * c := Int.mul_nonneg ha hc
  rw [Int32.toInt_mul, bm_id (by omega) (by omega)]
  omega
theorem tB_div {a b : Int} {x y : Int32} (hx : tB 0 b x) (hy : tB 1 a y) : tB 0 b (x / y) := by
  unfold tB at *
  have hb := Int32.toInt_lt x
  have h3 : 0 ≤ x.toInt.tdiv y.toInt := Int.tdiv_nonneg hx.1 (by omega)
  have h4 : x.toInt.tdiv y.toInt ≤ x.toInt := Int.tdiv_le_self _ hx.1
  rw [Int32.toInt_div, bm_id (by omega) (by omega)]
  omega
theorem tB_divk {b : Int} {x : Int32} (k : Int32) (c : Int) (hk : k.toInt = c) (hc : 0 < c) (hx : tB 0 b x) : tB 0 (b / c) (x / k) := by
  unfold tB at *
  have hb := Int32.toInt_lt x
  have h3 : 0 ≤ x.toInt.tdiv c := Int.tdiv_nonneg hx.1 (by omega)
  have h4 : x.toInt.tdiv c ≤ x.toInt := Int.tdiv_le_self _ hx.1
  have h5 : x.toInt.tdiv c = x.toInt / c := Int.tdiv_eq_ediv_of_nonneg hx.1
  rw [Int32.toInt_div, hk, bm_id (by omega) (by omega)]
  exact ⟨h3, by rw [h5]; exact Int.ediv_le_ediv hc hx.2⟩
theorem tB_wk {a b c d : Int} {x : Int32} (h : tB a b x) (h1 : c ≤ a) (h2 : b ≤ d) : tB c d x := ⟨Int.le_trans h1 h.1, Int.le_trans h.2 h2⟩
theorem tB_k (x : Int32) (n : Int) (h : x.toInt = n) : tB n n x := ⟨by rw [h]; exact Int.le_refl _, by rw [h]; exact Int.le_refl _⟩
theorem tB_ne {a b : Int} {x : Int32} (h : tB a b x) (h1 : 0 < a) : ¬ x = 0 := fun e => by
  unfold tB at h
  rw [e, show (0 : Int32).toInt = 0 from rfl] at h
  omega
theorem tB_of {x a b : Int32} (h : a ≤ x ∧ x ≤ b) : tB a.toInt b.toInt x := ⟨Int32.le_iff_toInt_le.mp h.1, Int32.le_iff_toInt_le.mp h.2⟩
theorem tB_ab {x : Int32} (h : tB (-63) 63 x) : tB 0 63 (ab x) := by
  unfold ab
  by_cases h0 : 0 ≤ x
  · rw [if_pos h0]
    exact ⟨Int32.le_iff_toInt_le.mp h0, h.2⟩
  · rw [if_neg h0]
    have h1 : ¬ (0 : Int32).toInt ≤ x.toInt := fun q => h0 (Int32.le_iff_toInt_le.mpr q)
    rw [show (0 : Int32).toInt = 0 from rfl] at h1
    have h2 : tB (-63) (-1) x := ⟨h.1, by omega⟩
    exact tB_wk (tB_sub (tB_k 0 0 rfl) h2 (by decide) (by decide)) (by decide) (by decide)
theorem tB_dsq {x y u v : Int32} (hx : tB 0 63 x) (hy : tB 0 63 y) (hu : tB 0 63 u) (hv : tB 0 63 v) : tB 4 16384 (dsq x y u v) := by
  have h1 := tB_ab (tB_wk (tB_sub hx hu (by decide) (by decide)) (by decide) (by decide))
  have h2 := tB_ab (tB_wk (tB_sub hy hv (by decide) (by decide)) (by decide) (by decide))
  have h3 := tB_add (tB_add h1 h2 (by decide) (by decide)) (tB_k 2 2 rfl) (by decide) (by decide)
  exact tB_wk (tB_mul h3 h3 (by decide) (by decide) (by decide)) (by decide) (by decide)
/-- what holds of every state of the system -/
def INV (nc nw : Nat) (cx cy ch rm wx wy dm sv : Nat → Int32) : Prop := nc ≤ 5 ∧ nw ≤ 6 ∧ (∀ c, c < nc → inC (cx c) (cy c) (ch c) (rm c)) ∧ (∀ w, w < nw → inW (wx w) (wy w) (dm w)) ∧ ∀ j, j < nw → SV nc (sv j)
section BD
variable {nc nw : Nat} {cx cy ch rm wx wy dm sv : Nat → Int32}
theorem INV.ihr (h : INV nc nw cx cy ch rm wx wy dm sv) : ∀ c, c < nc → ¬ rm c ≤ 0 := fun c hc q => by
  have h1 := (tB_of (h.2.2.1 c hc).2.2.2).1
  have h2 := Int32.le_iff_toInt_le.mp q
  rw [show (1 : Int32).toInt = 1 from rfl] at h1
  rw [show (0 : Int32).toInt = 0 from rfl] at h2
  omega
theorem INV.isd (h : INV nc nw cx cy ch rm wx wy dm sv) {c w : Nat} (hc : c < nc) (hw : w < nw) : tB 4 16384 (dsq (cx c) (cy c) (wx w) (wy w)) :=
  tB_dsq (tB_of (h.2.2.1 c hc).1) (tB_of (h.2.2.1 c hc).2.1) (tB_of (h.2.2.2.1 w hw).1) (tB_of (h.2.2.2.1 w hw).2.1)
theorem INV.ihg (h : INV nc nw cx cy ch rm wx wy dm sv) : ∀ c w, c < nc → w < nw → ¬ dsq (cx c) (cy c) (wx w) (wy w) = 0 := fun _ _ hc hw => tB_ne (h.isd hc hw) (by decide)
theorem INV.isg (h : INV nc nw cx cy ch rm wx wy dm sv) {c w : Nat} (hc : c < nc) (hw : w < nw) : tB 0 4000 (sg cx cy wx wy c w) := by
  have h1 := h.isd hc hw
  unfold sg
  generalize dsq (cx c) (cy c) (wx w) (wy w) = y at h1
  have h4 : (16000 : Int).tdiv y.toInt = 16000 / y.toInt := Int.tdiv_eq_ediv_of_nonneg (by decide)
  have h2 : 0 ≤ (16000 : Int) / y.toInt := Int.ediv_nonneg (by decide) (by have := h1.1; omega)
  have h3 : (16000 : Int) / y.toInt ≤ 4000 := by
    apply Int.ediv_le_of_le_mul (by have := h1.1; omega)
    have := h1.1
    omega
  unfold tB
  rw [Int32.toInt_div, show (16000 : Int32).toInt = 16000 from rfl, h4, bm_id (by omega) (by omega)]
  exact ⟨h2, h3⟩
theorem fld_tB {S dm : Nat → Int32} {c : Int32} {nw : Nat} (hd : ∀ w, w < nw → tB 1 10 (dm w)) (h6 : nw ≤ 6) : ∀ n : Nat, n ≤ nw → tB 0 (10 * n) (fld S dm c n)
  | 0, _ => tB_k 0 0 rfl
  | n + 1, hn => by
    have ih := fld_tB (S := S) (c := c) hd h6 n (by omega)
    unfold fld
    split
    · exact tB_wk (tB_add ih (hd n (by omega)) (by omega) (by omega)) (by omega) (by omega)
    · exact tB_wk ih (Int.le_refl _) (by omega)
theorem INV.idm (h : INV nc nw cx cy ch rm wx wy dm sv) : ∀ w, w < nw → tB 1 10 (dm w) := fun w hw => tB_of (h.2.2.2.1 w hw).2.2
theorem INV.ius (h : INV nc nw cx cy ch rm wx wy dm sv) (S : Nat → Int32) {c : Nat} (hc : c < nc) : tB 0 6000 (fus rm S dm nw c) := by
  have h1 : tB 0 60 (fld S dm (nI c) nw) := tB_wk (fld_tB h.idm h.2.1 nw (Nat.le_refl _)) (Int.le_refl _) (by have := h.2.1; omega)
  have h2 : tB 0 6000 (100 * fld S dm (nI c) nw) := tB_wk (tB_mul (tB_k 100 100 rfl) h1 (by decide) (by decide) (by decide)) (by decide) (by decide)
  exact tB_div h2 (tB_of (h.2.2.1 c hc).2.2.2)
theorem fdi_tB {ch on us s : Nat → Int32} {c nc : Nat} (hu : ∀ n, n < nc → tB 0 6000 (us n)) (hs : ∀ n, n < nc → tB 0 4000 (s n)) (h5 : nc ≤ 5) : ∀ n : Nat, n ≤ nc → tB 0 (240000 * n) (fdi ch on us s c n)
  | 0, _ => tB_k 0 0 rfl
  | n + 1, hn => by
    have ih := fdi_tB (ch := ch) (on := on) (c := c) hu hs h5 n (by omega)
    have h1 : tB 0 (24000000 / 100) (s n * us n / 100) := tB_divk 100 100 rfl (by decide) (tB_wk (tB_mul (hs n (by omega)) (hu n (by omega)) (by decide) (by decide) (by decide)) (by decide) (by decide))
    unfold fdi
    split
    · exact tB_wk ih (Int.le_refl _) (by omega)
    · split
      · exact tB_wk ih (Int.le_refl _) (by omega)
      · split
        · exact tB_wk (tB_add ih h1 (by omega) (by omega)) (by omega) (by omega)
        · exact tB_wk ih (Int.le_refl _) (by omega)
theorem INV.iden (h : INV nc nw cx cy ch rm wx wy dm sv) {on us : Nat → Int32} (hu : ∀ n, n < nc → tB 0 6000 (us n)) {c w : Nat} (hw : w < nw) : tB 10 1200010 (10 + fdi ch on us (sgw cx cy wx wy w) c nc) := by
  have h1 : tB 0 1200000 (fdi ch on us (sgw cx cy wx wy w) c nc) := tB_wk (fdi_tB hu (fun n hn => h.isg hn hw) h.1 nc (Nat.le_refl _)) (Int.le_refl _) (by have := h.1; omega)
  exact tB_wk (tB_add (tB_k 10 10 rfl) h1 (by decide) (by decide)) (by decide) (by decide)
theorem INV.ifil (h : INV nc nw cx cy ch rm wx wy dm sv) (S M : Nat → Int32) : ∀ n, n < nc → tB 0 6000 (fil nc (fus rm S dm nw) M n) := fun n hn => by
  unfold fil
  rw [if_pos hn]
  exact h.ius S hn
theorem INV.iGQ (h : INV nc nw cx cy ch rm wx wy dm sv) (on : Nat → Int32) : GQ nc nw cx cy ch on wx wy rm dm := fun S M _ _ _ hw => tB_ne (h.iden (h.ifil S M) hw) (by decide)
theorem INV.iqu (h : INV nc nw cx cy ch rm wx wy dm sv) {on us : Nat → Int32} (hu : ∀ n, n < nc → tB 0 6000 (us n)) {c w : Nat} (hc : c < nc) (hw : w < nw) : tB 0 40000 (fqu cx cy ch on wx wy us nc w c) := by
  have h1 : tB 0 400000 (100 * sg cx cy wx wy c w) := tB_wk (tB_mul (tB_k 100 100 rfl) (h.isg hc hw) (by decide) (by decide) (by decide)) (by decide) (by decide)
  have h2 := h.iden (on := on) hu (c := c) hw
  unfold fqu
  generalize hx : 100 * sg cx cy wx wy c w = x at h1
  generalize 10 + fdi ch on us (sgw cx cy wx wy w) c nc = y at h2
  have h4 : x.toInt.tdiv y.toInt = x.toInt / y.toInt := Int.tdiv_eq_ediv_of_nonneg h1.1
  have h5 : 0 ≤ x.toInt / y.toInt := Int.ediv_nonneg h1.1 (by have := h2.1; omega)
  have h6 : x.toInt / y.toInt ≤ 40000 := by
    apply Int.ediv_le_of_le_mul (by have := h2.1; omega)
    have := h2.1; have := h1.2
    omega
  unfold tB
  rw [Int32.toInt_div, h4, bm_id (by omega) (by omega)]
  exact ⟨h5, h6⟩
end BD
/-! what is measured depends on the first cells' uses alone -/
theorem fdi_cg {ch on us us' s : Nat → Int32} {c nc : Nat} (hu : ∀ n, n < nc → us n = us' n) : ∀ n : Nat, n ≤ nc → fdi ch on us s c n = fdi ch on us' s c n
  | 0, _ => rfl
  | n + 1, hn => by
    unfold fdi
    rw [fdi_cg hu n (by omega), hu n (by omega)]
theorem fqu_cg {cx cy ch on wx wy us us' : Nat → Int32} {nc w c : Nat} (hu : ∀ n, n < nc → us n = us' n) : fqu cx cy ch on wx wy us nc w c = fqu cx cy ch on wx wy us' nc w c := by
  unfold fqu
  rw [fdi_cg hu nc (Nat.le_refl _)]
theorem fil_cg {nc : Nat} {f M M' : Nat → Int32} : ∀ n, n < nc → fil nc f M n = fil nc f M' n := fun n hn => by
  unfold fil
  rw [if_pos hn, if_pos hn]
theorem fqu_fil {cx cy ch on wx wy rm sv dm M M' : Nat → Int32} {nc nw w c : Nat} : fqu cx cy ch on wx wy (fil nc (fus rm sv dm nw) M) nc w c = fqu cx cy ch on wx wy (fil nc (fus rm sv dm nw) M') nc w c := fqu_cg fil_cg
theorem fbo_cg {t q q' : Nat → Int32} : ∀ n : Nat, (∀ c, c < n → q c = q' c) → fbo t q n = fbo t q' n
  | 0, _ => rfl
  | n + 1, h => by
    have ih := fbo_cg (t := t) n (fun c hc => h c (by omega))
    unfold fbo
    rw [← ih]
    cases hb : fbo t q n with
    | none => rfl
    | some b => simp only [h n (by omega), h b (by have := fbo_lt hb; omega)]
theorem fts_cg {on dm rm : Nat → Int32} {nc nw : Nat} {Q Q' : Nat → Nat → Int32} {mg pt bd tk : Int32} {w : Nat} {z : TS} (hc : nc < 2 ^ 31) (h : ∀ c, c < nc → Q w c = Q' w c) (hz : SV nc (z.1 w)) : fts on dm rm nc nw Q mg pt bd tk w z = fts on dm rm nc nw Q' mg pt bd tk w z := by
  unfold fts
  rw [← fbo_cg (q := Q w) (q' := Q' w) nc h]
  by_cases h1 : z.1 w = -1
  · rw [if_pos h1, if_pos h1]
    cases hb : fbo (fun u => ftk on z.1 dm rm nw w u) (Q w) nc with
    | none => rfl
    | some k => simp only [h k (fbo_lt hb)]
  · rw [if_neg h1, if_neg h1]
    have h2 : (z.1 w).toNatClampNeg < nc := by
      rcases hz with hz | ⟨k, hk, hz⟩
      · exact absurd hz h1
      · rw [hz, nI_clamp (by omega)]; exact hk
    rw [← h _ h2]
    cases hb : fbo (fun u => ftk on z.1 dm rm nw w u) (Q w) nc with
    | none => rfl
    | some k => simp only [h k (fbo_lt hb)]
theorem ftw_cg {on dm rm : Nat → Int32} {nc nw : Nat} {Q Q' : Nat → Nat → Int32} {mg pt bd tk : Int32} {z : TS} (hc : nc < 2 ^ 31) (h : ∀ w c, w < nw → c < nc → Q w c = Q' w c) (hz : ∀ j, j < nw → SV nc (z.1 j)) : ∀ n : Nat, n ≤ nw → ftw on dm rm nc nw Q mg pt bd tk z n = ftw on dm rm nc nw Q' mg pt bd tk z n
  | 0, _ => rfl
  | n + 1, hn => by
    unfold ftw
    rw [← ftw_cg hc h hz n (by omega)]
    exact fts_cg hc (fun c hc => h n c (by omega) hc) (ftw_sv n hz n (by omega))
end
section
/-! the class' search: the first of the greatest -/
def Vw (F : Nat → Nat → Int32) (nc : Nat) (d : Nat → Nat) : Nat → Int
  | 0 => 0
  | n + 1 => if nc ≤ d n then Vw F nc d n else Vw F nc d n + (F n (d n)).toInt
/-- what the weights F, and the state, keep to -/
def SH (nc nw : Nat) (on rm dm : Nat → Int32) (bd : Int32) (Q F : Nat → Nat → Int32) : Prop :=
  nc ≤ 5 ∧ nw ≤ 6 ∧ (∀ c, c < nc → tB 1 40 (rm c)) ∧ (∀ w, w < nw → tB 1 10 (dm w)) ∧ (∀ u c, u < nw → c < nc → tB 0 1040000 (F u c)) ∧ ∀ u c, u < nw → c < nc → (F u c ≤ 0 ↔ on c = 0 ∨ Q u c < bd)
def enc (nc x : Nat) : Int32 := if nc ≤ x then -1 else nI x
def feas (nc nw : Nat) (on rm dm : Nat → Int32) (bd : Int32) (Q : Nat → Nat → Int32) (N : Nat) : Prop := fok on rm dm bd Q (dg nc nw N) nc nw = true
/-- the first of the greatest among the numbers below M -/
def Opt (nc nw : Nat) (on rm dm : Nat → Int32) (bd : Int32) (Q F : Nat → Nat → Int32) (M : Nat) (be : Nat → Int32) (bw : Int32) : Prop :=
  (bw.toInt = -1 ∧ ∀ N, N < M → ¬ feas nc nw on rm dm bd Q N) ∨
  ∃ N0, N0 < M ∧ feas nc nw on rm dm bd Q N0 ∧ bw.toInt = Vw F nc (dg nc nw N0) nw ∧ (∀ N, N < M → feas nc nw on rm dm bd Q N → Vw F nc (dg nc nw N) nw ≤ Vw F nc (dg nc nw N0) nw) ∧ (∀ N, N < N0 → feas nc nw on rm dm bd Q N → Vw F nc (dg nc nw N) nw < Vw F nc (dg nc nw N0) nw) ∧ ∀ j, j < nw → be j = enc nc (dg nc nw N0 j)
section SE
variable {nc nw : Nat} {on rm dm : Nat → Int32} {bd : Int32} {Q F : Nat → Nat → Int32}
theorem Vw_cg {d d' : Nat → Nat} : ∀ n : Nat, (∀ j, j < n → d j = d' j) → Vw F nc d n = Vw F nc d' n
  | 0, _ => rfl
  | n + 1, h => by
    unfold Vw
    rw [Vw_cg n (fun j hj => h j (by omega)), h n (by omega)]
theorem fgl_cg {d d' : Nat → Nat} {c : Nat} : ∀ n : Nat, (∀ j, j < n → d j = d' j) → fgl d dm c n = fgl d' dm c n
  | 0, _ => rfl
  | n + 1, h => by
    unfold fgl
    rw [fgl_cg n (fun j hj => h j (by omega)), h n (by omega)]
theorem fok_cg {d d' : Nat → Nat} : ∀ n : Nat, (∀ j, j < n → d j = d' j) → fok on rm dm bd Q d nc n = fok on rm dm bd Q d' nc n
  | 0, _ => rfl
  | n + 1, h => by
    unfold fok
    rw [fok_cg n (fun j hj => h j (by omega)), h n (by omega), fgl_cg (n + 1) h]
theorem fok_pre {d : Nat → Nat} {n m : Nat} (hm : n ≤ m) (h : fok on rm dm bd Q d nc m = true) : fok on rm dm bd Q d nc n = true := by
  cases hb : fok on rm dm bd Q d nc n with
  | true => rfl
  | false => rw [fok_false hm hb] at h; cases h
theorem Vw_b (H : SH nc nw on rm dm bd Q F) {d : Nat → Nat} : ∀ n : Nat, n ≤ nw → 0 ≤ Vw F nc d n ∧ Vw F nc d n ≤ 1040000 * n
  | 0, _ => ⟨Int.le_refl _, Int.le_refl _⟩
  | n + 1, hn => by
    have ih := Vw_b H (d := d) n (by omega)
    unfold Vw
    by_cases h : nc ≤ d n
    · rw [if_pos h]; omega
    · rw [if_neg h]
      have := H.2.2.2.2.1 n (d n) (by omega) (by omega)
      unfold tB at this
      omega
theorem fgl_b (H : SH nc nw on rm dm bd Q F) {d : Nat → Nat} {c : Nat} : ∀ n : Nat, n ≤ nw → tB 0 (10 * n) (fgl d dm c n)
  | 0, _ => tB_k 0 0 rfl
  | n + 1, hn => by
    have ih := fgl_b H (d := d) (c := c) n (by omega)
    have := H.2.1
    unfold fgl
    split
    · exact tB_wk (tB_add ih (H.2.2.2.1 n (by omega)) (by omega) (by omega)) (by omega) (by omega)
    · exact tB_wk ih (Int.le_refl _) (by omega)
theorem dg_pre {N w j : Nat} (hw : w ≤ nw) (hj : j < w) : dg nc nw N j = dg nc w (N / (nc + 1) ^ (nw - w)) j := by
  unfold dg
  rw [Nat.div_div_eq_div_mul, ← Nat.pow_add, show nw - w + (w - 1 - j) = nw - 1 - j by omega]
theorem dg_snoc {a c w : Nat} (hc : c ≤ nc) : dg nc (w + 1) (a * (nc + 1) + c) w = c := by
  unfold dg
  rw [show w + 1 - 1 - w = 0 by omega, Nat.pow_zero, Nat.div_one, Nat.add_comm, Nat.add_mul_mod_self_right, Nat.mod_eq_of_lt (by omega)]
theorem dg_init {a c w j : Nat} (hc : c ≤ nc) (hj : j < w) : dg nc (w + 1) (a * (nc + 1) + c) j = dg nc w a j := by
  rw [dg_pre (nw := w + 1) (w := w) (by omega) hj, show w + 1 - w = 1 by omega, Nat.pow_one, Nat.add_comm, Nat.add_mul_div_right _ _ (Nat.succ_pos nc), Nat.div_eq_of_lt (by omega), Nat.zero_add]
theorem fmx_ge {f : Nat → Int32} {c : Nat} : ∀ n : Nat, c < n → (f c).toInt ≤ (fmx f n).toInt
  | 0, h => by omega
  | n + 1, h => by
    show (f c).toInt ≤ (mx (fmx f n) (f n)).toInt
    unfold mx
    by_cases e : c = n
    · subst e
      split
      · exact Int.le_refl _
      · next q => exact Int32.le_iff_toInt_le.mp (Int32.not_lt.mp q)
    · have ih := fmx_ge (f := f) (c := c) n (by omega)
      split
      · next q => exact Int.le_trans ih (Int.le_of_lt (Int32.lt_iff_toInt_lt.mp q))
      · exact ih
theorem fmx_b {f : Nat → Int32} {b : Int} : ∀ n : Nat, 0 ≤ b → (∀ c, c < n → tB 0 b (f c)) → tB 0 b (fmx f n)
  | 0, hb, _ => ⟨Int.le_refl _, hb⟩
  | n + 1, hb, h => by
    have ih := fmx_b (f := f) n hb (fun c hc => h c (by omega))
    show tB 0 b (mx (fmx f n) (f n))
    unfold mx
    split
    · exact h n (by omega)
    · exact ih
/-- what may be hoped for is never too little -/
theorem fho_b (H : SH nc nw on rm dm bd Q F) : ∀ i : Nat, i ≤ nw → tB 0 (1040000 * i) (fho (fun u => fmx (F u) nc) nw i)
  | 0, _ => tB_k 0 0 rfl
  | i + 1, hi => by
    have ih := fho_b H i (by omega)
    have h2 : tB 0 1040000 (fmx (F (nw - (i + 1))) nc) := fmx_b nc (by decide) (fun c hc => H.2.2.2.2.1 _ c (by omega) hc)
    have := H.2.1
    unfold fho
    exact tB_wk (tB_add ih h2 (by omega) (by omega)) (by omega) (by omega)
theorem fho_ge (H : SH nc nw on rm dm bd Q F) {d : Nat → Nat} : ∀ i : Nat, i ≤ nw → Vw F nc d nw - Vw F nc d (nw - i) ≤ (fho (fun u => fmx (F u) nc) nw i).toInt
  | 0, _ => by rw [Nat.sub_zero, Int.sub_self]; exact Int.le_refl _
  | i + 1, hi => by
    have ih := fho_ge H (d := d) i (by omega)
    have h1 := fho_b H i (by omega)
    have h2 : tB 0 1040000 (fmx (F (nw - (i + 1))) nc) := fmx_b nc (by decide) (fun c hc => H.2.2.2.2.1 _ c (by omega) hc)
    have h6 := H.2.1
    have e : Vw F nc d (nw - i) = (if nc ≤ d (nw - (i + 1)) then Vw F nc d (nw - (i + 1)) else Vw F nc d (nw - (i + 1)) + (F (nw - (i + 1)) (d (nw - (i + 1)))).toInt) := by
      rw [show nw - i = (nw - (i + 1)) + 1 by omega]
      rfl
    unfold fho
    unfold tB at h1 h2
    rw [Int32.toInt_add, bm_id (by omega) (by omega)]
    by_cases h : nc ≤ d (nw - (i + 1))
    · rw [if_pos h] at e; omega
    · rw [if_neg h] at e
      have := fmx_ge (f := F (nw - (i + 1))) (c := d (nw - (i + 1))) nc (by omega)
      omega
theorem Opt_skip (H : SH nc nw on rm dm bd Q F) {M M' : Nat} {be : Nat → Int32} {bw : Int32} (h : Opt nc nw on rm dm bd Q F M be bw) (hm : M ≤ M') (hs : ∀ N, M ≤ N → N < M' → feas nc nw on rm dm bd Q N → Vw F nc (dg nc nw N) nw ≤ bw.toInt) : Opt nc nw on rm dm bd Q F M' be bw := by
  rcases h with ⟨h1, h2⟩ | ⟨N0, g1, g2, g3, g4, g5, g6⟩
  · refine Or.inl ⟨h1, fun N hN hf => ?_⟩
    by_cases q : N < M
    · exact h2 N q hf
    · have h3 := hs N (by omega) hN hf
      have h4 := (Vw_b H (d := dg nc nw N) nw (Nat.le_refl _)).1
      omega
  · refine Or.inr ⟨N0, by omega, g2, g3, fun N hN hf => ?_, g5, g6⟩
    by_cases q : N < M
    · exact g4 N q hf
    · rw [← g3]; exact hs N (by omega) hN hf
theorem Opt_take {M : Nat} {be be' : Nat → Int32} {bw bw' : Int32} (h : Opt nc nw on rm dm bd Q F M be bw) (hf : feas nc nw on rm dm bd Q M) (hb : bw'.toInt = Vw F nc (dg nc nw M) nw) (hlt : bw.toInt < bw'.toInt) (he : ∀ j, j < nw → be' j = enc nc (dg nc nw M j)) : Opt nc nw on rm dm bd Q F (M + 1) be' bw' := by
  have key : ∀ N, N < M → feas nc nw on rm dm bd Q N → Vw F nc (dg nc nw N) nw < Vw F nc (dg nc nw M) nw := by
    intro N hN hq
    rcases h with ⟨h1, h2⟩ | ⟨N0, g1, g2, g3, g4, g5, g6⟩
    · exact absurd hq (h2 N hN)
    · have := g4 N hN hq
      omega
  refine Or.inr ⟨M, by omega, hf, hb, fun N hN hq => ?_, key, he⟩
  by_cases q : N < M
  · exact Int.le_of_lt (key N q hq)
  · rw [show N = M by omega]; exact Int.le_refl _
/-- of the numbers in a part: their first digits -/
theorem part_pre {a w N : Nat} (hw : w ≤ nw) (h1 : a * (nc + 1) ^ (nw - w) ≤ N) (h2 : N < (a + 1) * (nc + 1) ^ (nw - w)) : ∀ j, j < w → dg nc nw N j = dg nc w a j := by
  intro j hj
  have : N / (nc + 1) ^ (nw - w) = a := Nat.div_eq_of_lt_le h1 h2
  rw [dg_pre hw hj, this]
/-- the state of the search at a place: the first w walkers' digits are a's -/
def AT (nc nw : Nat) (on rm dm : Nat → Int32) (bd : Int32) (Q F : Nat → Nat → Int32) (a w : Nat) (g : Int32) (s : S4) : Prop :=
  fok on rm dm bd Q (dg nc w a) nc w = true ∧ (∀ c, c < nc → s.1 c = rm c - fgl (dg nc w a) dm c w) ∧ (∀ j, j < w → s.2.1 j = enc nc (dg nc w a j)) ∧ g.toInt = Vw F nc (dg nc w a) w ∧ Opt nc nw on rm dm bd Q F (a * (nc + 1) ^ (nw - w)) s.2.2.1 s.2.2.2
def DN (nc nw : Nat) (on rm dm : Nat → Int32) (bd : Int32) (Q F : Nat → Nat → Int32) (M w : Nat) (s s' : S4) : Prop :=
  (∀ c, c < nc → s'.1 c = s.1 c) ∧ (∀ j, j < w → s'.2.1 j = s.2.1 j) ∧ Opt nc nw on rm dm bd Q F M s'.2.2.1 s'.2.2.2
theorem fok_snoc {a c w : Nat} (hc : c ≤ nc) : fok on rm dm bd Q (dg nc (w + 1) (a * (nc + 1) + c)) nc (w + 1) = (if fok on rm dm bd Q (dg nc w a) nc w = true then (if nc ≤ c then true else if on c = 0 then false else if Q w c < bd then false else if fgl (dg nc w a) dm c w + dm w ≤ rm c then true else false) else false) := by
  have e1 : fok on rm dm bd Q (dg nc (w + 1) (a * (nc + 1) + c)) nc w = fok on rm dm bd Q (dg nc w a) nc w := fok_cg w (fun j hj => dg_init hc hj)
  have e2 : fgl (dg nc (w + 1) (a * (nc + 1) + c)) dm c w = fgl (dg nc w a) dm c w := fgl_cg w (fun j hj => dg_init hc hj)
  rw [fok, e1, dg_snoc hc, fgl, dg_snoc hc, if_pos (rfl : c = c), e2]
theorem fgl_snoc {a c c2 w : Nat} (hc : c ≤ nc) : fgl (dg nc (w + 1) (a * (nc + 1) + c)) dm c2 (w + 1) = (if c = c2 then fgl (dg nc w a) dm c2 w + dm w else fgl (dg nc w a) dm c2 w) := by
  have e2 : fgl (dg nc (w + 1) (a * (nc + 1) + c)) dm c2 w = fgl (dg nc w a) dm c2 w := fgl_cg w (fun j hj => dg_init hc hj)
  rw [fgl, dg_snoc hc, e2]
theorem Vw_snoc {a c w : Nat} (hc : c ≤ nc) : Vw F nc (dg nc (w + 1) (a * (nc + 1) + c)) (w + 1) = (if nc ≤ c then Vw F nc (dg nc w a) w else Vw F nc (dg nc w a) w + (F w c).toInt) := by
  have e2 : Vw F nc (dg nc (w + 1) (a * (nc + 1) + c)) w = Vw F nc (dg nc w a) w := Vw_cg w (fun j hj => dg_init hc hj)
  rw [Vw, dg_snoc hc, e2]
theorem pw_step {B a c k : Nat} (hk : 0 < k) : (a * B + c) * B ^ (k - 1) = a * B ^ k + c * B ^ (k - 1) := by
  rw [Nat.add_mul, Nat.mul_assoc, ← Nat.pow_succ', show (k - 1).succ = k by omega]
/-- one cell after another -/
theorem fpi_ok (H : SH nc nw on rm dm bd Q F) {wo : Nat → Nat → Int32} {f : Int32 → S4 → S4} {a w : Nat} {g : Int32} {s : S4} (hw : w < nw) (hwo : ∀ c, c < nc → wo w c = F w c)
    (hf : ∀ (c : Nat) (g' : Int32) (s' : S4), c < nc → AT nc nw on rm dm bd Q F (a * (nc + 1) + c) (w + 1) g' s' → DN nc nw on rm dm bd Q F ((a * (nc + 1) + c + 1) * (nc + 1) ^ (nw - (w + 1))) (w + 1) s' (f g' s'))
    (hA : AT nc nw on rm dm bd Q F a w g s) : ∀ c : Nat, c ≤ nc → DN nc nw on rm dm bd Q F ((a * (nc + 1) + c) * (nc + 1) ^ (nw - (w + 1))) w s (fpi f (wo w) (dm w) w g s c)
  | 0, _ => by
    refine ⟨fun _ _ => rfl, fun _ _ => rfl, ?_⟩
    have e : (a * (nc + 1) + 0) * (nc + 1) ^ (nw - (w + 1)) = a * (nc + 1) ^ (nw - w) := by
      rw [Nat.add_zero, Nat.mul_assoc, ← Nat.pow_succ', show (nw - (w + 1)).succ = nw - w by omega]
    rw [e]
    exact hA.2.2.2.2
  | c + 1, hc => by
    have ih := fpi_ok H hw hwo hf hA c (by omega)
    obtain ⟨i1, i2, i3⟩ := ih
    have h6 := H.2.1
    have hskip : fok on rm dm bd Q (dg nc (w + 1) (a * (nc + 1) + c)) nc (w + 1) = false → Opt nc nw on rm dm bd Q F ((a * (nc + 1) + (c + 1)) * (nc + 1) ^ (nw - (w + 1))) (fpi f (wo w) (dm w) w g s c).2.2.1 (fpi f (wo w) (dm w) w g s c).2.2.2 := by
      intro hno
      refine Opt_skip H i3 (Nat.mul_le_mul_right _ (by omega)) (fun N h1 h2 h3 => ?_)
      have h4 := part_pre (nc := nc) (nw := nw) (a := a * (nc + 1) + c) (w := w + 1) (by omega) h1 h2
      have h5 := fok_pre (show w + 1 ≤ nw by omega) h3
      rw [fok_cg (w + 1) h4, hno] at h5
      cases h5
    have hfw := H.2.2.2.2.2 w c hw (by omega)
    have hgl := fgl_b H (d := dg nc w a) (c := c) w (by omega)
    have hrm := H.2.2.1 c (by omega)
    have hdm := H.2.2.2.1 w hw
    have hrl : (fpi f (wo w) (dm w) w g s c).1 c = rm c - fgl (dg nc w a) dm c w := by rw [i1 c (by omega), hA.2.1 c (by omega)]
    have hroom : ((fpi f (wo w) (dm w) w g s c).1 c < dm w) ↔ ¬ (fgl (dg nc w a) dm c w + dm w ≤ rm c) := by
      rw [hrl, Int32.lt_iff_toInt_lt, Int32.le_iff_toInt_le]
      unfold tB at hgl hrm hdm
      rw [Int32.toInt_sub, Int32.toInt_add, bm_id (by omega) (by omega), bm_id (by omega) (by omega)]
      omega
    have hsn := fok_snoc (on := on) (rm := rm) (dm := dm) (bd := bd) (Q := Q) (a := a) (w := w) (show c ≤ nc by omega)
    rw [if_pos hA.1, if_neg (show ¬ nc ≤ c by omega)] at hsn
    unfold fpi
    by_cases c1 : wo w c ≤ 0
    · rw [if_pos c1]
      refine ⟨i1, i2, hskip ?_⟩
      rw [hwo c (by omega)] at c1
      rw [hsn]
      rcases hfw.mp c1 with q | q
      · rw [if_pos q]
      · rw [if_pos q]; split <;> rfl
    · rw [if_neg c1]
      rw [hwo c (by omega)] at c1
      have n1 : ¬ on c = 0 := fun q => c1 (hfw.mpr (Or.inl q))
      have n2 : ¬ Q w c < bd := fun q => c1 (hfw.mpr (Or.inr q))
      rw [if_neg n1, if_neg n2] at hsn
      by_cases c2 : (fpi f (wo w) (dm w) w g s c).1 c < dm w
      · rw [if_pos c2]
        refine ⟨i1, i2, hskip ?_⟩
        rw [hsn, if_neg (hroom.mp c2)]
      · rw [if_neg c2]
        have n3 : fgl (dg nc w a) dm c w + dm w ≤ rm c := by
          by_cases q : fgl (dg nc w a) dm c w + dm w ≤ rm c
          · exact q
          · exact absurd (hroom.mpr q) c2
        rw [if_pos n3] at hsn
        have hV := Vw_b H (d := dg nc w a) w (by omega)
        have hF := H.2.2.2.2.1 w c hw (by omega)
        have hat : AT nc nw on rm dm bd Q F (a * (nc + 1) + c) (w + 1) (g + wo w c) (upd (fpi f (wo w) (dm w) w g s c).1 c ((fpi f (wo w) (dm w) w g s c).1 c - dm w), upd (fpi f (wo w) (dm w) w g s c).2.1 w (nI c), (fpi f (wo w) (dm w) w g s c).2.2.1, (fpi f (wo w) (dm w) w g s c).2.2.2) := by
          refine ⟨hsn, fun c2 hc2 => ?_, fun j hj => ?_, ?_, i3⟩
          · show (if c2 = c then _ else _) = _
            rw [fgl_snoc (by omega)]
            by_cases q : c2 = c
            · subst q
              rw [if_pos rfl, if_pos rfl, hrl, Int32.sub_sub]
            · rw [if_neg q, if_neg (fun h => q h.symm), i1 c2 hc2, hA.2.1 c2 hc2]
          · show (if j = w then _ else _) = _
            by_cases q : j = w
            · subst q
              rw [if_pos rfl, dg_snoc (by omega), enc, if_neg (by omega)]
            · rw [if_neg q, dg_init (by omega) (by omega), i2 j (by omega), hA.2.2.1 j (by omega)]
          · rw [Vw_snoc (by omega), if_neg (by omega), hwo c (by omega), Int32.toInt_add, hA.2.2.2.1]
            unfold tB at hF
            rw [bm_id (by omega) (by omega)]
        obtain ⟨r1, r2, r3⟩ := hf c _ _ (by omega) hat
        refine ⟨fun c2 hc2 => ?_, fun j hj => ?_, r3⟩
        · show (if c2 = c then _ else _) = _
          by_cases q : c2 = c
          · rw [if_pos q, r1 c (by omega), q]
            show (if c = c then (fpi f (wo w) (dm w) w g s c).1 c - dm w else _) + dm w = _
            rw [if_pos rfl, Int32.sub_add_cancel, i1 c (by omega)]
          · rw [if_neg q, r1 c2 hc2]
            show (if c2 = c then _ else _) = _
            rw [if_neg q, i1 c2 hc2]
        · show _ = s.2.1 j
          rw [r2 j (by omega)]
          show (if j = w then _ else _) = _
          rw [if_neg (by omega), i2 j hj]
/-- the search from a place on -/
theorem fpl_ok (H : SH nc nw on rm dm bd Q F) {hp : Nat → Int32} {wo : Nat → Nat → Int32} (hhp : ∀ t, t ≤ nw → hp t = fho (fun u => fmx (F u) nc) nw (nw - t)) (hwo : ∀ t c, t < nw → c < nc → wo t c = F t c) : ∀ (k a w : Nat) (g : Int32) (s : S4), w ≤ nw → nw + 1 ≤ w + k → AT nc nw on rm dm bd Q F a w g s → DN nc nw on rm dm bd Q F ((a + 1) * (nc + 1) ^ (nw - w)) w s (fpl hp wo dm nc nw k w g s)
  | 0, a, w, g, s, h1, h2, _ => absurd h2 (by omega)
  | k + 1, a, w, g, s, hw, hk, hA => by
    have h6 := H.2.1
    have hV := Vw_b H (d := dg nc w a) w hw
    have hh := fho_b H (nw - w) (by omega)
    have hgh : (g + hp w).toInt = Vw F nc (dg nc w a) w + (hp w).toInt := by
      rw [← hhp w hw] at hh
      unfold tB at hh
      rw [Int32.toInt_add, hA.2.2.2.1, bm_id (by omega) (by omega)]
    unfold fpl
    by_cases c1 : g + hp w ≤ s.2.2.2
    · rw [if_pos c1]
      refine ⟨fun _ _ => rfl, fun _ _ => rfl, Opt_skip H hA.2.2.2.2 (Nat.mul_le_mul_right _ (by omega)) (fun N h1 h2 h3 => ?_)⟩
      have h4 := part_pre (nc := nc) hw h1 h2
      have h5 := fho_ge H (d := dg nc nw N) (nw - w) (by omega)
      rw [show nw - (nw - w) = w by omega, Vw_cg w h4, ← hhp w hw] at h5
      have h7 := Int32.le_iff_toInt_le.mp c1
      omega
    · rw [if_neg c1]
      have c1' := Int32.lt_iff_toInt_lt.mp (Int32.not_le.mp c1)
      by_cases c2 : nw ≤ w
      · rw [if_pos c2]
        have hwn : w = nw := by omega
        subst hwn
        refine ⟨fun _ _ => rfl, fun _ _ => rfl, ?_⟩
        have hO := hA.2.2.2.2
        rw [Nat.sub_self, Nat.pow_zero, Nat.mul_one] at hO ⊢
        rw [hhp w (Nat.le_refl _), Nat.sub_self] at hgh c1'
        have h0 : (fho (fun u => fmx (F u) nc) w 0).toInt = 0 := rfl
        exact Opt_take hO hA.1 hA.2.2.2.1 (by rw [hA.2.2.2.1]; omega) (fun j hj => by show va_cpy s.2.1 s.2.2.1 0 0 w j = _; rw [pk_cpy_in (by omega) (by omega), show 0 + (j - 0) = j by omega]; exact hA.2.2.1 j hj)
      · rw [if_neg c2]
        have hw2 : w < nw := by omega
        have hin := fpi_ok H (wo := wo) (f := fpl hp wo dm nc nw k (w + 1)) hw2 (fun c hc => hwo w c hw2 hc) (fun c g' s' hc hat => fpl_ok H hhp hwo k _ (w + 1) g' s' (by omega) (by omega) hat) hA nc (Nat.le_refl _)
        obtain ⟨i1, i2, i3⟩ := hin
        have hat : AT nc nw on rm dm bd Q F (a * (nc + 1) + nc) (w + 1) g ((fpi (fpl hp wo dm nc nw k (w + 1)) (wo w) (dm w) w g s nc).1, upd (fpi (fpl hp wo dm nc nw k (w + 1)) (wo w) (dm w) w g s nc).2.1 w (-1), (fpi (fpl hp wo dm nc nw k (w + 1)) (wo w) (dm w) w g s nc).2.2.1, (fpi (fpl hp wo dm nc nw k (w + 1)) (wo w) (dm w) w g s nc).2.2.2) := by
          refine ⟨?_, fun c2 hc2 => ?_, fun j hj => ?_, ?_, i3⟩
          · rw [fok_snoc (Nat.le_refl _), if_pos hA.1, if_pos (Nat.le_refl _)]
          · show (fpi (fpl hp wo dm nc nw k (w + 1)) (wo w) (dm w) w g s nc).1 c2 = _
            rw [fgl_snoc (Nat.le_refl _), if_neg (by omega), i1 c2 hc2, hA.2.1 c2 hc2]
          · show (if j = w then _ else _) = _
            by_cases q : j = w
            · subst q
              rw [if_pos rfl, dg_snoc (Nat.le_refl _), enc, if_pos (Nat.le_refl _)]
            · rw [if_neg q, dg_init (Nat.le_refl _) (by omega), i2 j (by omega), hA.2.2.1 j (by omega)]
          · rw [Vw_snoc (Nat.le_refl _), if_pos (Nat.le_refl _)]
            exact hA.2.2.2.1
        obtain ⟨r1, r2, r3⟩ := fpl_ok H hhp hwo k _ (w + 1) g _ (by omega) (by omega) hat
        refine ⟨fun c hc => (r1 c hc).trans (i1 c hc), fun j hj => ?_, ?_⟩
        · rw [r2 j (by omega)]
          show (if j = w then _ else _) = _
          rw [if_neg (by omega), i2 j hj]
        · have e : (a * (nc + 1) + nc + 1) * (nc + 1) ^ (nw - (w + 1)) = (a + 1) * (nc + 1) ^ (nw - w) := by
            rw [Nat.add_assoc, show a * (nc + 1) + (nc + 1) = (a + 1) * (nc + 1) by rw [Nat.add_mul, Nat.one_mul], Nat.mul_assoc, ← Nat.pow_succ', show (nw - (w + 1)).succ = nw - w by omega]
          rw [e] at r3
          exact r3
end SE
end
section
/-! the reference's assignments, and the class' -/
theorem tB_eq {x y : Int32} (h : x.toInt = y.toInt) : x = y := Int32.toInt_inj.mp h
section AG
variable {nc nw : Nat} {on rm dm : Nat → Int32} {bd : Int32} {Q F : Nat → Nat → Int32}
theorem fsv_b {d : Nat → Nat} (h6 : nw ≤ 6) : ∀ n : Nat, n ≤ nw → tB 0 n (fsv d nc n) ∧ (fsv d nc (n + 1)).toInt = (if nc ≤ d n then (fsv d nc n).toInt else (fsv d nc n).toInt + 1)
  | 0, _ => by
    refine ⟨tB_k 0 0 rfl, ?_⟩
    unfold fsv
    split <;> rfl
  | n + 1, hn => by
    obtain ⟨h1, h2⟩ := fsv_b h6 (d := d) n (by omega)
    have hb : tB 0 ((n + 1 : Nat) : Int) (fsv d nc (n + 1)) := by
      unfold tB at h1 ⊢
      rw [h2]
      split <;> omega
    refine ⟨hb, ?_⟩
    rw [fsv]
    split
    · rfl
    · unfold tB at hb
      rw [Int32.toInt_add, show (1 : Int32).toInt = 1 from rfl, bm_id (by omega) (by omega)]
theorem fsu_b {d : Nat → Nat} (h6 : nw ≤ 6) (hQ : ∀ u c, u < nw → c < nc → tB 0 40000 (Q u c)) : ∀ n : Nat, n ≤ nw → tB 0 (40000 * n) (fsu Q d nc n) ∧ (n < nw → (fsu Q d nc (n + 1)).toInt = (if nc ≤ d n then (fsu Q d nc n).toInt else (fsu Q d nc n).toInt + (Q n (d n)).toInt))
  | 0, _ => by
    refine ⟨tB_k 0 0 rfl, fun hn => ?_⟩
    unfold fsu
    split
    · rfl
    · show ((0 : Int32) + Q 0 (d 0)).toInt = (0 : Int32).toInt + _
      rw [Int32.zero_add, show (0 : Int32).toInt = 0 from rfl, Int.zero_add]
  | n + 1, hn => by
    obtain ⟨h1, h2⟩ := fsu_b h6 hQ (d := d) n (by omega)
    have hb : tB 0 (40000 * ((n + 1 : Nat) : Int)) (fsu Q d nc (n + 1)) := by
      unfold tB at h1 ⊢
      rw [h2 (by omega)]
      split
      · omega
      · have := hQ n (d n) (by omega) (by omega)
        unfold tB at this
        omega
    refine ⟨hb, fun hn => ?_⟩
    rw [fsu]
    split
    · rfl
    · have := hQ (n + 1) (d (n + 1)) hn (by omega)
      unfold tB at hb this
      rw [Int32.toInt_add, bm_id (by omega) (by omega)]
theorem fsd_b {d : Nat → Nat} (h6 : nw ≤ 6) (hD : ∀ u, u < nw → tB 1 10 (dm u)) : ∀ n : Nat, n ≤ nw → tB 0 (10 * n) (fsd dm d nc n) ∧ (n < nw → (fsd dm d nc (n + 1)).toInt = (if nc ≤ d n then (fsd dm d nc n).toInt else (fsd dm d nc n).toInt + (dm n).toInt))
  | 0, _ => by
    refine ⟨tB_k 0 0 rfl, fun hn => ?_⟩
    unfold fsd
    split
    · rfl
    · show ((0 : Int32) + dm 0).toInt = (0 : Int32).toInt + _
      rw [Int32.zero_add, show (0 : Int32).toInt = 0 from rfl, Int.zero_add]
  | n + 1, hn => by
    obtain ⟨h1, h2⟩ := fsd_b h6 hD (d := d) n (by omega)
    have hb : tB 0 (10 * ((n + 1 : Nat) : Int)) (fsd dm d nc (n + 1)) := by
      unfold tB at h1 ⊢
      rw [h2 (by omega)]
      split
      · omega
      · have := hD n (by omega)
        unfold tB at this
        omega
    refine ⟨hb, fun hn => ?_⟩
    rw [fsd]
    split
    · rfl
    · have := hD (n + 1) hn
      unfold tB at hb this
      rw [Int32.toInt_add, bm_id (by omega) (by omega)]
/-- of an assignment that can be, the sum of the weights -/
theorem Vw_sum {A : Nat → Nat → Int} {S : Nat → Int} {d : Nat → Nat} (hA : ∀ u c, u < nw → c < nc → ¬ on c = 0 → ¬ Q u c < bd → (F u c).toInt = A u c) (h0 : S 0 = 0) (hS : ∀ n, n < nw → S (n + 1) = (if nc ≤ d n then S n else S n + A n (d n))) : ∀ n : Nat, n ≤ nw → fok on rm dm bd Q d nc n = true → Vw F nc d n = S n
  | 0, _, _ => h0.symm
  | n + 1, hn, hf => by
    have ih := Vw_sum hA h0 hS n (by omega) (fok_pre (by omega) hf)
    rw [Vw, hS n (by omega), ih]
    by_cases h : nc ≤ d n
    · rw [if_pos h, if_pos h]
    · rw [if_neg h, if_neg h]
      have hf2 := fok_pre (show n ≤ n + 1 by omega) hf
      rw [fok, if_pos hf2, if_neg h] at hf
      by_cases n1 : on (d n) = 0
      · rw [if_pos n1] at hf; cases hf
      · rw [if_neg n1] at hf
        by_cases n2 : Q n (d n) < bd
        · rw [if_pos n2] at hf; cases hf
        · rw [hA n (d n) (by omega) (by omega) n1 n2]
def vS (nc nw N : Nat) : Int := (fsv (dg nc nw N) nc nw).toInt
def vD (dm : Nat → Int32) (nc nw N : Nat) : Int := (fsd dm (dg nc nw N) nc nw).toInt
def vB (Q : Nat → Nat → Int32) (nc nw N : Nat) : Int := 1000000 * (fsv (dg nc nw N) nc nw).toInt + (fsu Q (dg nc nw N) nc nw).toInt
/-- what the reference has found, among the numbers below M -/
def RI (nc nw : Nat) (on rm dm : Nat → Int32) (bd : Int32) (Q : Nat → Nat → Int32) (M : Nat) (x : AS) : Prop :=
  ((∀ N, N < M → feas nc nw on rm dm bd Q N → vD dm nc nw N ≤ x.2.2.1.toInt) ∧ (x.2.2.1 = 0 ∨ ∃ N, N < M ∧ feas nc nw on rm dm bd Q N ∧ x.2.2.1.toInt = vD dm nc nw N)) ∧
  ((x.1 = 0 ∧ x.2.1 = -1 ∧ ∀ N, N < M → ¬ feas nc nw on rm dm bd Q N) ∨
   ∃ N0, N0 < M ∧ feas nc nw on rm dm bd Q N0 ∧ x.1 = fsv (dg nc nw N0) nc nw ∧ x.2.1 = fsu Q (dg nc nw N0) nc nw ∧ (∀ N, N < M → feas nc nw on rm dm bd Q N → vB Q nc nw N ≤ vB Q nc nw N0) ∧ (∀ N, N < N0 → feas nc nw on rm dm bd Q N → vB Q nc nw N < vB Q nc nw N0) ∧ ∀ j, j < nw → x.2.2.2 j = nI (dg nc nw N0 j))
theorem RI_all (h6 : nw ≤ 6) (hQ : ∀ u c, u < nw → c < nc → tB 0 40000 (Q u c)) (b0 : Nat → Int32) : ∀ M : Nat, RI nc nw on rm dm bd Q M (fas on rm dm bd Q nc nw b0 M)
  | 0 => ⟨⟨fun N h => absurd h (by omega), Or.inl rfl⟩, Or.inl ⟨rfl, rfl, fun N h => absurd h (by omega)⟩⟩
  | M + 1 => by
    obtain ⟨⟨d1, d2⟩, hb⟩ := RI_all h6 hQ b0 M
    rw [fas]
    generalize fas on rm dm bd Q nc nw b0 M = x at d1 d2 hb
    have hsv := (fsv_b (nc := nc) (d := dg nc nw M) h6 nw (Nat.le_refl _)).1
    have hsu := (fsu_b (d := dg nc nw M) h6 hQ nw (Nat.le_refl _)).1
    unfold tB at hsv hsu
    by_cases hf : fok on rm dm bd Q (dg nc nw M) nc nw = true
    · -- the greatest demand
      have hd : (∀ N, N < M + 1 → feas nc nw on rm dm bd Q N → vD dm nc nw N ≤ (if fsd dm (dg nc nw M) nc nw ≤ x.2.2.1 then x.2.2.1 else fsd dm (dg nc nw M) nc nw).toInt) ∧ ((if fsd dm (dg nc nw M) nc nw ≤ x.2.2.1 then x.2.2.1 else fsd dm (dg nc nw M) nc nw) = 0 ∨ ∃ N, N < M + 1 ∧ feas nc nw on rm dm bd Q N ∧ (if fsd dm (dg nc nw M) nc nw ≤ x.2.2.1 then x.2.2.1 else fsd dm (dg nc nw M) nc nw).toInt = vD dm nc nw N) := by
        by_cases c : fsd dm (dg nc nw M) nc nw ≤ x.2.2.1
        · rw [if_pos c]
          refine ⟨fun N hN hq => ?_, d2.imp id (fun ⟨N, a, b⟩ => ⟨N, by omega, b⟩)⟩
          by_cases q : N < M
          · exact d1 N q hq
          · rw [show N = M by omega]; exact Int32.le_iff_toInt_le.mp c
        · rw [if_neg c]
          refine ⟨fun N hN hq => ?_, Or.inr ⟨M, by omega, hf, rfl⟩⟩
          by_cases q : N < M
          · have := d1 N q hq
            have := Int32.lt_iff_toInt_lt.mp (Int32.not_le.mp c)
            omega
          · rw [show N = M by omega]; exact Int.le_refl _
      have take : (∀ N, N < M → feas nc nw on rm dm bd Q N → vB Q nc nw N < vB Q nc nw M) → ∃ N0, N0 < M + 1 ∧ feas nc nw on rm dm bd Q N0 ∧ fsv (dg nc nw M) nc nw = fsv (dg nc nw N0) nc nw ∧ fsu Q (dg nc nw M) nc nw = fsu Q (dg nc nw N0) nc nw ∧ (∀ N, N < M + 1 → feas nc nw on rm dm bd Q N → vB Q nc nw N ≤ vB Q nc nw N0) ∧ (∀ N, N < N0 → feas nc nw on rm dm bd Q N → vB Q nc nw N < vB Q nc nw N0) ∧ ∀ j, j < nw → fil nw (fun j => nI (dg nc nw M j)) x.2.2.2 j = nI (dg nc nw N0 j) := by
        intro key
        refine ⟨M, by omega, hf, rfl, rfl, fun N hN hq => ?_, key, fun j hj => ?_⟩
        · by_cases q : N < M
          · exact Int.le_of_lt (key N q hq)
          · rw [show N = M by omega]; exact Int.le_refl _
        · unfold fil; rw [if_pos hj]
      unfold fst
      rw [if_pos hf]
      by_cases c1 : x.1 < fsv (dg nc nw M) nc nw
      · rw [if_pos c1]
        refine ⟨hd, Or.inr (take (fun N hN hq => ?_))⟩
        rcases hb with ⟨_, _, h3⟩ | ⟨N0, g1, g2, g3, g4, g5, _⟩
        · exact absurd hq (h3 N hN)
        · have h1 := g5 N hN hq
          have h2 := Int32.lt_iff_toInt_lt.mp c1
          have h3 := (fsu_b (d := dg nc nw N0) h6 hQ nw (Nat.le_refl _)).1
          rw [g3] at h2
          unfold tB at h3
          unfold vB at h1 ⊢
          omega
      · rw [if_neg c1]
        by_cases c2 : fsv (dg nc nw M) nc nw = x.1
        · rw [if_pos c2]
          by_cases c3 : fsu Q (dg nc nw M) nc nw ≤ x.2.1
          · rw [if_pos c3]
            refine ⟨hd, ?_⟩
            have c3' := Int32.le_iff_toInt_le.mp c3
            rcases hb with ⟨_, h2, _⟩ | ⟨N0, g1, g2, g3, g4, g5, g6, g7⟩
            · rw [h2, show (-1 : Int32).toInt = -1 from rfl] at c3'
              omega
            · refine Or.inr ⟨N0, by omega, g2, g3, g4, fun N hN hq => ?_, g6, g7⟩
              by_cases q : N < M
              · exact g5 N q hq
              · rw [show N = M by omega]
                unfold vB
                rw [c2, g3]
                rw [g4] at c3'
                omega
          · rw [if_neg c3]
            refine ⟨hd, Or.inr ?_⟩
            refine take (fun N hN hq => ?_)
            rcases hb with ⟨_, _, h3⟩ | ⟨N0, g1, g2, g3, g4, g5, _⟩
            · exact absurd hq (h3 N hN)
            · have h1 := g5 N hN hq
              have h2 := Int32.lt_iff_toInt_lt.mp (Int32.not_le.mp c3)
              rw [g4] at h2
              unfold vB at h1 ⊢
              rw [c2, g3]
              omega
        · rw [if_neg c2]
          refine ⟨hd, ?_⟩
          have c1' : ¬ x.1.toInt < (fsv (dg nc nw M) nc nw).toInt := fun q => c1 (Int32.lt_iff_toInt_lt.mpr q)
          have c2' : ¬ (fsv (dg nc nw M) nc nw).toInt = x.1.toInt := fun q => c2 (tB_eq q)
          rcases hb with ⟨h1, _, _⟩ | ⟨N0, g1, g2, g3, g4, g5, g6, g7⟩
          · rw [h1, show (0 : Int32).toInt = 0 from rfl] at c1' c2'
            omega
          · refine Or.inr ⟨N0, by omega, g2, g3, g4, fun N hN hq => ?_, g6, g7⟩
            by_cases q : N < M
            · exact g5 N q hq
            · rw [show N = M by omega]
              have h3 := (fsu_b (d := dg nc nw N0) h6 hQ nw (Nat.le_refl _)).1
              unfold tB at h3
              rw [g3] at c1' c2'
              unfold vB
              omega
    · unfold fst
      rw [if_neg hf]
      refine ⟨⟨fun N hN hq => ?_, d2.imp id (fun ⟨N, a, b⟩ => ⟨N, by omega, b⟩)⟩, ?_⟩
      · by_cases q : N < M
        · exact d1 N q hq
        · rw [show N = M by omega] at hq; exact absurd hq hf
      · rcases hb with ⟨h1, h2, h3⟩ | ⟨N0, g1, g2, g3, g4, g5, g6, g7⟩
        · refine Or.inl ⟨h1, h2, fun N hN hq => ?_⟩
          by_cases q : N < M
          · exact h3 N q hq
          · rw [show N = M by omega] at hq; exact absurd hq hf
        · refine Or.inr ⟨N0, by omega, g2, g3, g4, fun N hN hq => ?_, g6, g7⟩
          by_cases q : N < M
          · exact g5 N q hq
          · rw [show N = M by omega] at hq; exact absurd hq hf
/-- the last number: none is served -/
theorem dig_top {B n i : Nat} (hB : 0 < B) (hi : i < n) : (B ^ n - 1) / B ^ i % B = B - 1 := by
  have hp : 0 < B ^ i := Nat.pow_pos hB
  have hm : 0 < B ^ (n - i) := Nat.pow_pos hB
  have e : B ^ n = B ^ (n - i) * B ^ i := by rw [← Nat.pow_add, Nat.sub_add_cancel (by omega)]
  have h1 : (B ^ n - 1) / B ^ i = B ^ (n - i) - 1 := by
    apply Nat.div_eq_of_lt_le
    · rw [e, Nat.sub_mul, Nat.one_mul]; omega
    · rw [Nat.sub_add_cancel hm, ← e]
      have : 0 < B ^ n := Nat.pow_pos hB
      omega
  have h2 : B ^ (n - i) = B ^ (n - i - 1) * B := by rw [← Nat.pow_succ, show (n - i - 1).succ = n - i by omega]
  have hq : 0 < B ^ (n - i - 1) := Nat.pow_pos hB
  have h3 : B ^ (n - i) - 1 = (B - 1) + (B ^ (n - i - 1) - 1) * B := by
    rw [h2, Nat.sub_mul, Nat.one_mul]
    have : B ≤ B ^ (n - i - 1) * B := Nat.le_mul_of_pos_left _ hq
    omega
  rw [h1, h3, Nat.add_mul_mod_self_right, Nat.mod_eq_of_lt (by omega)]
theorem fok_none {d : Nat → Nat} : ∀ n : Nat, (∀ j, j < n → d j = nc) → fok on rm dm bd Q d nc n = true
  | 0, _ => rfl
  | n + 1, h => by
    rw [fok, if_pos (fok_none n (fun j hj => h j (by omega))), if_pos (by rw [h n (by omega)]; exact Nat.le_refl _)]
theorem feas_top : feas nc nw on rm dm bd Q ((nc + 1) ^ nw - 1) := by
  refine fok_none nw (fun j hj => ?_)
  unfold dg
  rw [dig_top (Nat.succ_pos nc) (by omega)]
  omega
/-- the greatest weight, and the assignment, are one -/
theorem Opt_max {be : Nat → Int32} {bw : Int32} (h : Opt nc nw on rm dm bd Q F ((nc + 1) ^ nw) be bw) : ∃ N0, N0 < (nc + 1) ^ nw ∧ feas nc nw on rm dm bd Q N0 ∧ bw.toInt = Vw F nc (dg nc nw N0) nw ∧ (∀ N, N < (nc + 1) ^ nw → feas nc nw on rm dm bd Q N → Vw F nc (dg nc nw N) nw ≤ Vw F nc (dg nc nw N0) nw) ∧ (∀ N, N < N0 → feas nc nw on rm dm bd Q N → Vw F nc (dg nc nw N) nw < Vw F nc (dg nc nw N0) nw) ∧ ∀ j, j < nw → be j = enc nc (dg nc nw N0 j) := by
  rcases h with ⟨_, h⟩ | h
  · have : 0 < (nc + 1) ^ nw := Nat.pow_pos (Nat.succ_pos nc)
    exact absurd feas_top (h _ (by omega))
  · exact h
theorem RI_max {x : AS} (h : RI nc nw on rm dm bd Q ((nc + 1) ^ nw) x) : ∃ N0, N0 < (nc + 1) ^ nw ∧ feas nc nw on rm dm bd Q N0 ∧ x.1 = fsv (dg nc nw N0) nc nw ∧ x.2.1 = fsu Q (dg nc nw N0) nc nw ∧ (∀ N, N < (nc + 1) ^ nw → feas nc nw on rm dm bd Q N → vB Q nc nw N ≤ vB Q nc nw N0) ∧ (∀ N, N < N0 → feas nc nw on rm dm bd Q N → vB Q nc nw N < vB Q nc nw N0) ∧ ∀ j, j < nw → x.2.2.2 j = nI (dg nc nw N0 j) := by
  rcases h.2 with ⟨_, _, h⟩ | h
  · have : 0 < (nc + 1) ^ nw := Nat.pow_pos (Nat.succ_pos nc)
    exact absurd feas_top (h _ (by omega))
  · exact h
end AG
/-! the three weights -/
def Fw (on dm : Nat → Int32) (bd : Int32) (Q : Nat → Nat → Int32) (pw pd pq : Int32) : Nat → Nat → Int32 := fun u c => fwv on bd (pw + pd * dm u) pq (Q u) c
/-- the state's bounds, as the search needs them -/
def QB (nc nw : Nat) (rm dm : Nat → Int32) (Q : Nat → Nat → Int32) : Prop := nc ≤ 5 ∧ nw ≤ 6 ∧ (∀ c, c < nc → tB 1 40 (rm c)) ∧ (∀ w, w < nw → tB 1 10 (dm w)) ∧ ∀ u c, u < nw → c < nc → tB 0 40000 (Q u c)
section AH
variable {nc nw : Nat} {on rm dm : Nat → Int32} {bd : Int32} {Q : Nat → Nat → Int32} {pw pd pq : Int32}
theorem SH_of (H : QB nc nw rm dm Q) (hg : ∀ u, u < nw → tB 1 1000000 (pw + pd * dm u)) (hp : ∀ u c, u < nw → c < nc → tB 0 40000 (pq * Q u c)) : SH nc nw on rm dm bd Q (Fw on dm bd Q pw pd pq) := by
  refine ⟨H.1, H.2.1, H.2.2.1, H.2.2.2.1, fun u c hu hc => ?_, fun u c hu hc => ?_⟩
  · show tB 0 1040000 (fwv on bd (pw + pd * dm u) pq (Q u) c)
    unfold fwv
    split
    · exact ⟨by decide, by decide⟩
    · split
      · exact ⟨by decide, by decide⟩
      · exact tB_wk (tB_add (hg u hu) (hp u c hu hc) (by decide) (by decide)) (by decide) (by decide)
  · show fwv on bd (pw + pd * dm u) pq (Q u) c ≤ 0 ↔ _
    unfold fwv
    by_cases n1 : on c = 0
    · rw [if_pos n1]
      exact ⟨fun _ => Or.inl n1, fun _ => by decide⟩
    · rw [if_neg n1]
      by_cases n2 : Q u c < bd
      · rw [if_pos n2]
        exact ⟨fun _ => Or.inr n2, fun _ => by decide⟩
      · rw [if_neg n2]
        refine ⟨fun h => ?_, fun h => h.elim (fun h => absurd h n1) (fun h => absurd h n2)⟩
        have h1 := tB_add (hg u hu) (hp u c hu hc) (by decide) (by decide)
        have h2 := Int32.le_iff_toInt_le.mp h
        rw [show (0 : Int32).toInt = 0 from rfl] at h2
        unfold tB at h1
        omega
theorem Fw_val {u c : Nat} (n1 : ¬ on c = 0) (n2 : ¬ Q u c < bd) : Fw on dm bd Q pw pd pq u c = pw + pd * dm u + pq * Q u c := by
  show fwv on bd (pw + pd * dm u) pq (Q u) c = _
  unfold fwv
  rw [if_neg n1, if_neg n2]
theorem gS {x : Int32} (h : tB 1 10 x) : tB 1 1 (1 + 0 * x) := tB_wk (tB_add (tB_k 1 1 rfl) (tB_mul (tB_k 0 0 rfl) h (by decide) (by decide) (by decide)) (by decide) (by decide)) (by decide) (by decide)
theorem gD {x : Int32} (h : tB 1 10 x) : tB 1 10 (0 + 1 * x) := tB_wk (tB_add (tB_k 0 0 rfl) (tB_mul (tB_k 1 1 rfl) h (by decide) (by decide) (by decide)) (by decide) (by decide)) (by decide) (by decide)
theorem gB {x : Int32} (h : tB 1 10 x) : tB 1000000 1000000 (1000000 + 0 * x) := tB_wk (tB_add (tB_k 1000000 1000000 rfl) (tB_mul (tB_k 0 0 rfl) h (by decide) (by decide) (by decide)) (by decide) (by decide)) (by decide) (by decide)
theorem q0 {x : Int32} (h : tB 0 40000 x) : tB 0 0 (0 * x) := tB_wk (tB_mul (tB_k 0 0 rfl) h (by decide) (by decide) (by decide)) (by decide) (by decide)
theorem q1 {x : Int32} (h : tB 0 40000 x) : tB 0 40000 (1 * x) := tB_wk (tB_mul (tB_k 1 1 rfl) h (by decide) (by decide) (by decide)) (by decide) (by decide)
theorem SH_S (H : QB nc nw rm dm Q) : SH nc nw on rm dm bd Q (Fw on dm bd Q 1 0 0) := SH_of H (fun u hu => tB_wk (gS (H.2.2.2.1 u hu)) (by decide) (by decide)) (fun u c hu hc => tB_wk (q0 (H.2.2.2.2 u c hu hc)) (by decide) (by decide))
theorem SH_D (H : QB nc nw rm dm Q) : SH nc nw on rm dm bd Q (Fw on dm bd Q 0 1 0) := SH_of H (fun u hu => tB_wk (gD (H.2.2.2.1 u hu)) (by decide) (by decide)) (fun u c hu hc => tB_wk (q0 (H.2.2.2.2 u c hu hc)) (by decide) (by decide))
theorem SH_B (H : QB nc nw rm dm Q) : SH nc nw on rm dm bd Q (Fw on dm bd Q 1000000 0 1) := SH_of H (fun u hu => tB_wk (gB (H.2.2.2.1 u hu)) (by decide) (by decide)) (fun u c hu hc => tB_wk (q1 (H.2.2.2.2 u c hu hc)) (by decide) (by decide))
theorem Vw_S (H : QB nc nw rm dm Q) {N : Nat} (hf : feas nc nw on rm dm bd Q N) : Vw (Fw on dm bd Q 1 0 0) nc (dg nc nw N) nw = vS nc nw N := by
  refine Vw_sum (A := fun _ _ => 1) (S := fun n => (fsv (dg nc nw N) nc n).toInt) (fun u c hu hc n1 n2 => ?_) rfl (fun n hn => (fsv_b H.2.1 n (by omega)).2) nw (Nat.le_refl _) hf
  have h := tB_add (gS (H.2.2.2.1 u hu)) (q0 (H.2.2.2.2 u c hu hc)) (by decide) (by decide)
  rw [Fw_val n1 n2]
  unfold tB at h
  omega
theorem Vw_D (H : QB nc nw rm dm Q) {N : Nat} (hf : feas nc nw on rm dm bd Q N) : Vw (Fw on dm bd Q 0 1 0) nc (dg nc nw N) nw = vD dm nc nw N := by
  refine Vw_sum (A := fun u _ => (dm u).toInt) (S := fun n => (fsd dm (dg nc nw N) nc n).toInt) (fun u c hu hc n1 n2 => ?_) rfl (fun n hn => (fsd_b H.2.1 H.2.2.2.1 n (by omega)).2 hn) nw (Nat.le_refl _) hf
  rw [Fw_val n1 n2, Int32.zero_add, Int32.one_mul, Int32.zero_mul, Int32.add_zero]
theorem Vw_B (H : QB nc nw rm dm Q) {N : Nat} (hf : feas nc nw on rm dm bd Q N) : Vw (Fw on dm bd Q 1000000 0 1) nc (dg nc nw N) nw = vB Q nc nw N := by
  refine Vw_sum (A := fun u c => 1000000 + (Q u c).toInt) (S := fun n => 1000000 * (fsv (dg nc nw N) nc n).toInt + (fsu Q (dg nc nw N) nc n).toInt) (fun u c hu hc n1 n2 => ?_) rfl (fun n hn => ?_) nw (Nat.le_refl _) hf
  · have h := H.2.2.2.2 u c hu hc
    unfold tB at h
    rw [Fw_val n1 n2, Int32.zero_mul, Int32.add_zero, Int32.one_mul, Int32.toInt_add, show (1000000 : Int32).toInt = 1000000 from rfl, bm_id (by omega) (by omega)]
  · show 1000000 * (fsv (dg nc nw N) nc (n + 1)).toInt + (fsu Q (dg nc nw N) nc (n + 1)).toInt = _
    rw [(fsv_b H.2.1 n (by omega)).2, (fsu_b H.2.1 H.2.2.2.2 n (by omega)).2 hn]
    split <;> omega
theorem ag_served (H : QB nc nw rm dm Q) {be : Nat → Int32} {bw : Int32} {x : AS} (h1 : Opt nc nw on rm dm bd Q (Fw on dm bd Q 1 0 0) ((nc + 1) ^ nw) be bw) (h2 : RI nc nw on rm dm bd Q ((nc + 1) ^ nw) x) : bw = x.1 := by
  obtain ⟨N1, a1, a2, a3, a4, a5, a6⟩ := Opt_max h1
  obtain ⟨N2, b1, b2, b3, b4, b5, b6, b7⟩ := RI_max h2
  apply tB_eq
  rw [a3, Vw_S H a2, b3]
  have c1 := a4 N2 b1 b2
  rw [Vw_S H a2, Vw_S H b2] at c1
  have c2 := b5 N1 a1 a2
  have u1 := (fsu_b (d := dg nc nw N1) H.2.1 H.2.2.2.2 nw (Nat.le_refl _)).1
  have u2 := (fsu_b (d := dg nc nw N2) H.2.1 H.2.2.2.2 nw (Nat.le_refl _)).1
  have h6 := H.2.1
  unfold tB at u1 u2
  unfold vB at c2
  unfold vS at c1 ⊢
  omega
theorem ag_demand (H : QB nc nw rm dm Q) {be : Nat → Int32} {bw : Int32} {x : AS} (h1 : Opt nc nw on rm dm bd Q (Fw on dm bd Q 0 1 0) ((nc + 1) ^ nw) be bw) (h2 : RI nc nw on rm dm bd Q ((nc + 1) ^ nw) x) : bw = x.2.2.1 := by
  obtain ⟨N1, a1, a2, a3, a4, a5, a6⟩ := Opt_max h1
  obtain ⟨⟨b1, b2⟩, _⟩ := h2
  apply tB_eq
  have c0 := b1 N1 a1 a2
  rw [a3, Vw_D H a2]
  rcases b2 with b2 | ⟨N2, g1, g2, g3⟩
  · have u1 := (fsd_b (nc := nc) (d := dg nc nw N1) H.2.1 H.2.2.2.1 nw (Nat.le_refl _)).1
    unfold tB at u1
    rw [b2, show (0 : Int32).toInt = 0 from rfl] at c0 ⊢
    unfold vD at c0 ⊢
    omega
  · have c1 := a4 N2 g1 g2
    rw [Vw_D H a2, Vw_D H g2] at c1
    omega
theorem ag_best (H : QB nc nw rm dm Q) {be : Nat → Int32} {bw : Int32} {x : AS} (h1 : Opt nc nw on rm dm bd Q (Fw on dm bd Q 1000000 0 1) ((nc + 1) ^ nw) be bw) (h2 : RI nc nw on rm dm bd Q ((nc + 1) ^ nw) x) : ∀ j, j < nw → be j = (if nI nc ≤ x.2.2.2 j then -1 else x.2.2.2 j) := by
  obtain ⟨N1, a1, a2, a3, a4, a5, a6⟩ := Opt_max h1
  obtain ⟨N2, b1, b2, b3, b4, b5, b6, b7⟩ := RI_max h2
  have e : N1 = N2 := by
    have c1 := a4 N2 b1 b2
    have c2 := b5 N1 a1 a2
    rw [Vw_B H a2, Vw_B H b2] at c1
    rcases Nat.lt_trichotomy N1 N2 with q | q | q
    · have := b6 N1 q a2; omega
    · exact q
    · have := a5 N2 q b2
      rw [Vw_B H a2, Vw_B H b2] at this
      omega
  subst e
  intro j hj
  have h5 := H.1
  have hd : dg nc nw N1 j ≤ nc := dg_le
  rw [a6 j hj, b7 j hj]
  unfold enc
  by_cases q : nc ≤ dg nc nw N1 j
  · rw [if_pos q, if_pos ((nI_leI (by omega) (by omega)).mpr q)]
  · rw [if_neg q, if_neg (fun h => q ((nI_leI (by omega) (by omega)).mp h))]
theorem fho_cg {f f' : Nat → Int32} {nw : Nat} : ∀ i : Nat, i ≤ nw → (∀ u, u < nw → f u = f' u) → fho f nw i = fho f' nw i
  | 0, _, _ => rfl
  | i + 1, hi, h => by
    unfold fho
    rw [fho_cg i (by omega) h, h _ (by omega)]
theorem fmx_cg {f f' : Nat → Int32} : ∀ n : Nat, (∀ c, c < n → f c = f' c) → fmx f n = fmx f' n
  | 0, _ => rfl
  | n + 1, h => by
    unfold fmx
    rw [fmx_cg n (fun c hc => h c (by omega)), h n (by omega)]
/-- what greatestWorth leaves is the first of the greatest -/
theorem GW_opt (H : SH nc nw on rm dm bd Q (Fw on dm bd Q pw pd pq)) {qq : Nat → Nat → Int32} {rl cn be hp : Nat → Int32} {wo : Nat → Nat → Int32} {z : S4} (hq : ∀ u c, u < nw → c < nc → qq u c = Q u c) (hG : GW nc nw rm on dm qq bd pw pd pq rl cn be hp wo z) : Opt nc nw on rm dm bd Q (Fw on dm bd Q pw pd pq) ((nc + 1) ^ nw) z.2.2.1 z.2.2.2 := by
  obtain ⟨rfl, h1, h2⟩ := hG
  have e : ∀ u c, u < nw → c < nc → fwv on bd (pw + pd * dm u) pq (qq u) c = Fw on dm bd Q pw pd pq u c := fun u c hu hc => by
    show fwv on bd (pw + pd * dm u) pq (qq u) c = fwv on bd (pw + pd * dm u) pq (Q u) c
    unfold fwv
    rw [hq u c hu hc]
  have h := fpl_ok H (hp := hp) (wo := wo) (fun t ht => by rw [h1 t ht]; exact fho_cg _ (by omega) (fun u hu => fmx_cg nc (fun c hc => e u c hu hc))) (fun t c ht hc => by rw [h2 t c ht hc, e t c ht hc]) 7 0 0 0 (va_cpy rm rl 0 0 nc, cn, be, -1) (by omega) (by have := H.2.1; omega)
    ⟨rfl, fun c hc => by
      show va_cpy rm rl 0 0 nc c = _
      rw [pk_cpy_in (by omega) (by omega), show 0 + (c - 0) = c by omega]
      show rm c = rm c - 0
      rw [Int32.sub_zero], fun j hj => absurd hj (by omega), rfl, Or.inl ⟨rfl, fun N hN => absurd hN (by omega)⟩⟩
  have h3 := h.2.2
  rw [show (0 + 1) * (nc + 1) ^ (nw - 0) = (nc + 1) ^ nw by rw [Nat.zero_add, Nat.one_mul, Nat.sub_zero]] at h3
  exact h3
end AH
end
section
/-! what holds of a state, behind each call -/
theorem IC_lt {n : Nat} {x : Int32} (hn : n < 2 ^ 31) (h : IC n x) : x.toNatClampNeg < n := by
  obtain ⟨k, hk, rfl⟩ := h
  rw [nI_clamp (by omega)]
  exact hk
section IN
variable {nc nw : Nat} {cx cy ch rm wx wy dm sv : Nat → Int32}
theorem SV_mono {a b : Nat} {x : Int32} (h : a ≤ b) (q : SV a x) : SV b x := q.imp id (fun ⟨k, hk, e⟩ => ⟨k, by omega, e⟩)
theorem INV_cell (h : INV nc nw cx cy ch rm wx wy dm sv) {p1 p2 p3 p4 : Int32} (hp : inC p1 p2 p3 p4 ∧ nc < 5) : INV (nc + 1) nw (upd cx nc p1) (upd cy nc p2) (upd ch nc p3) (upd rm nc p4) wx wy dm sv := by
  refine ⟨by omega, h.2.1, fun c hc => ?_, h.2.2.2.1, fun j hj => SV_mono (by omega) (h.2.2.2.2 j hj)⟩
  by_cases q : c = nc
  · subst q
    rw [upd_at, upd_at, upd_at, upd_at]
    exact hp.1
  · rw [upd_ne q, upd_ne q, upd_ne q, upd_ne q]
    exact h.2.2.1 c (by omega)
theorem INV_walker (h : INV nc nw cx cy ch rm wx wy dm sv) {p1 p2 p3 : Int32} (hp : inW p1 p2 p3 ∧ nw < 6) : INV nc (nw + 1) cx cy ch rm (upd wx nw p1) (upd wy nw p2) (upd dm nw p3) (upd sv nw (-1)) := by
  refine ⟨h.1, by omega, h.2.2.1, fun w hw => ?_, fun j hj => ?_⟩
  · by_cases q : w = nw
    · subst q
      rw [upd_at, upd_at, upd_at]
      exact hp.1
    · rw [upd_ne q, upd_ne q, upd_ne q]
      exact h.2.2.2.1 w (by omega)
  · by_cases q : j = nw
    · subst q
      rw [upd_at]
      exact Or.inl rfl
    · rw [upd_ne q]
      exact h.2.2.2.2 j (by omega)
theorem INV_tune (h : INV nc nw cx cy ch rm wx wy dm sv) {p1 p2 : Int32} (hp : IC nc p1 ∧ (0 ≤ p2 ∧ p2 ≤ 2)) : INV nc nw cx cy (upd ch p1.toNatClampNeg p2) rm wx wy dm sv := by
  refine ⟨h.1, h.2.1, fun c hc => ?_, h.2.2.2.1, h.2.2.2.2⟩
  have h1 := h.2.2.1 c hc
  by_cases q : c = p1.toNatClampNeg
  · subst q
    rw [upd_at]
    exact ⟨h1.1, h1.2.1, hp.2, h1.2.2.2⟩
  · rw [upd_ne q]
    exact h1
theorem rng_32 {x : Int64} (h : rng x 0 63) : 0 ≤ x.toInt32 ∧ x.toInt32 ≤ 63 := by
  have h1 := Int64.le_iff_toInt_le.mp h.1
  have h2 := Int64.le_iff_toInt_le.mp h.2
  rw [Int32.toInt_toInt64, show (0 : Int32).toInt = 0 from rfl] at h1
  rw [Int32.toInt_toInt64, show (63 : Int32).toInt = 63 from rfl] at h2
  have h3 : x.toInt32.toInt = x.toInt := by rw [Int64.toInt_toInt32, bm_id (by omega) (by omega)]
  refine ⟨Int32.le_iff_toInt_le.mpr ?_, Int32.le_iff_toInt_le.mpr ?_⟩
  · rw [h3, show (0 : Int32).toInt = 0 from rfl]; exact h1
  · rw [h3, show (63 : Int32).toInt = 63 from rfl]; exact h2
theorem INV_move (h : INV nc nw cx cy ch rm wx wy dm sv) {p1 : Int32} {x y : Int64} (hx : rng x 0 63) (hy : rng y 0 63) : INV nc nw cx cy ch rm (upd wx p1.toNatClampNeg x.toInt32) (upd wy p1.toNatClampNeg y.toInt32) dm sv := by
  refine ⟨h.1, h.2.1, h.2.2.1, fun w hw => ?_, h.2.2.2.2⟩
  have h1 := h.2.2.2.1 w hw
  by_cases q : w = p1.toNatClampNeg
  · subst q
    rw [upd_at, upd_at]
    exact ⟨rng_32 hx, rng_32 hy, h1.2.2⟩
  · rw [upd_ne q, upd_ne q]
    exact h1
theorem INV_sv (h : INV nc nw cx cy ch rm wx wy dm sv) {sv' : Nat → Int32} (hs : ∀ j, j < nw → SV nc (sv' j)) : INV nc nw cx cy ch rm wx wy dm sv' := ⟨h.1, h.2.1, h.2.2.1, h.2.2.2.1, hs⟩
theorem frw_sv {c : Int32} {z : (Nat → Int32) × (Nat → Int32) × (Nat → Int32)} {P : Nat → Prop} (h : ∀ j, P j → SV nc (z.1 j)) : ∀ n : Nat, ∀ j, P j → SV nc ((frw c z n).1 j)
  | 0 => h
  | n + 1 => by
    have ih := frw_sv (c := c) h n
    unfold frw
    split
    · exact SV_upd ih (Or.inl rfl)
    · exact ih
theorem INV_turn (h : INV nc nw cx cy ch rm wx wy dm sv) {p1 x : Int32} {fv hd : Nat → Int32} : INV nc nw cx cy ch rm wx wy dm ((if x = 0 then (sv, fv, hd) else frw p1 (sv, fv, hd) nw).1) := by
  refine INV_sv h (fun j hj => ?_)
  split
  · exact h.2.2.2.2 j hj
  · exact frw_sv (z := (sv, fv, hd)) (P := fun j => j < nw) h.2.2.2.2 nw j hj
theorem INV.QB (h : INV nc nw cx cy ch rm wx wy dm sv) (on us : Nat → Int32) : QB nc nw rm dm (fqu cx cy ch on wx wy (fil nc (fus rm sv dm nw) us) nc) := ⟨h.1, h.2.1, fun c hc => tB_of (h.2.2.1 c hc).2.2.2, h.idm, fun _ _ hu hc => h.iqu (h.ifil sv us) hc hu⟩
theorem QF_eq {on mu us : Nat → Int32} {qq : Nat → Nat → Int32} : ∀ u c, u < nw → c < nc → fil2 nw nc (fun w c => fqu cx cy ch on wx wy (fil nc (fus rm sv dm nw) mu) nc w c) qq u c = fqu cx cy ch on wx wy (fil nc (fus rm sv dm nw) us) nc u c := fun u c hu hc => by
  show (if u < nw ∧ c < nc then _ else _) = _
  rw [if_pos ⟨hu, hc⟩]
  exact fqu_fil
end IN
end
section
/-! the law's arrays as worlds; rows that the class did not need -/
def cA (nc nw : Nat) (tk ho ri lo mg pt bd : Int32) : Nat → Int32
  | 0 => nI nc
  | 1 => nI nw
  | 2 => tk
  | 3 => ho
  | 4 => ri
  | 5 => lo
  | 6 => mg
  | 7 => pt
  | 8 => bd
  | _ => 0
section UC
variable {nc nw : Nat} {tk ho ri lo mg pt bd : Int32}
theorem uc_0 {z : Nat} : upd (cA nc nw tk ho ri lo mg pt bd) 0 (nI z) = cA z nw tk ho ri lo mg pt bd := by
  funext j
  unfold upd
  by_cases h : j = 0
  · subst h; rfl
  · rw [if_neg h]
    match j, h with
    | 0, h => exact absurd rfl h
    | 1, _ => rfl
    | 2, _ => rfl
    | 3, _ => rfl
    | 4, _ => rfl
    | 5, _ => rfl
    | 6, _ => rfl
    | 7, _ => rfl
    | 8, _ => rfl
    | k + 9, _ => rfl
theorem uc_1 {z : Nat} : upd (cA nc nw tk ho ri lo mg pt bd) 1 (nI z) = cA nc z tk ho ri lo mg pt bd := by
  funext j
  unfold upd
  by_cases h : j = 1
  · subst h; rfl
  · rw [if_neg h]
    match j, h with
    | 0, _ => rfl
    | 1, h => exact absurd rfl h
    | 2, _ => rfl
    | 3, _ => rfl
    | 4, _ => rfl
    | 5, _ => rfl
    | 6, _ => rfl
    | 7, _ => rfl
    | 8, _ => rfl
    | k + 9, _ => rfl
theorem uc_2 {z : Int32} : upd (cA nc nw tk ho ri lo mg pt bd) 2 z = cA nc nw z ho ri lo mg pt bd := by
  funext j
  unfold upd
  by_cases h : j = 2
  · subst h; rfl
  · rw [if_neg h]
    match j, h with
    | 0, _ => rfl
    | 1, _ => rfl
    | 2, h => exact absurd rfl h
    | 3, _ => rfl
    | 4, _ => rfl
    | 5, _ => rfl
    | 6, _ => rfl
    | 7, _ => rfl
    | 8, _ => rfl
    | k + 9, _ => rfl
theorem uc_3 {z : Int32} : upd (cA nc nw tk ho ri lo mg pt bd) 3 z = cA nc nw tk z ri lo mg pt bd := by
  funext j
  unfold upd
  by_cases h : j = 3
  · subst h; rfl
  · rw [if_neg h]
    match j, h with
    | 0, _ => rfl
    | 1, _ => rfl
    | 2, _ => rfl
    | 3, h => exact absurd rfl h
    | 4, _ => rfl
    | 5, _ => rfl
    | 6, _ => rfl
    | 7, _ => rfl
    | 8, _ => rfl
    | k + 9, _ => rfl
theorem uc_4 {z : Int32} : upd (cA nc nw tk ho ri lo mg pt bd) 4 z = cA nc nw tk ho z lo mg pt bd := by
  funext j
  unfold upd
  by_cases h : j = 4
  · subst h; rfl
  · rw [if_neg h]
    match j, h with
    | 0, _ => rfl
    | 1, _ => rfl
    | 2, _ => rfl
    | 3, _ => rfl
    | 4, h => exact absurd rfl h
    | 5, _ => rfl
    | 6, _ => rfl
    | 7, _ => rfl
    | 8, _ => rfl
    | k + 9, _ => rfl
theorem uc_5 {z : Int32} : upd (cA nc nw tk ho ri lo mg pt bd) 5 z = cA nc nw tk ho ri z mg pt bd := by
  funext j
  unfold upd
  by_cases h : j = 5
  · subst h; rfl
  · rw [if_neg h]
    match j, h with
    | 0, _ => rfl
    | 1, _ => rfl
    | 2, _ => rfl
    | 3, _ => rfl
    | 4, _ => rfl
    | 5, h => exact absurd rfl h
    | 6, _ => rfl
    | 7, _ => rfl
    | 8, _ => rfl
    | k + 9, _ => rfl
theorem uc_6 {z : Int32} : upd (cA nc nw tk ho ri lo mg pt bd) 6 z = cA nc nw tk ho ri lo z pt bd := by
  funext j
  unfold upd
  by_cases h : j = 6
  · subst h; rfl
  · rw [if_neg h]
    match j, h with
    | 0, _ => rfl
    | 1, _ => rfl
    | 2, _ => rfl
    | 3, _ => rfl
    | 4, _ => rfl
    | 5, _ => rfl
    | 6, h => exact absurd rfl h
    | 7, _ => rfl
    | 8, _ => rfl
    | k + 9, _ => rfl
theorem uc_7 {z : Int32} : upd (cA nc nw tk ho ri lo mg pt bd) 7 z = cA nc nw tk ho ri lo mg z bd := by
  funext j
  unfold upd
  by_cases h : j = 7
  · subst h; rfl
  · rw [if_neg h]
    match j, h with
    | 0, _ => rfl
    | 1, _ => rfl
    | 2, _ => rfl
    | 3, _ => rfl
    | 4, _ => rfl
    | 5, _ => rfl
    | 6, _ => rfl
    | 7, h => exact absurd rfl h
    | 8, _ => rfl
    | k + 9, _ => rfl
theorem uc_8 {z : Int32} : upd (cA nc nw tk ho ri lo mg pt bd) 8 z = cA nc nw tk ho ri lo mg pt z := by
  funext j
  unfold upd
  by_cases h : j = 8
  · subst h; rfl
  · rw [if_neg h]
    match j, h with
    | 0, _ => rfl
    | 1, _ => rfl
    | 2, _ => rfl
    | 3, _ => rfl
    | 4, _ => rfl
    | 5, _ => rfl
    | 6, _ => rfl
    | 7, _ => rfl
    | 8, h => exact absurd rfl h
    | k + 9, _ => rfl
end UC
theorem cA_0 : (fun _ => 0 : Nat → Int32) = cA 0 0 0 0 0 0 0 0 0 := by
  funext j
  match j with
  | 0 => rfl
  | 1 => rfl
  | 2 => rfl
  | 3 => rfl
  | 4 => rfl
  | 5 => rfl
  | 6 => rfl
  | 7 => rfl
  | 8 => rfl
  | k + 9 => rfl
def gA (cx cy ch rm on : Nat → Int32) : Nat → Int32 := fun i => if i < 4 then cx i else if i < 8 then cy (i - 4) else if i < 12 then ch (i - 8) else if i < 16 then rm (i - 12) else on (i - 16)
section S_gA
variable {cx cy ch rm on : Nat → Int32} {j : Nat} {z : Int32}
theorem gA_0 (h : j < 4) : gA cx cy ch rm on j = cx j := by
  unfold gA
  rw [if_pos (by omega)]
theorem ugA_0 (h : j < 4) : upd (gA cx cy ch rm on) j z = gA (upd cx j z) cy ch rm on := by
  funext i
  simp only [upd, gA]
  by_cases e : i = j
  · subst e
    rw [if_pos rfl]
    repeat' split
    all_goals first | rfl | omega
  · rw [if_neg e]
    repeat' split
    all_goals first | rfl | omega
theorem gA_1 (h : j < 4) : gA cx cy ch rm on (4 + j) = cy j := by
  unfold gA
  rw [if_neg (by omega), if_pos (by omega), show 4 + j - 4 = j by omega]
theorem ugA_1 (h : j < 4) : upd (gA cx cy ch rm on) (4 + j) z = gA cx (upd cy j z) ch rm on := by
  funext i
  simp only [upd, gA]
  by_cases e : i = 4 + j
  · subst e
    rw [if_pos rfl]
    repeat' split
    all_goals first | rfl | omega
  · rw [if_neg e]
    repeat' split
    all_goals first | rfl | omega
theorem gA_2 (h : j < 4) : gA cx cy ch rm on (8 + j) = ch j := by
  unfold gA
  rw [if_neg (by omega), if_neg (by omega), if_pos (by omega), show 8 + j - 8 = j by omega]
theorem ugA_2 (h : j < 4) : upd (gA cx cy ch rm on) (8 + j) z = gA cx cy (upd ch j z) rm on := by
  funext i
  simp only [upd, gA]
  by_cases e : i = 8 + j
  · subst e
    rw [if_pos rfl]
    repeat' split
    all_goals first | rfl | omega
  · rw [if_neg e]
    repeat' split
    all_goals first | rfl | omega
theorem gA_3 (h : j < 4) : gA cx cy ch rm on (12 + j) = rm j := by
  unfold gA
  rw [if_neg (by omega), if_neg (by omega), if_neg (by omega), if_pos (by omega), show 12 + j - 12 = j by omega]
theorem ugA_3 (h : j < 4) : upd (gA cx cy ch rm on) (12 + j) z = gA cx cy ch (upd rm j z) on := by
  funext i
  simp only [upd, gA]
  by_cases e : i = 12 + j
  · subst e
    rw [if_pos rfl]
    repeat' split
    all_goals first | rfl | omega
  · rw [if_neg e]
    repeat' split
    all_goals first | rfl | omega
theorem gA_4 (h : j < 4) : gA cx cy ch rm on (16 + j) = on j := by
  unfold gA
  rw [if_neg (by omega), if_neg (by omega), if_neg (by omega), if_neg (by omega), show 16 + j - 16 = j by omega]
theorem ugA_4 (h : j < 4) : upd (gA cx cy ch rm on) (16 + j) z = gA cx cy ch rm (upd on j z) := by
  funext i
  simp only [upd, gA]
  by_cases e : i = 16 + j
  · subst e
    rw [if_pos rfl]
    repeat' split
    all_goals first | rfl | omega
  · rw [if_neg e]
    repeat' split
    all_goals first | rfl | omega
theorem gA_z : (fun _ => 0 : Nat → Int32) = gA (fun _ => 0) (fun _ => 0) (fun _ => 0) (fun _ => 0) (fun _ => 0) := by
  funext i
  unfold gA
  repeat' split
  all_goals rfl
end S_gA
def hA (wx wy dm sv fv hd lf la : Nat → Int32) : Nat → Int32 := fun i => if i < 4 then wx i else if i < 8 then wy (i - 4) else if i < 12 then dm (i - 8) else if i < 16 then sv (i - 12) else if i < 20 then fv (i - 16) else if i < 24 then hd (i - 20) else if i < 28 then lf (i - 24) else la (i - 28)
section S_hA
variable {wx wy dm sv fv hd lf la : Nat → Int32} {j : Nat} {z : Int32}
theorem hA_0 (h : j < 4) : hA wx wy dm sv fv hd lf la j = wx j := by
  unfold hA
  rw [if_pos (by omega)]
theorem uhA_0 (h : j < 4) : upd (hA wx wy dm sv fv hd lf la) j z = hA (upd wx j z) wy dm sv fv hd lf la := by
  funext i
  simp only [upd, hA]
  by_cases e : i = j
  · subst e
    rw [if_pos rfl]
    repeat' split
    all_goals first | rfl | omega
  · rw [if_neg e]
    repeat' split
    all_goals first | rfl | omega
theorem hA_1 (h : j < 4) : hA wx wy dm sv fv hd lf la (4 + j) = wy j := by
  unfold hA
  rw [if_neg (by omega), if_pos (by omega), show 4 + j - 4 = j by omega]
theorem uhA_1 (h : j < 4) : upd (hA wx wy dm sv fv hd lf la) (4 + j) z = hA wx (upd wy j z) dm sv fv hd lf la := by
  funext i
  simp only [upd, hA]
  by_cases e : i = 4 + j
  · subst e
    rw [if_pos rfl]
    repeat' split
    all_goals first | rfl | omega
  · rw [if_neg e]
    repeat' split
    all_goals first | rfl | omega
theorem hA_2 (h : j < 4) : hA wx wy dm sv fv hd lf la (8 + j) = dm j := by
  unfold hA
  rw [if_neg (by omega), if_neg (by omega), if_pos (by omega), show 8 + j - 8 = j by omega]
theorem uhA_2 (h : j < 4) : upd (hA wx wy dm sv fv hd lf la) (8 + j) z = hA wx wy (upd dm j z) sv fv hd lf la := by
  funext i
  simp only [upd, hA]
  by_cases e : i = 8 + j
  · subst e
    rw [if_pos rfl]
    repeat' split
    all_goals first | rfl | omega
  · rw [if_neg e]
    repeat' split
    all_goals first | rfl | omega
theorem hA_3 (h : j < 4) : hA wx wy dm sv fv hd lf la (12 + j) = sv j := by
  unfold hA
  rw [if_neg (by omega), if_neg (by omega), if_neg (by omega), if_pos (by omega), show 12 + j - 12 = j by omega]
theorem uhA_3 (h : j < 4) : upd (hA wx wy dm sv fv hd lf la) (12 + j) z = hA wx wy dm (upd sv j z) fv hd lf la := by
  funext i
  simp only [upd, hA]
  by_cases e : i = 12 + j
  · subst e
    rw [if_pos rfl]
    repeat' split
    all_goals first | rfl | omega
  · rw [if_neg e]
    repeat' split
    all_goals first | rfl | omega
theorem hA_4 (h : j < 4) : hA wx wy dm sv fv hd lf la (16 + j) = fv j := by
  unfold hA
  rw [if_neg (by omega), if_neg (by omega), if_neg (by omega), if_neg (by omega), if_pos (by omega), show 16 + j - 16 = j by omega]
theorem uhA_4 (h : j < 4) : upd (hA wx wy dm sv fv hd lf la) (16 + j) z = hA wx wy dm sv (upd fv j z) hd lf la := by
  funext i
  simp only [upd, hA]
  by_cases e : i = 16 + j
  · subst e
    rw [if_pos rfl]
    repeat' split
    all_goals first | rfl | omega
  · rw [if_neg e]
    repeat' split
    all_goals first | rfl | omega
theorem hA_5 (h : j < 4) : hA wx wy dm sv fv hd lf la (20 + j) = hd j := by
  unfold hA
  rw [if_neg (by omega), if_neg (by omega), if_neg (by omega), if_neg (by omega), if_neg (by omega), if_pos (by omega), show 20 + j - 20 = j by omega]
theorem uhA_5 (h : j < 4) : upd (hA wx wy dm sv fv hd lf la) (20 + j) z = hA wx wy dm sv fv (upd hd j z) lf la := by
  funext i
  simp only [upd, hA]
  by_cases e : i = 20 + j
  · subst e
    rw [if_pos rfl]
    repeat' split
    all_goals first | rfl | omega
  · rw [if_neg e]
    repeat' split
    all_goals first | rfl | omega
theorem hA_6 (h : j < 4) : hA wx wy dm sv fv hd lf la (24 + j) = lf j := by
  unfold hA
  rw [if_neg (by omega), if_neg (by omega), if_neg (by omega), if_neg (by omega), if_neg (by omega), if_neg (by omega), if_pos (by omega), show 24 + j - 24 = j by omega]
theorem uhA_6 (h : j < 4) : upd (hA wx wy dm sv fv hd lf la) (24 + j) z = hA wx wy dm sv fv hd (upd lf j z) la := by
  funext i
  simp only [upd, hA]
  by_cases e : i = 24 + j
  · subst e
    rw [if_pos rfl]
    repeat' split
    all_goals first | rfl | omega
  · rw [if_neg e]
    repeat' split
    all_goals first | rfl | omega
theorem hA_7 (h : j < 4) : hA wx wy dm sv fv hd lf la (28 + j) = la j := by
  unfold hA
  rw [if_neg (by omega), if_neg (by omega), if_neg (by omega), if_neg (by omega), if_neg (by omega), if_neg (by omega), if_neg (by omega), show 28 + j - 28 = j by omega]
theorem uhA_7 (h : j < 4) : upd (hA wx wy dm sv fv hd lf la) (28 + j) z = hA wx wy dm sv fv hd lf (upd la j z) := by
  funext i
  simp only [upd, hA]
  by_cases e : i = 28 + j
  · subst e
    rw [if_pos rfl]
    repeat' split
    all_goals first | rfl | omega
  · rw [if_neg e]
    repeat' split
    all_goals first | rfl | omega
theorem hA_z : (fun _ => 0 : Nat → Int32) = hA (fun _ => 0) (fun _ => 0) (fun _ => 0) (fun _ => 0) (fun _ => 0) (fun _ => 0) (fun _ => 0) (fun _ => 0) := by
  funext i
  unfold hA
  repeat' split
  all_goals rfl
end S_hA
/-- the law's three arrays -/
def wA (cI : ClassId) (u : Nat → Nat) (nc nw : Nat) (tk ho ri lo mg pt bd : Int32) (cx cy ch rm on wx wy dm sv fv hd lf la : Nat → Int32) : va_W := [(u 0, .inl (cI, 9, .inl (cA nc nw tk ho ri lo mg pt bd))), (u 1, .inl (cI, 20, .inl (gA cx cy ch rm on))), (u 2, .inl (cI, 32, .inl (hA wx wy dm sv fv hd lf la)))]
def wQ (cI : ClassId) (uq : Nat) (qf : Nat → Int32) : va_W := [(uq, .inl (cI, 16, .inl qf))]
def wB (cI : ClassId) (ub un : Nat) (bf nf : Nat → Int32) : va_W := [(ub, .inl (cI, 4, .inl bf)), (un, .inl (cI, 4, .inl nf))]
section LR
variable {p : Program} {l : Launch} {e : Env} {R : Room} {s : State} {m : MethodId} {args : Array Value} {below : List Frame} {meth : Method} {c : Code} {Q : State → Prop} {k n : Nat}
variable {cc : ByteArray} {own : String} {Ts : List Cond} {D : va_G} {tys : List (ClassId × FieldType)} {A : Nat → Prop} {nL : Nat} {ws : va_W} {lv : List (Option Value)} {pc : Nat} {st : List Value}
theorem g_ishr (C : CX p s m args meth c cc own Ts D tys A nL) {x y : Int32} (v : Int32) (hdg : decode cc pc = .ok (.ishr, 1)) (hv : x >>> (y &&& 31) = v) (kk : G p l e R s m args below meth c D A nL Q k n ws lv (pc + 1) (.int v :: st)) : G p l e R s m args below meth c D A nL Q k n ws lv pc (.int y :: .int x :: st) :=
  fun H locs ls hP hD hS hl => lv_ishr C.1 C.2.1 hdg (hv ▸ (kk H locs ls hP hD hS hl))
theorem g_iushr (C : CX p s m args meth c cc own Ts D tys A nL) {x y : Int32} (v : Int32) (hdg : decode cc pc = .ok (.iushr, 1)) (hv : (x.toUInt32 >>> (y.toUInt32 &&& Int32.toUInt32 31)).toInt32 = v) (kk : G p l e R s m args below meth c D A nL Q k n ws lv (pc + 1) (.int v :: st)) : G p l e R s m args below meth c D A nL Q k n ws lv pc (.int y :: .int x :: st) :=
  fun H locs ls hP hD hS hl => lv_iushr C.1 C.2.1 hdg hv (kk H locs ls hP hD hS hl)
theorem g_irem (C : CX p s m args meth c cc own Ts D tys A nL) {x y : Int32} (v : Int32) (hdg : decode cc pc = .ok (.irem, 1)) (hne : ¬ y = 0) (hv : x - x / y * y = v) (kk : G p l e R s m args below meth c D A nL Q k n ws lv (pc + 1) (.int v :: st)) : G p l e R s m args below meth c D A nL Q k n ws lv pc (.int y :: .int x :: st) :=
  fun H locs ls hP hD hS hl => lv_irem C.1 C.2.1 hdg hne (hv ▸ (kk H locs ls hP hD hS hl))
theorem g_lmul (C : CX p s m args meth c cc own Ts D tys A nL) {x y : Int64} (v : Int64) (hdg : decode cc pc = .ok (.lmul, 1)) (hv : x * y = v) (kk : G p l e R s m args below meth c D A nL Q k n ws lv (pc + 1) (.long v :: st)) : G p l e R s m args below meth c D A nL Q k n ws lv pc (.long y :: .long x :: st) :=
  fun H locs ls hP hD hS hl => lv_lmul C.1 C.2.1 hdg (hv ▸ (kk H locs ls hP hD hS hl))
theorem g_lushr (C : CX p s m args meth c cc own Ts D tys A nL) {x : Int64} {y : Int32} (v : Int64) (hdg : decode cc pc = .ok (.lushr, 1)) (hv : (x.toUInt64 >>> (y.toInt64.toUInt64 &&& Int64.toUInt64 63)).toInt64 = v) (kk : G p l e R s m args below meth c D A nL Q k n ws lv (pc + 1) (.long v :: st)) : G p l e R s m args below meth c D A nL Q k n ws lv pc (.int y :: .long x :: st) :=
  fun H locs ls hP hD hS hl => lv_lushr C.1 C.2.1 hdg hv (kk H locs ls hP hD hS hl)
def SCR (A : Nat → Prop) (s : State) (b L : Nat) (xs : Nat → Int32) : Prop := va_X b L xs s s.heap ∧ b < s.heap.size ∧ ¬ A b ∧ L ≤ 260
theorem g_sld (C : CX p s m args meth c cc own Ts D tys A nL) {b L : Nat} {xs : Nat → Int32} (hX : SCR A s b L xs) {i : Int32} (j : Nat) (hi : i = nI j) (hj : j < L) (hdg : decode cc pc = .ok (.iaload, 1)) (kk : G p l e R s m args below meth c D A nL Q k n ws lv (pc + 1) (.int (xs j) :: st)) : G p l e R s m args below meth c D A nL Q k n ws lv pc (.int i :: .ref b :: st) :=
  fun H locs ls hP hD hS hl => va_sld C.1 C.2.1 hX.1 hX.2.1 hX.2.2.1 hS (vin hi hj (Nat.lt_of_le_of_lt hX.2.2.2 (by decide))) hdg (by rw [vcl hi hj (Nat.lt_of_le_of_lt hX.2.2.2 (by decide))]; exact kk H locs ls hP hD hS hl)
theorem g_slen (C : CX p s m args meth c cc own Ts D tys A nL) {b L : Nat} {xs : Nat → Int32} (hX : SCR A s b L xs) (hdg : decode cc pc = .ok (.arraylength, 1)) (kk : G p l e R s m args below meth c D A nL Q k n ws lv (pc + 1) (.int (nI L) :: st)) : G p l e R s m args below meth c D A nL Q k n ws lv pc (.ref b :: st) :=
  fun H locs ls hP hD hS hl => va_slen C.1 C.2.1 hX.1 hX.2.1 hX.2.2.1 hS hdg (kk H locs ls hP hD hS hl)
/-- some of the world forgotten -/
theorem g_drop {wr wc : va_W} (kk : G p l e R s m args below meth c D A nL Q k n wc lv pc st) : G p l e R s m args below meth c D A nL Q k n (wr ++ wc) lv pc st :=
  fun H locs ls hP hD hS hl => kk H locs ls (ap_P hP) (ap_D hD) hS hl
theorem g_swapA {w0 w1 w2 : va_W} (kk : G p l e R s m args below meth c D A nL Q k n ((w0 ++ w2) ++ w1) lv pc st) : G p l e R s m args below meth c D A nL Q k n ((w0 ++ w1) ++ w2) lv pc st :=
  fun H locs ls hP hD hS hl => kk H locs ls (va_P.swap hP) (va_D.swap hD) hS hl
/-- where the class of int arrays is known by its place -/
theorem CX.fI (C : CX p s m args meth c cc own Ts D tys A nL) {cI : ClassId} (i : Nat) (h : tys[i]? = some (cI, .int)) : s.vm.findClass ("[" ++ FieldType.int.toString) = some cI := (C.hK.2 i (cI, .int) h).2
/-- a loop whose room grows -/
theorem g_loopk {σ : Type} (x0 : σ) (I : σ → Prop) (wf : σ → va_W) (lf : σ → List (Option Value)) (kf nf : σ → Nat) (μ : σ → Nat) (hI : I x0) (hw : ws = wf x0) (hl : lv = lf x0) (hk : k ≤ kf x0) (hn : n ≤ nf x0)
    (step : ∀ x, I x → (∀ y, I y → μ y < μ x → G p l e R s m args below meth c D A nL Q (kf y) (nf y) (wf y) (lf y) pc st) → G p l e R s m args below meth c D A nL Q (kf x) (nf x) (wf x) (lf x) pc st) : G p l e R s m args below meth c D A nL Q k n ws lv pc st := by
  have key : ∀ (N : Nat) (x : σ), μ x < N → I x → G p l e R s m args below meth c D A nL Q (kf x) (nf x) (wf x) (lf x) pc st := by
    intro N
    induction N with
    | zero => intro x h; exact absurd h (Nat.not_lt_zero _)
    | succ N ih => intro x h hx; exact step x hx (fun y hy hm => ih y (by omega) hy)
  subst hw
  subst hl
  exact g_widen hk hn (key _ x0 (Nat.lt_succ_self _) hI)
theorem g_loopk1 {α1 : Type} (x1 : α1) (I : α1 → Prop) (wf : α1 → va_W) (lf : α1 → List (Option Value)) (kf nf : α1 → Nat) (μ : α1 → Nat) (hI : I x1) (hw : ws = wf x1) (hl : lv = lf x1) (hk : k ≤ kf x1) (hn : n ≤ nf x1)
    (step : ∀ x1, I x1 → (∀ y1, I y1 → μ y1 < μ x1 → G p l e R s m args below meth c D A nL Q (kf y1) (nf y1) (wf y1) (lf y1) pc st) → G p l e R s m args below meth c D A nL Q (kf x1) (nf x1) (wf x1) (lf x1) pc st) : G p l e R s m args below meth c D A nL Q k n ws lv pc st :=
  g_loopk x1 (fun z => I z) (fun z => wf z) (fun z => lf z) (fun z => kf z) (fun z => nf z) (fun z => μ z) hI hw hl hk hn (fun z hz ih => step z hz (fun y1 h1 h2 => ih y1 h1 h2))
theorem g_loopk2 {α1 α2 : Type} (x1 : α1) (x2 : α2) (I : α1 → α2 → Prop) (wf : α1 → α2 → va_W) (lf : α1 → α2 → List (Option Value)) (kf nf : α1 → α2 → Nat) (μ : α1 → α2 → Nat) (hI : I x1 x2) (hw : ws = wf x1 x2) (hl : lv = lf x1 x2) (hk : k ≤ kf x1 x2) (hn : n ≤ nf x1 x2)
    (step : ∀ x1 x2, I x1 x2 → (∀ y1 y2, I y1 y2 → μ y1 y2 < μ x1 x2 → G p l e R s m args below meth c D A nL Q (kf y1 y2) (nf y1 y2) (wf y1 y2) (lf y1 y2) pc st) → G p l e R s m args below meth c D A nL Q (kf x1 x2) (nf x1 x2) (wf x1 x2) (lf x1 x2) pc st) : G p l e R s m args below meth c D A nL Q k n ws lv pc st :=
  g_loopk (x1, x2) (fun z => I z.1 z.2) (fun z => wf z.1 z.2) (fun z => lf z.1 z.2) (fun z => kf z.1 z.2) (fun z => nf z.1 z.2) (fun z => μ z.1 z.2) hI hw hl hk hn (fun z hz ih => step z.1 z.2 hz (fun y1 y2 h1 h2 => ih (y1, y2) h1 h2))
theorem g_loopk3 {α1 α2 α3 : Type} (x1 : α1) (x2 : α2) (x3 : α3) (I : α1 → α2 → α3 → Prop) (wf : α1 → α2 → α3 → va_W) (lf : α1 → α2 → α3 → List (Option Value)) (kf nf : α1 → α2 → α3 → Nat) (μ : α1 → α2 → α3 → Nat) (hI : I x1 x2 x3) (hw : ws = wf x1 x2 x3) (hl : lv = lf x1 x2 x3) (hk : k ≤ kf x1 x2 x3) (hn : n ≤ nf x1 x2 x3)
    (step : ∀ x1 x2 x3, I x1 x2 x3 → (∀ y1 y2 y3, I y1 y2 y3 → μ y1 y2 y3 < μ x1 x2 x3 → G p l e R s m args below meth c D A nL Q (kf y1 y2 y3) (nf y1 y2 y3) (wf y1 y2 y3) (lf y1 y2 y3) pc st) → G p l e R s m args below meth c D A nL Q (kf x1 x2 x3) (nf x1 x2 x3) (wf x1 x2 x3) (lf x1 x2 x3) pc st) : G p l e R s m args below meth c D A nL Q k n ws lv pc st :=
  g_loopk (x1, x2, x3) (fun z => I z.1 z.2.1 z.2.2) (fun z => wf z.1 z.2.1 z.2.2) (fun z => lf z.1 z.2.1 z.2.2) (fun z => kf z.1 z.2.1 z.2.2) (fun z => nf z.1 z.2.1 z.2.2) (fun z => μ z.1 z.2.1 z.2.2) hI hw hl hk hn (fun z hz ih => step z.1 z.2.1 z.2.2 hz (fun y1 y2 y3 h1 h2 => ih (y1, y2, y3) h1 h2))
theorem g_loopk4 {α1 α2 α3 α4 : Type} (x1 : α1) (x2 : α2) (x3 : α3) (x4 : α4) (I : α1 → α2 → α3 → α4 → Prop) (wf : α1 → α2 → α3 → α4 → va_W) (lf : α1 → α2 → α3 → α4 → List (Option Value)) (kf nf : α1 → α2 → α3 → α4 → Nat) (μ : α1 → α2 → α3 → α4 → Nat) (hI : I x1 x2 x3 x4) (hw : ws = wf x1 x2 x3 x4) (hl : lv = lf x1 x2 x3 x4) (hk : k ≤ kf x1 x2 x3 x4) (hn : n ≤ nf x1 x2 x3 x4)
    (step : ∀ x1 x2 x3 x4, I x1 x2 x3 x4 → (∀ y1 y2 y3 y4, I y1 y2 y3 y4 → μ y1 y2 y3 y4 < μ x1 x2 x3 x4 → G p l e R s m args below meth c D A nL Q (kf y1 y2 y3 y4) (nf y1 y2 y3 y4) (wf y1 y2 y3 y4) (lf y1 y2 y3 y4) pc st) → G p l e R s m args below meth c D A nL Q (kf x1 x2 x3 x4) (nf x1 x2 x3 x4) (wf x1 x2 x3 x4) (lf x1 x2 x3 x4) pc st) : G p l e R s m args below meth c D A nL Q k n ws lv pc st :=
  g_loopk (x1, x2, x3, x4) (fun z => I z.1 z.2.1 z.2.2.1 z.2.2.2) (fun z => wf z.1 z.2.1 z.2.2.1 z.2.2.2) (fun z => lf z.1 z.2.1 z.2.2.1 z.2.2.2) (fun z => kf z.1 z.2.1 z.2.2.1 z.2.2.2) (fun z => nf z.1 z.2.1 z.2.2.1 z.2.2.2) (fun z => μ z.1 z.2.1 z.2.2.1 z.2.2.2) hI hw hl hk hn (fun z hz ih => step z.1 z.2.1 z.2.2.1 z.2.2.2 hz (fun y1 y2 y3 y4 h1 h2 => ih (y1, y2, y3, y4) h1 h2))
theorem g_loopk5 {α1 α2 α3 α4 α5 : Type} (x1 : α1) (x2 : α2) (x3 : α3) (x4 : α4) (x5 : α5) (I : α1 → α2 → α3 → α4 → α5 → Prop) (wf : α1 → α2 → α3 → α4 → α5 → va_W) (lf : α1 → α2 → α3 → α4 → α5 → List (Option Value)) (kf nf : α1 → α2 → α3 → α4 → α5 → Nat) (μ : α1 → α2 → α3 → α4 → α5 → Nat) (hI : I x1 x2 x3 x4 x5) (hw : ws = wf x1 x2 x3 x4 x5) (hl : lv = lf x1 x2 x3 x4 x5) (hk : k ≤ kf x1 x2 x3 x4 x5) (hn : n ≤ nf x1 x2 x3 x4 x5)
    (step : ∀ x1 x2 x3 x4 x5, I x1 x2 x3 x4 x5 → (∀ y1 y2 y3 y4 y5, I y1 y2 y3 y4 y5 → μ y1 y2 y3 y4 y5 < μ x1 x2 x3 x4 x5 → G p l e R s m args below meth c D A nL Q (kf y1 y2 y3 y4 y5) (nf y1 y2 y3 y4 y5) (wf y1 y2 y3 y4 y5) (lf y1 y2 y3 y4 y5) pc st) → G p l e R s m args below meth c D A nL Q (kf x1 x2 x3 x4 x5) (nf x1 x2 x3 x4 x5) (wf x1 x2 x3 x4 x5) (lf x1 x2 x3 x4 x5) pc st) : G p l e R s m args below meth c D A nL Q k n ws lv pc st :=
  g_loopk (x1, x2, x3, x4, x5) (fun z => I z.1 z.2.1 z.2.2.1 z.2.2.2.1 z.2.2.2.2) (fun z => wf z.1 z.2.1 z.2.2.1 z.2.2.2.1 z.2.2.2.2) (fun z => lf z.1 z.2.1 z.2.2.1 z.2.2.2.1 z.2.2.2.2) (fun z => kf z.1 z.2.1 z.2.2.1 z.2.2.2.1 z.2.2.2.2) (fun z => nf z.1 z.2.1 z.2.2.1 z.2.2.2.1 z.2.2.2.2) (fun z => μ z.1 z.2.1 z.2.2.1 z.2.2.2.1 z.2.2.2.2) hI hw hl hk hn (fun z hz ih => step z.1 z.2.1 z.2.2.1 z.2.2.2.1 z.2.2.2.2 hz (fun y1 y2 y3 y4 y5 h1 h2 => ih (y1, y2, y3, y4, y5) h1 h2))
/-- a static method without handlers that never throws, though it makes throwables -/
theorem gx_callN (C : CX p s m args meth c cc own Ts D tys A nL) (hX : XX A s s.heap) {y : MethodName} {wds : List Cond} {fr lo mc ms index maxL nA : Nat} {bytes : ByteArray} {ret : Option FieldType} (wr wc : va_W) (As : List Value) {stk : List Value} {post : Int32 → va_W → Prop} (hM : CxI l y wds fr lo mc ms D tys As wc post (fun _ => False)) (cw : CallB R s args own index y bytes maxL ret wds { frames := fr, cells := mc, slots := ms, locals := lo } mc ms nA ∧ (Cond.static y).before args s = true) (hnA : As.length = nA) (hws : ws = wr ++ wc) (hst : stk = As.reverse ++ st) (hcat : (st.map fun v => v.category).sum ≤ 8) (hdg : decode cc pc = .ok (.invokestatic index, 3)) (hkn : k + mc ≤ R.cells ∧ n + ms ≤ R.slots)
    (kk : ∀ (r : Int32) (w1 : va_W), post r w1 → G p l e R s m args below meth c D A nL Q (k + mc) (n + ms) (wr ++ w1) lv (pc + 3) (.int r :: st)) : G p l e R s m args below meth c D A nL Q k n ws lv pc (stk) := by
  subst hws
  subst hst
  intro H locs ls hP hD hS hl
  refine vx_calli (A1 := va_A wc H.size) (gx_runS C hX hP hD hS hl (hM H.size) cw hnA hcat hdg hkn) hS (fun q _ h => ap_F hD hS C.hA q h) (ap_F hD hS C.hA) (fun q _ h => ap_F hD hS C.hA q h) ?_ ?_
  · intro E ce q9 u t H1 locs1 ht hvm _ hB
    exact absurd hB.1 (fun h => h)
  · intro r u t H1 locs1 ht hvm hw hB hz1 hk1 hS1
    exact kk r u.1 hw.1 H1 locs1 ls (ap_join hP hD hk1 (ap_F hD hS C.hA) (ht ▸ hB.1) hB.2.2).1 (ap_join hP hD hk1 (ap_F hD hS C.hA) (ht ▸ hB.1) hB.2.2).2 hS1 hl
theorem rmL {fr lo mc ms a b : Nat} (h1 : a ≤ mc) (h2 : b ≤ ms) : a ≤ ({ frames := fr, cells := mc, slots := ms, locals := lo } : Room).cells ∧ b ≤ ({ frames := fr, cells := mc, slots := ms, locals := lo } : Room).slots := ⟨h1, h2⟩
end LR
/-! a method that reads the script alone -/
def Bs (D : va_G) (tys : List (ClassId × FieldType)) (b L : Nat) (xs : Nat → Int32) (sz : Nat) : State → Prop := fun U => Bf D tys [] sz U ∧ va_X b L xs U U.heap ∧ b < U.heap.size
theorem Bs_blind {D : va_G} {tys : List (ClassId × FieldType)} {av : List Value} {b L : Nat} {xs : Nat → Int32} {sz : Nat} : FrameBlind (va_Pc av (Bs D tys b L xs sz)) := fun a U g mk q => by
  obtain ⟨q0, ⟨q1, qP, qK, qD⟩, e1, e2⟩ := q
  exact ⟨q0, ⟨q1, qP, va_K.moved (u := U) (U := U.calling g mk a) (Vm.Alike.refl U.vm) qK, qD⟩, e1.moved (u := U) (U := U.calling g mk a) (Vm.Alike.refl U.vm), e2⟩
def CsI (l : Launch) (y : MethodName) (wds : List Cond) (fr lo mc ms : Nat) (D : va_G) (tys : List (ClassId × FieldType)) (av : List Value) (b L : Nat) (xs : Nat → Int32) (post : Int32 → va_W → Prop) : Prop :=
  ∀ sz : Nat, Met l y wds { frames := fr, cells := mc, slots := ms, locals := lo } (va_Pc av (Bs D tys b L xs sz)) (va_Qi (fun r u => post r u.1 ∧ u.2 = tys) (Af D [] sz) (va_A [] sz)) mc ms (va_A [] sz)
theorem csI_of {l : Launch} {D : va_G} {tys : List (ClassId × FieldType)} {y : MethodName} {wds wds' : List Cond} {fr lo mc ms : Nat} {av : List Value} {b L : Nat} {xs : Nat → Int32} (hL : L ≤ 260) {post : Int32 → va_W → Prop} {cc : ByteArray} {maxL : Nat} {ret : Option FieldType} (own : String) (r : Nat) (lv0 : List (Option Value)) (hy : plainName y.cls = true) (hw : wds = Cond.code y cc maxL ret :: wds') (hown : y.cls = own) (hlen : (lg_sl av).length ≤ maxL) (hlv : lvE av ++ List.replicate r none = lv0)
    (body : ∀ (p : Program) (e : Env) (s : State) (m : MethodId) (args : Array Value) (below : List Frame) (meth : Method) (c : Code), CX p s m args meth c cc own wds D tys (va_A [] s.heap.size) maxL → meth.sig.returnType = ret → SCR (va_A [] s.heap.size) s b L xs →
      G p l e { frames := fr, cells := mc, slots := ms, locals := lo } s m args below meth c D (va_A [] s.heap.size) maxL (QI below post D tys [] args s mc ms) 0 0 [] lv0 0 []) : CsI l y wds fr lo mc ms D tys av b L xs post := by
  intro sz
  refine Met.ofW (cc := cc) (maxL := maxL) (ret := ret) hy hw ?_
  intro p e s m args below meth c s₁ B hml hv
  obtain ⟨rfl, ⟨hsz, hP, hK, hD0⟩, hX, hb⟩ := hv
  subst hsz
  rw [lg_entry_eq]
  exact body p e s m av.toArray below meth c ⟨B.exec, B.bytes, hml, by rw [← hown]; exact findClass_of_methodNamed B.named, atoms_spec (ws := wds) B.pre, hK, fun q h => Or.inr h, B.notSynchronized⟩ B.returns ⟨hX, hb, fun h => h.elim (fun ⟨k, q, hq⟩ => by simp at hq) (fun h => absurd hb (Nat.not_lt.mpr h)), hL⟩ s.heap [] _ hP (hD0.self) va_S.rf (lh_entry hlen hlv)
section LR2
variable {p : Program} {l : Launch} {e : Env} {R : Room} {s : State} {m : MethodId} {args : Array Value} {below : List Frame} {meth : Method} {c : Code} {Q : State → Prop} {k n : Nat}
variable {cc : ByteArray} {own : String} {Ts : List Cond} {D : va_G} {tys : List (ClassId × FieldType)} {A : Nat → Prop} {nL : Nat} {ws : va_W} {lv : List (Option Value)} {pc : Nat} {st : List Value}
theorem g_callR (C : CX p s m args meth c cc own Ts D tys A nL) {b L : Nat} {xs : Nat → Int32} (hX : SCR A s b L xs) {y : MethodName} {wds : List Cond} {fr lo mc ms index maxL nA : Nat} {bytes : ByteArray} {ret : Option FieldType} (As : List Value) {stk : List Value} {post : Int32 → va_W → Prop} (hM : CsI l y wds fr lo mc ms D tys (As) b L xs post)  (cw : CallB R s args own index y bytes maxL ret wds { frames := fr, cells := mc, slots := ms, locals := lo } mc ms nA ∧ (Cond.static y).before args s = true) (hnA : As.length = nA) (hst : stk = As.reverse ++ st) (hcat : (st.map fun v => v.category).sum ≤ 8) (hdg : decode cc pc = .ok (.invokestatic index, 3)) (hkn : k + mc ≤ R.cells ∧ n + ms ≤ R.slots)
    (kk : ∀ (r : Int32) (w1 : va_W), post r w1 → G p l e R s m args below meth c D A nL Q (k + mc) (n + ms) (ws ++ w1) lv (pc + 3) (.int r :: st)) : G p l e R s m args below meth c D A nL Q k n ws lv pc (stk) := by
  intro H locs ls hP hD hS hl
  rw [← List.append_nil ws] at hP hD
  exact va_calli (A1 := va_A [] H.size) (va_runS (As := As) (rest := st) C.fix (hM H.size) cw ⟨Bs_blind, fun U hU hW => ⟨rfl, ⟨by rw [hU], by rw [hU]; exact ap_P hP, va_K.moved hW.alike C.hK, (ap_D hD).weaken (fun _ _ _ _ => trivial)⟩, by rw [hU]; exact (hX.1.kept (hS.2.1 b hX.2.1 hX.2.2.1)).moved hW.alike, by rw [hU]; exact Nat.lt_of_lt_of_le hX.2.1 hS.1⟩⟩ rfl hnA hl.1 hst (lv_room hcat) hdg hkn) hS (fun q _ h => ap_F hD hS C.hA q h) (ap_F hD hS C.hA) (fun r u t H1 locs1 ht hvm hw hB hz1 hk1 hS1 => kk r u.1 hw.1 H1 locs1 ls (ap_join hP hD hk1 (ap_F hD hS C.hA) (ht ▸ hB.1) hB.2.2).1 (ap_join hP hD hk1 (ap_F hD hS C.hA) (ht ▸ hB.1) hB.2.2).2 hS1 hl)
end LR2
/-! numbers -/
theorem i_lt {x y : Int32} : x < y ↔ x.toInt < y.toInt := Int32.lt_iff_toInt_lt
theorem i_le {x y : Int32} : x ≤ y ↔ x.toInt ≤ y.toInt := Int32.le_iff_toInt_le
/-- what 'some' answers, of any int -/
theorem some_ok {x y : Int32} (hy : 0 < y.toInt) : 0 ≤ ((x.toUInt32 >>> ((2 : Int32).toUInt32 &&& Int32.toUInt32 31)).toInt32 - (x.toUInt32 >>> ((2 : Int32).toUInt32 &&& Int32.toUInt32 31)).toInt32 / y * y).toInt ∧ ((x.toUInt32 >>> ((2 : Int32).toUInt32 &&& Int32.toUInt32 31)).toInt32 - (x.toUInt32 >>> ((2 : Int32).toUInt32 &&& Int32.toUInt32 31)).toInt32 / y * y).toInt < y.toInt := by
  have h0 : 0 ≤ ((x.toUInt32 >>> ((2 : Int32).toUInt32 &&& Int32.toUInt32 31)).toInt32).toInt := by
    have h1 : (x.toUInt32 >>> ((2 : Int32).toUInt32 &&& Int32.toUInt32 31)).toNat < 2 ^ 30 := by
      rw [UInt32.toNat_shiftRight, show ((2 : Int32).toUInt32 &&& Int32.toUInt32 31).toNat % 32 = 2 from by decide, Nat.shiftRight_eq_div_pow]
      have := x.toUInt32.toNat_lt
      omega
    have h2 : ((x.toUInt32 >>> ((2 : Int32).toUInt32 &&& Int32.toUInt32 31)).toInt32).toInt = ((x.toUInt32 >>> ((2 : Int32).toUInt32 &&& Int32.toUInt32 31)).toNat : Int) := by
      show (x.toUInt32 >>> ((2 : Int32).toUInt32 &&& Int32.toUInt32 31)).toBitVec.toInt = _
      rw [BitVec.toInt_eq_toNat_of_lt (by rw [UInt32.toNat_toBitVec]; omega), UInt32.toNat_toBitVec]
    rw [h2]
    omega
  generalize (x.toUInt32 >>> ((2 : Int32).toUInt32 &&& Int32.toUInt32 31)).toInt32 = v at h0
  have e : v - v / y * y = v % y := by
    apply Int32.toInt_inj.mp
    have hv := v.toInt_lt
    have h3 : 0 ≤ v.toInt.tdiv y.toInt := Int.tdiv_nonneg h0 (by omega)
    have h4 : v.toInt.tdiv y.toInt ≤ v.toInt := Int.tdiv_le_self _ h0
    have h5 : v.toInt.tdiv y.toInt * y.toInt + v.toInt.tmod y.toInt = v.toInt := by rw [Int.mul_comm]; exact Int.mul_tdiv_add_tmod _ _
    have h6 : 0 ≤ v.toInt.tmod y.toInt := Int.tmod_nonneg _ h0
    have h7 : 0 ≤ v.toInt.tdiv y.toInt * y.toInt := Int.mul_nonneg h3 (by omega)
    rw [Int32.toInt_sub, Int32.toInt_mul, Int32.toInt_div, Int32.toInt_mod, bm_id (x := v.toInt.tdiv y.toInt) (by omega) (by omega), bm_id (x := v.toInt.tdiv y.toInt * y.toInt) (by omega) (by omega), bm_id (by omega) (by omega)]
    omega
  rw [e, Int32.toInt_mod]
  exact ⟨Int.tmod_nonneg _ h0, Int.tmod_lt_of_pos _ hy⟩
theorem nI_k (a b : Nat) (x : Int32) (h : x = nI a) : x + nI b = nI (a + b) := by rw [h]; exact nI_add a b
theorem nI_mk (a b : Nat) (x : Int32) (h : x = nI a) (hb : a * b < 2 ^ 31 := by omega) : x * nI b = nI (a * b) := by
  rw [h]
  exact (Int32.ofNat_mul a b).symm
theorem ab_pos {x : Int32} (h : 0 < x) : x = ab x := by
  unfold ab
  rw [if_pos (Int32.le_of_lt h)]
theorem ab_neg {x : Int32} (h : ¬ 0 < x) : -x = ab x := by
  unfold ab
  by_cases h0 : 0 ≤ x
  · have e : x = 0 := tB_eq (by
      rw [i_lt] at h; rw [i_le] at h0
      rw [show (0 : Int32).toInt = 0 from rfl] at h h0 ⊢
      omega)
    subst e
    rfl
  · rw [if_neg h0, Int32.zero_sub]
theorem dsq2 (x y u v : Int32) : (2 + ab (x - u) + ab (y - v)) * (2 + ab (x - u) + ab (y - v)) = dsq x y u v := by
  unfold dsq
  rw [Int32.add_comm 2 (ab (x - u)), Int32.add_assoc, Int32.add_comm 2 (ab (y - v)), ← Int32.add_assoc]
end
