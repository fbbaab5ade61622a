/-! G: what is left of a frame, said over worlds: any heap that holds the world ws, any locals that hold lv -/
section GG
variable {p : Program} {l : Launch} {e : Env} {R : Room} {s : State} {m : MethodId} {args : Array Value} {below : List Frame} {meth : Method} {c : Code} {Q : State → Prop} {k n : Nat}
def lh (ls : Array Slot) (nL : Nat) (lv : List (Option Value)) : Prop := ls.size = nL ∧ lv_wf ls ∧ ∀ (i : Nat) (v : Value), lv[i]? = some (some v) → ls[i]? = some (.val v)
def lz (lv : List (Option Value)) : List (Nat × Value) := (List.range lv.length).filterMap (fun i => match lv[i]? with | some (some v) => some (i, v) | _ => none)
theorem lz_mem {lv : List (Option Value)} {i : Nat} {v : Value} : (i, v) ∈ lz lv ↔ lv[i]? = some (some v) := by
  unfold lz
  rw [List.mem_filterMap]
  constructor
  · rintro ⟨j, -, hj⟩
    split at hj
    · next w hw => cases hj; exact hw
    · cases hj
  · intro h
    refine ⟨i, List.mem_range.mpr (List.getElem?_eq_some_iff.mp h).1, ?_⟩
    rw [h]
theorem lh_has {ls : Array Slot} {nL : Nat} {lv : List (Option Value)} (h : lh ls nL lv) : lv_has ls nL (lz lv) := ⟨h.1, h.2.1, fun q hq => h.2.2 q.1 q.2 (lz_mem.mp hq)⟩
def lvok (lv : List (Option Value)) : Nat → Bool
  | 0 => true
  | i + 1 => match lv[i]? with
    | some (some v) => v.category == 1
    | _ => true
theorem lvok_spec {lv : List (Option Value)} {i j : Nat} {v : Value} (h : lvok lv i = true) (hj : lv[j]? = some (some v)) (e : j + 1 = i) : ¬ v.category = 2 := by
  subst e
  simp only [lvok, hj, beq_iff_eq] at h
  omega
theorem lh_set1 {ls : Array Slot} {nL : Nat} {lv : List (Option Value)} {i : Nat} {v : Value} (h : lh ls nL lv) (hi : i < nL) (hc : v.category = 1) (hp : lvok lv i = true) : ∃ ls', storeLocals ls i v = some ls' ∧ lh ls' nL (lv.set i (some v)) := by
  obtain ⟨ls', e, h1, h2, h3⟩ := lv_store1 (lh_has h) hi hc
  refine ⟨ls', e, h1, h2, fun j w hj => ?_⟩
  rw [List.getElem?_set] at hj
  by_cases q : i = j
  · rw [if_pos q] at hj
    subst q
    by_cases q2 : i < lv.length
    · rw [if_pos q2] at hj
      cases hj
      exact h3 (i, v) List.mem_cons_self
    · rw [if_neg q2] at hj
      cases hj
  · rw [if_neg q] at hj
    refine h3 (j, w) (List.mem_cons_of_mem _ (List.mem_filter.mpr ⟨lz_mem.mpr hj, ?_⟩))
    have h5 : ¬ (j = i) := fun z => q z.symm
    by_cases h6 : j + 1 = i
    · have h7 := lvok_spec hp hj h6
      simp [h5, h7]
    · simp [h5, h6]
theorem lh_set2 {ls : Array Slot} {nL : Nat} {lv : List (Option Value)} {i : Nat} {v : Value} (h : lh ls nL lv) (hi : i + 1 < nL) (hc : v.category = 2) (hp : lvok lv i = true) : ∃ ls', storeLocals ls i v = some ls' ∧ lh ls' nL ((lv.set i (some v)).set (i + 1) none) := by
  obtain ⟨ls', e, h1, h2, h3⟩ := lv_store2 (lh_has h) hi hc
  refine ⟨ls', e, h1, h2, fun j w hj => ?_⟩
  rw [List.getElem?_set] at hj
  by_cases q0 : i + 1 = j
  · rw [if_pos q0] at hj
    split at hj
    · cases hj
    · cases hj
  rw [if_neg q0, List.getElem?_set] at hj
  by_cases q : i = j
  · rw [if_pos q] at hj
    subst q
    by_cases q2 : i < lv.length
    · rw [if_pos q2] at hj
      cases hj
      exact h3 (i, v) List.mem_cons_self
    · rw [if_neg q2] at hj
      cases hj
  · rw [if_neg q] at hj
    refine h3 (j, w) (List.mem_cons_of_mem _ (List.mem_filter.mpr ⟨lz_mem.mpr hj, ?_⟩))
    have h5 : ¬ (j = i) := fun z => q z.symm
    have h8 : ¬ (j = i + 1) := fun z => q0 z.symm
    by_cases h6 : j + 1 = i
    · have h7 := lvok_spec hp hj h6
      simp [h5, h7, h8]
    · simp [h5, h6, h8]
def lvm : List Bool → List (Option Value) → List (Option Value)
  | true :: bs, v :: vs => v :: lvm bs vs
  | false :: bs, _ :: vs => none :: lvm bs vs
  | _, _ => []
theorem lvm_spec : ∀ (bs : List Bool) (lv : List (Option Value)) (i : Nat) (v : Value), (lvm bs lv)[i]? = some (some v) → lv[i]? = some (some v)
  | true :: bs, x :: vs, 0, v, h => h
  | true :: bs, x :: vs, i + 1, v, h => lvm_spec bs vs i v h
  | false :: bs, x :: vs, 0, v, h => by cases h
  | false :: bs, x :: vs, i + 1, v, h => lvm_spec bs vs i v h
  | [], _, i, v, h => by simp [lvm] at h
  | true :: _, [], i, v, h => by simp [lvm] at h
  | false :: _, [], i, v, h => by simp [lvm] at h
/-- the locals with which a frame begins -/
def lvE (av : List Value) : List (Option Value) := av.flatMap (fun v => if v.category = 2 then [some v, none] else [some v])
theorem lvE_args : ∀ (av : List Value) (o i : Nat) (v : Value), (lvE av)[i]? = some (some v) → (o + i, v) ∈ lv_args o av
  | [], o, i, v, h => by simp [lvE] at h
  | a :: av, o, i, v, h => by
    have e : lvE (a :: av) = (if a.category = 2 then [some a, none] else [some a]) ++ lvE av := rfl
    rw [e] at h
    by_cases q : a.category = 2
    · rw [if_pos q] at h
      show (o + i, v) ∈ (o, a) :: lv_args (if a.category = 2 then o + 2 else o + 1) av
      rw [if_pos q]
      match i, h with
      | 0, h => cases h; exact List.mem_cons_self
      | 1, h => cases h
      | i + 2, h =>
        have := lvE_args av (o + 2) i v h
        rw [show o + (i + 2) = o + 2 + i by omega]
        exact List.mem_cons_of_mem _ this
    · rw [if_neg q] at h
      show (o + i, v) ∈ (o, a) :: lv_args (if a.category = 2 then o + 2 else o + 1) av
      rw [if_neg q]
      match i, h with
      | 0, h => cases h; exact List.mem_cons_self
      | i + 1, h =>
        have := lvE_args av (o + 1) i v h
        rw [show o + (i + 1) = o + 1 + i by omega]
        exact List.mem_cons_of_mem _ this
theorem lvE_pad {av : List Value} {r i : Nat} {v : Value} (h : (lvE av ++ List.replicate r none)[i]? = some (some v)) : (lvE av)[i]? = some (some v) := by
  by_cases q : i < (lvE av).length
  · rw [List.getElem?_append_left q] at h
    exact h
  · rw [List.getElem?_append_right (by omega), List.getElem?_replicate] at h
    split at h
    · cases h
    · cases h
theorem lh_entry {av : List Value} {n r : Nat} {lv : List (Option Value)} (hl : (lg_sl av).length ≤ n) (hv : lvE av ++ List.replicate r none = lv) : lh ((lg_sl av ++ List.replicate (n - (lg_sl av).length) Slot.unset).toArray) n lv := by
  obtain ⟨h1, h2, h3⟩ := lv_entry av hl
  refine ⟨h1, h2, fun i v h => ?_⟩
  have h4 := lvE_args av 0 i v (lvE_pad (by rw [hv]; exact h))
  rw [Nat.zero_add] at h4
  exact h3 _ h4
def G (p : Program) (l : Launch) (e : Env) (R : Room) (s : State) (m : MethodId) (args : Array Value) (below : List Frame) (meth : Method) (c : Code) (D : va_G) (A : Nat → Prop) (nL : Nat) (Q : State → Prop) (k n : Nat) (ws : va_W) (lv : List (Option Value)) (pc : Nat) (st : List Value) : Prop :=
  ∀ (H : Heap) (locs : List Loc) (ls : Array Slot), va_P D vwCl ws H → va_D A ws → va_S A s.heap H locs → lh ls nL lv → W p l e R s m args below meth c H locs k n Q (F0 m pc ls st)
def CX (p : Program) (s : State) (m : MethodId) (args : Array Value) (meth : Method) (c : Code) (cc : ByteArray) (own : String) (Ts : List Cond) (D : va_G) (tys : List (ClassId × FieldType)) (A : Nat → Prop) (nL : Nat) : Prop :=
  p.tables.exec = Jvm.exec ∧ c.code = cc ∧ c.maxLocals = nL ∧ s.vm.findClass own = some m.cls ∧ (∀ w ∈ Ts, w.before args s = true) ∧ va_K D vwCl tys s ∧ (∀ q, s.heap.size ≤ q → A q) ∧ meth.locks = false
variable {cc : ByteArray} {own : String} {Ts : List Cond} {D : va_G} {tys : List (ClassId × FieldType)} {A : Nat → Prop} {nL : Nat} {ws : va_W} {lv : List (Option Value)} {pc : Nat} {st : List Value}
theorem CX.fix (C : CX p s m args meth c cc own Ts D tys A nL) : CallFix p m c cc nL s args Ts own := ⟨C.1, C.2.1, C.2.2.1, C.2.2.2.1, C.2.2.2.2.1⟩
theorem CX.ts (C : CX p s m args meth c cc own Ts D tys A nL) : ∀ w ∈ Ts, w.before args s = true := C.2.2.2.2.1
theorem CX.hK (C : CX p s m args meth c cc own Ts D tys A nL) : va_K D vwCl tys s := C.2.2.2.2.2.1
theorem CX.hA (C : CX p s m args meth c cc own Ts D tys A nL) : ∀ q, s.heap.size ≤ q → A q := C.2.2.2.2.2.2.1
theorem CX.lk (C : CX p s m args meth c cc own Ts D tys A nL) : meth.locks = false := C.2.2.2.2.2.2.2
/-- the same, the world or the place of the program counter said otherwise -/
theorem g_w {ws' : va_W} (h : ws = ws') (kk : G p l e R s m args below meth c D A nL Q k n ws' lv pc st) : G p l e R s m args below meth c D A nL Q k n ws lv pc st := h ▸ kk
theorem g_st {st' : List Value} (h : st = st') (kk : G p l e R s m args below meth c D A nL Q k n ws lv pc st') : G p l e R s m args below meth c D A nL Q k n ws lv pc st := h ▸ kk
theorem g_lv {lv' : List (Option Value)} (h : lv = lv') (kk : G p l e R s m args below meth c D A nL Q k n ws lv' pc st) : G p l e R s m args below meth c D A nL Q k n ws lv pc st := h ▸ kk
theorem g_mask {lv' : List (Option Value)} (bs : List Bool) (h : lvm bs lv = lv') (kk : G p l e R s m args below meth c D A nL Q k n ws lv' pc st) : G p l e R s m args below meth c D A nL Q k n ws lv pc st :=
  fun H locs ls hP hD hS hl => kk H locs ls hP hD hS ⟨hl.1, hl.2.1, fun i v hi => hl.2.2 i v (lvm_spec bs lv i v (by rw [h]; exact hi))⟩
theorem g_widen {k' n' : Nat} (h1 : k ≤ k') (h2 : n ≤ n') (kk : G p l e R s m args below meth c D A nL Q k' n' ws lv pc st) : G p l e R s m args below meth c D A nL Q k n ws lv pc st :=
  fun H locs ls hP hD hS hl => W.widen h1 h2 (kk H locs ls hP hD hS hl)
theorem g_swap {w1 w2 : va_W} (kk : G p l e R s m args below meth c D A nL Q k n (w2 ++ w1) lv pc st) : G p l e R s m args below meth c D A nL Q k n (w1 ++ w2) lv pc st :=
  fun H locs ls hP hD hS hl => kk H locs ls (va_P.swap (a := []) hP) (va_D.swap (a := []) hD) hS hl
/-- a place where ways meet -/
theorem g_join {σ : Type} (I : σ → Prop) (wf : σ → va_W) (lf : σ → List (Option Value)) (sf : σ → List Value) (pc' k' n' : Nat) (hJ : ∀ x, I x → G p l e R s m args below meth c D A nL Q k' n' (wf x) (lf x) pc' (sf x))
    (kk : (∀ x, I x → G p l e R s m args below meth c D A nL Q k' n' (wf x) (lf x) pc' (sf x)) → G p l e R s m args below meth c D A nL Q k n ws lv pc st) : G p l e R s m args below meth c D A nL Q k n ws lv pc st := kk hJ
/-- a loop: a state x, what holds of it, world and locals at the head, a measure that falls -/
theorem g_loop {σ : Type} (x0 : σ) (I : σ → Prop) (wf : σ → va_W) (lf : σ → List (Option Value)) (μ : σ → Nat) (hI : I x0) (hw : ws = wf x0) (hl : lv = lf x0)
    (step : ∀ x, I x → (∀ y, I y → μ y < μ x → G p l e R s m args below meth c D A nL Q k n (wf y) (lf y) pc st) → G p l e R s m args below meth c D A nL Q k n (wf x) (lf x) pc st) : G p l e R s m args below meth c D A nL Q k n ws lv pc st := by
  have key : ∀ (N : Nat) (x : σ), μ x < N → I x → G p l e R s m args below meth c D A nL Q k n (wf x) (lf x) pc st := by
    intro N
    induction N with
    | zero => intro x h; exact absurd h (Nat.not_lt_zero _)
    | succ N ih => intro x h hx; exact step x hx (fun y hy hm => ih y (by omega) hy)
  subst hw
  subst hl
  exact key _ x0 (Nat.lt_succ_self _) hI

theorem g_iconst (C : CX p s m args meth c cc own Ts D tys A nL) {i : Int} (v : Int32) (hdg : decode cc pc = .ok (.iconst i, 1)) (hv : Int32.ofInt i = v) (kk : G p l e R s m args below meth c D A nL Q k n ws lv (pc + 1) (.int v :: st)) : G p l e R s m args below meth c D A nL Q k n ws lv pc (st) :=
  fun H locs ls hP hD hS hl => lv_iconst C.1 C.2.1 hdg hv (kk H locs ls hP hD hS hl)
theorem g_bipush (C : CX p s m args meth c cc own Ts D tys A nL) {i : Int} (v : Int32) (hdg : decode cc pc = .ok (.bipush i, 2)) (hv : (Int8.ofInt i).toInt32 = v) (kk : G p l e R s m args below meth c D A nL Q k n ws lv (pc + 2) (.int v :: st)) : G p l e R s m args below meth c D A nL Q k n ws lv pc (st) :=
  fun H locs ls hP hD hS hl => lv_bipush C.1 C.2.1 hdg hv (kk H locs ls hP hD hS hl)
theorem g_sipush (C : CX p s m args meth c cc own Ts D tys A nL) {i : Int} (v : Int32) (hdg : decode cc pc = .ok (.sipush i, 3)) (hv : (Int16.ofInt i).toInt32 = v) (kk : G p l e R s m args below meth c D A nL Q k n ws lv (pc + 3) (.int v :: st)) : G p l e R s m args below meth c D A nL Q k n ws lv pc (st) :=
  fun H locs ls hP hD hS hl => lv_sipush C.1 C.2.1 hdg hv (kk H locs ls hP hD hS hl)
theorem g_lconst (C : CX p s m args meth c cc own Ts D tys A nL) {i : Fin 2} (v : Int64) (hdg : decode cc pc = .ok (.lconst i, 1)) (hv : Int64.ofNat (i : Nat) = v) (kk : G p l e R s m args below meth c D A nL Q k n ws lv (pc + 1) (.long v :: st)) : G p l e R s m args below meth c D A nL Q k n ws lv pc (st) :=
  fun H locs ls hP hD hS hl => lv_lconst C.1 C.2.1 hdg hv (kk H locs ls hP hD hS hl)
theorem g_ldc (C : CX p s m args meth c cc own Ts D tys A nL) {index : Nat} {v : Int32} (hc : (Jvm.Cond.constant own index v).before args s = true) (hdg : decode cc pc = .ok (.ldc index, 2)) (kk : G p l e R s m args below meth c D A nL Q k n ws lv (pc + 2) (.int v :: st)) : G p l e R s m args below meth c D A nL Q k n ws lv pc (st) :=
  fun H locs ls hP hD hS hl => lv_ldc C.1 C.2.1 C.2.2.2.1 hc hdg (kk H locs ls hP hD hS hl)
theorem g_ldc2 (C : CX p s m args meth c cc own Ts D tys A nL) {index : Nat} {v : Int64} (hc : (Jvm.Cond.constantLong own index v).before args s = true) (hdg : decode cc pc = .ok (.ldc2_w index, 3)) (kk : G p l e R s m args below meth c D A nL Q k n ws lv (pc + 3) (.long v :: st)) : G p l e R s m args below meth c D A nL Q k n ws lv pc (st) :=
  fun H locs ls hP hD hS hl => lv_ldc2 C.1 C.2.1 C.2.2.2.1 hc hdg (kk H locs ls hP hD hS hl)
theorem g_iload_n (C : CX p s m args meth c cc own Ts D tys A nL) {i : Fin 4} {x : Int32} (hdg : decode cc pc = .ok (.iload_n i, 1)) (hx : lv[(i : Nat)]? = some (some (.int x))) (kk : G p l e R s m args below meth c D A nL Q k n ws lv (pc + 1) (.int x :: st)) : G p l e R s m args below meth c D A nL Q k n ws lv pc (st) :=
  fun H locs ls hP hD hS hl => lv_iload_n C.1 C.2.1 hdg rfl (hl.2.2 _ _ hx) (kk H locs ls hP hD hS hl)
theorem g_iload (C : CX p s m args meth c cc own Ts D tys A nL) {i : Nat} {x : Int32} (hdg : decode cc pc = .ok (.iload i, 2)) (hx : lv[i]? = some (some (.int x))) (kk : G p l e R s m args below meth c D A nL Q k n ws lv (pc + 2) (.int x :: st)) : G p l e R s m args below meth c D A nL Q k n ws lv pc (st) :=
  fun H locs ls hP hD hS hl => lv_iload C.1 C.2.1 hdg (hl.2.2 _ _ hx) (kk H locs ls hP hD hS hl)
theorem g_lload_n (C : CX p s m args meth c cc own Ts D tys A nL) {i : Fin 4} {x : Int64} (hdg : decode cc pc = .ok (.lload_n i, 1)) (hx : lv[(i : Nat)]? = some (some (.long x))) (kk : G p l e R s m args below meth c D A nL Q k n ws lv (pc + 1) (.long x :: st)) : G p l e R s m args below meth c D A nL Q k n ws lv pc (st) :=
  fun H locs ls hP hD hS hl => lv_lload_n C.1 C.2.1 hdg rfl (hl.2.2 _ _ hx) (kk H locs ls hP hD hS hl)
theorem g_lload (C : CX p s m args meth c cc own Ts D tys A nL) {i : Nat} {x : Int64} (hdg : decode cc pc = .ok (.lload i, 2)) (hx : lv[i]? = some (some (.long x))) (kk : G p l e R s m args below meth c D A nL Q k n ws lv (pc + 2) (.long x :: st)) : G p l e R s m args below meth c D A nL Q k n ws lv pc (st) :=
  fun H locs ls hP hD hS hl => lv_lload C.1 C.2.1 hdg (hl.2.2 _ _ hx) (kk H locs ls hP hD hS hl)
theorem g_aload_n (C : CX p s m args meth c cc own Ts D tys A nL) {i : Fin 4} {x : Nat} (hdg : decode cc pc = .ok (.aload_n i, 1)) (hx : lv[(i : Nat)]? = some (some (.ref x))) (kk : G p l e R s m args below meth c D A nL Q k n ws lv (pc + 1) (.ref x :: st)) : G p l e R s m args below meth c D A nL Q k n ws lv pc (st) :=
  fun H locs ls hP hD hS hl => lv_aload_n C.1 C.2.1 hdg rfl (hl.2.2 _ _ hx) (kk H locs ls hP hD hS hl)
theorem g_aload (C : CX p s m args meth c cc own Ts D tys A nL) {i : Nat} {x : Nat} (hdg : decode cc pc = .ok (.aload i, 2)) (hx : lv[i]? = some (some (.ref x))) (kk : G p l e R s m args below meth c D A nL Q k n ws lv (pc + 2) (.ref x :: st)) : G p l e R s m args below meth c D A nL Q k n ws lv pc (st) :=
  fun H locs ls hP hD hS hl => lv_aload C.1 C.2.1 hdg (hl.2.2 _ _ hx) (kk H locs ls hP hD hS hl)
theorem g_istore_n (C : CX p s m args meth c cc own Ts D tys A nL) {i : Fin 4} {x : Int32} (lv' : List (Option Value)) (hdg : decode cc pc = .ok (.istore_n i, 1)) (hi : (i : Nat) < nL) (hp : lvok lv (i : Nat) = true) (hl' : (lv.set (i : Nat) (some (.int x))) = lv') (kk : G p l e R s m args below meth c D A nL Q k n ws lv' (pc + 1) (st)) : G p l e R s m args below meth c D A nL Q k n ws lv pc (.int x :: st) := by
  intro H locs ls hP hD hS hl
  obtain ⟨ls', e', h'⟩ := lh_set1 (v := .int x) hl hi rfl hp
  have hexec := C.1
  have hb := C.2.1
  intro T hT X
  obtain ⟨t, a, b⟩ := kk H locs ls' hP hD hS (hl' ▸ h') T hT X
  refine ⟨t, ?_, b⟩
  jvm_step X.here [X.here.top, ↓top_set X.here.top, hexec, hb, hdg, e']
  exact a
theorem g_istore (C : CX p s m args meth c cc own Ts D tys A nL) {i : Nat} {x : Int32} (lv' : List (Option Value)) (hdg : decode cc pc = .ok (.istore i, 2)) (hi : i < nL) (hp : lvok lv i = true) (hl' : (lv.set i (some (.int x))) = lv') (kk : G p l e R s m args below meth c D A nL Q k n ws lv' (pc + 2) (st)) : G p l e R s m args below meth c D A nL Q k n ws lv pc (.int x :: st) := by
  intro H locs ls hP hD hS hl
  obtain ⟨ls', e', h'⟩ := lh_set1 (v := .int x) hl hi rfl hp
  have hexec := C.1
  have hb := C.2.1
  intro T hT X
  obtain ⟨t, a, b⟩ := kk H locs ls' hP hD hS (hl' ▸ h') T hT X
  refine ⟨t, ?_, b⟩
  jvm_step X.here [X.here.top, ↓top_set X.here.top, hexec, hb, hdg, e']
  exact a
theorem g_astore_n (C : CX p s m args meth c cc own Ts D tys A nL) {i : Fin 4} {x : Nat} (lv' : List (Option Value)) (hdg : decode cc pc = .ok (.astore_n i, 1)) (hi : (i : Nat) < nL) (hp : lvok lv (i : Nat) = true) (hl' : (lv.set (i : Nat) (some (.ref x))) = lv') (kk : G p l e R s m args below meth c D A nL Q k n ws lv' (pc + 1) (st)) : G p l e R s m args below meth c D A nL Q k n ws lv pc (.ref x :: st) := by
  intro H locs ls hP hD hS hl
  obtain ⟨ls', e', h'⟩ := lh_set1 (v := .ref x) hl hi rfl hp
  have hexec := C.1
  have hb := C.2.1
  intro T hT X
  obtain ⟨t, a, b⟩ := kk H locs ls' hP hD hS (hl' ▸ h') T hT X
  refine ⟨t, ?_, b⟩
  jvm_step X.here [X.here.top, ↓top_set X.here.top, hexec, hb, hdg, e']
  exact ⟨rfl, a⟩
theorem g_astore (C : CX p s m args meth c cc own Ts D tys A nL) {i : Nat} {x : Nat} (lv' : List (Option Value)) (hdg : decode cc pc = .ok (.astore i, 2)) (hi : i < nL) (hp : lvok lv i = true) (hl' : (lv.set i (some (.ref x))) = lv') (kk : G p l e R s m args below meth c D A nL Q k n ws lv' (pc + 2) (st)) : G p l e R s m args below meth c D A nL Q k n ws lv pc (.ref x :: st) := by
  intro H locs ls hP hD hS hl
  obtain ⟨ls', e', h'⟩ := lh_set1 (v := .ref x) hl hi rfl hp
  have hexec := C.1
  have hb := C.2.1
  intro T hT X
  obtain ⟨t, a, b⟩ := kk H locs ls' hP hD hS (hl' ▸ h') T hT X
  refine ⟨t, ?_, b⟩
  jvm_step X.here [X.here.top, ↓top_set X.here.top, hexec, hb, hdg, e']
  exact ⟨rfl, a⟩
theorem g_lstore_n (C : CX p s m args meth c cc own Ts D tys A nL) {i : Fin 4} {x : Int64} (lv' : List (Option Value)) (hdg : decode cc pc = .ok (.lstore_n i, 1)) (hi : (i : Nat) + 1 < nL) (hp : lvok lv (i : Nat) = true) (hl' : ((lv.set (i : Nat) (some (.long x))).set ((i : Nat) + 1) none) = lv') (kk : G p l e R s m args below meth c D A nL Q k n ws lv' (pc + 1) (st)) : G p l e R s m args below meth c D A nL Q k n ws lv pc (.long x :: st) := by
  intro H locs ls hP hD hS hl
  obtain ⟨ls', e', h'⟩ := lh_set2 (v := .long x) hl hi rfl hp
  have hexec := C.1
  have hb := C.2.1
  intro T hT X
  obtain ⟨t, a, b⟩ := kk H locs ls' hP hD hS (hl' ▸ h') T hT X
  refine ⟨t, ?_, b⟩
  jvm_step X.here [X.here.top, ↓top_set X.here.top, hexec, hb, hdg, e']
  exact a
theorem g_lstore (C : CX p s m args meth c cc own Ts D tys A nL) {i : Nat} {x : Int64} (lv' : List (Option Value)) (hdg : decode cc pc = .ok (.lstore i, 2)) (hi : i + 1 < nL) (hp : lvok lv i = true) (hl' : ((lv.set i (some (.long x))).set (i + 1) none) = lv') (kk : G p l e R s m args below meth c D A nL Q k n ws lv' (pc + 2) (st)) : G p l e R s m args below meth c D A nL Q k n ws lv pc (.long x :: st) := by
  intro H locs ls hP hD hS hl
  obtain ⟨ls', e', h'⟩ := lh_set2 (v := .long x) hl hi rfl hp
  have hexec := C.1
  have hb := C.2.1
  intro T hT X
  obtain ⟨t, a, b⟩ := kk H locs ls' hP hD hS (hl' ▸ h') T hT X
  refine ⟨t, ?_, b⟩
  jvm_step X.here [X.here.top, ↓top_set X.here.top, hexec, hb, hdg, e']
  exact a
theorem g_iinc (C : CX p s m args meth c cc own Ts D tys A nL) {i : Nat} {j : Int} {x : Int32} (v : Int32) (lv' : List (Option Value)) (hdg : decode cc pc = .ok (.iinc i j, 3)) (hx : lv[i]? = some (some (.int x))) (hv : x + Int32.ofInt j = v) (hi : i < nL) (hp : lvok lv i = true) (hl' : lv.set i (some (.int v)) = lv') (kk : G p l e R s m args below meth c D A nL Q k n ws lv' (pc + 3) (st)) : G p l e R s m args below meth c D A nL Q k n ws lv pc (st) := by
  intro H locs ls hP hD hS hl
  subst hv
  obtain ⟨ls', e', h'⟩ := lh_set1 (v := .int (x + Int32.ofInt j)) hl hi rfl hp
  have hexec := C.1
  have hb := C.2.1
  have hx' := hl.2.2 _ _ hx
  intro T hT X
  obtain ⟨t, a, b⟩ := kk H locs ls' hP hD hS (hl' ▸ h') T hT X
  refine ⟨t, ?_, b⟩
  jvm_step X.here [X.here.top, ↓top_set X.here.top, hexec, hb, hdg, hx', e']
  exact a
theorem g_iadd (C : CX p s m args meth c cc own Ts D tys A nL) {x y : Int32} (v : Int32) (hdg : decode cc pc = .ok (.iadd, 1)) (hv : x + y = v) (kk : G p l e R s m args below meth c D A nL Q k n ws lv (pc + 1) (.int v :: st)) : G p l e R s m args below meth c D A nL Q k n ws lv pc (.int y :: .int x :: st) :=
  fun H locs ls hP hD hS hl => lv_iadd C.1 C.2.1 hdg (hv ▸ (kk H locs ls hP hD hS hl))
theorem g_isub (C : CX p s m args meth c cc own Ts D tys A nL) {x y : Int32} (v : Int32) (hdg : decode cc pc = .ok (.isub, 1)) (hv : x - y = v) (kk : G p l e R s m args below meth c D A nL Q k n ws lv (pc + 1) (.int v :: st)) : G p l e R s m args below meth c D A nL Q k n ws lv pc (.int y :: .int x :: st) :=
  fun H locs ls hP hD hS hl => lv_isub C.1 C.2.1 hdg (hv ▸ (kk H locs ls hP hD hS hl))
theorem g_imul (C : CX p s m args meth c cc own Ts D tys A nL) {x y : Int32} (v : Int32) (hdg : decode cc pc = .ok (.imul, 1)) (hv : x * y = v) (kk : G p l e R s m args below meth c D A nL Q k n ws lv (pc + 1) (.int v :: st)) : G p l e R s m args below meth c D A nL Q k n ws lv pc (.int y :: .int x :: st) :=
  fun H locs ls hP hD hS hl => lv_imul C.1 C.2.1 hdg (hv ▸ (kk H locs ls hP hD hS hl))
theorem g_iand (C : CX p s m args meth c cc own Ts D tys A nL) {x y : Int32} (v : Int32) (hdg : decode cc pc = .ok (.iand, 1)) (hv : x &&& y = v) (kk : G p l e R s m args below meth c D A nL Q k n ws lv (pc + 1) (.int v :: st)) : G p l e R s m args below meth c D A nL Q k n ws lv pc (.int y :: .int x :: st) :=
  fun H locs ls hP hD hS hl => lv_iand C.1 C.2.1 hdg (hv ▸ (kk H locs ls hP hD hS hl))
theorem g_ior (C : CX p s m args meth c cc own Ts D tys A nL) {x y : Int32} (v : Int32) (hdg : decode cc pc = .ok (.ior, 1)) (hv : x ||| y = v) (kk : G p l e R s m args below meth c D A nL Q k n ws lv (pc + 1) (.int v :: st)) : G p l e R s m args below meth c D A nL Q k n ws lv pc (.int y :: .int x :: st) :=
  fun H locs ls hP hD hS hl => lv_ior C.1 C.2.1 hdg (hv ▸ (kk H locs ls hP hD hS hl))
theorem g_idiv (C : CX p s m args meth c cc own Ts D tys A nL) {x y : Int32} (v : Int32) (hdg : decode cc pc = .ok (.idiv, 1)) (hne : ¬ y = 0) (hv : x / y = v) (kk : G p l e R s m args below meth c D A nL Q k n ws lv (pc + 1) (.int v :: st)) : G p l e R s m args below meth c D A nL Q k n ws lv pc (.int y :: .int x :: st) :=
  fun H locs ls hP hD hS hl => lv_idiv C.1 C.2.1 hdg hne (hv ▸ (kk H locs ls hP hD hS hl))
theorem g_ineg (C : CX p s m args meth c cc own Ts D tys A nL) {x : Int32} (v : Int32) (hdg : decode cc pc = .ok (.ineg, 1)) (hv : -x = v) (kk : G p l e R s m args below meth c D A nL Q k n ws lv (pc + 1) (.int v :: st)) : G p l e R s m args below meth c D A nL Q k n ws lv pc (.int x :: st) :=
  fun H locs ls hP hD hS hl => lv_ineg C.1 C.2.1 hdg (hv ▸ (kk H locs ls hP hD hS hl))
theorem g_ishl (C : CX p s m args meth c cc own Ts D tys A nL) {x y : Int32} (v : Int32) (hdg : decode cc pc = .ok (.ishl, 1)) (hv : x <<< (y &&& 31) = v) (kk : G p l e R s m args below meth c D A nL Q k n ws lv (pc + 1) (.int v :: st)) : G p l e R s m args below meth c D A nL Q k n ws lv pc (.int y :: .int x :: st) :=
  fun H locs ls hP hD hS hl => lv_ishl C.1 C.2.1 hdg (hv ▸ (kk H locs ls hP hD hS hl))
theorem g_ladd (C : CX p s m args meth c cc own Ts D tys A nL) {x y : Int64} (v : Int64) (hdg : decode cc pc = .ok (.ladd, 1)) (hv : x + y = v) (kk : G p l e R s m args below meth c D A nL Q k n ws lv (pc + 1) (.long v :: st)) : G p l e R s m args below meth c D A nL Q k n ws lv pc (.long y :: .long x :: st) :=
  fun H locs ls hP hD hS hl => lv_ladd C.1 C.2.1 hdg (hv ▸ (kk H locs ls hP hD hS hl))
theorem g_i2l (C : CX p s m args meth c cc own Ts D tys A nL) {x : Int32} (v : Int64) (hdg : decode cc pc = .ok (.i2l, 1)) (hv : x.toInt64 = v) (kk : G p l e R s m args below meth c D A nL Q k n ws lv (pc + 1) (.long v :: st)) : G p l e R s m args below meth c D A nL Q k n ws lv pc (.int x :: st) :=
  fun H locs ls hP hD hS hl => lv_i2l C.1 C.2.1 hdg hv (kk H locs ls hP hD hS hl)
theorem g_l2i (C : CX p s m args meth c cc own Ts D tys A nL) {x : Int64} (v : Int32) (hdg : decode cc pc = .ok (.l2i, 1)) (hv : x.toInt32 = v) (kk : G p l e R s m args below meth c D A nL Q k n ws lv (pc + 1) (.int v :: st)) : G p l e R s m args below meth c D A nL Q k n ws lv pc (.long x :: st) :=
  fun H locs ls hP hD hS hl => lv_l2i C.1 C.2.1 hdg hv (kk H locs ls hP hD hS hl)
theorem g_lcmp (C : CX p s m args meth c cc own Ts D tys A nL) {x y : Int64} (hdg : decode cc pc = .ok (.lcmp, 1)) (kk : G p l e R s m args below meth c D A nL Q k n ws lv (pc + 1) (.int (lg_cmp x y) :: st)) : G p l e R s m args below meth c D A nL Q k n ws lv pc (.long y :: .long x :: st) :=
  fun H locs ls hP hD hS hl => W.lcmp C.1 C.2.1 hdg (kk H locs ls hP hD hS hl)
theorem g_dup (C : CX p s m args meth c cc own Ts D tys A nL) {va : Value} (hdg : decode cc pc = .ok (.dup, 1)) (hva : va.category = 1) (kk : G p l e R s m args below meth c D A nL Q k n ws lv (pc + 1) (va :: va :: st)) : G p l e R s m args below meth c D A nL Q k n ws lv pc (va :: st) :=
  fun H locs ls hP hD hS hl => lv_dup C.1 C.2.1 hdg hva (kk H locs ls hP hD hS hl)
theorem g_pop (C : CX p s m args meth c cc own Ts D tys A nL) {va : Value} (hdg : decode cc pc = .ok (.pop, 1)) (hva : va.category = 1) (kk : G p l e R s m args below meth c D A nL Q k n ws lv (pc + 1) (st)) : G p l e R s m args below meth c D A nL Q k n ws lv pc (va :: st) :=
  fun H locs ls hP hD hS hl => lv_pop C.1 C.2.1 hdg hva (kk H locs ls hP hD hS hl)
theorem g_dup_x1 (C : CX p s m args meth c cc own Ts D tys A nL) {va vb : Value} (hdg : decode cc pc = .ok (.dup_x1, 1)) (hva : va.category = 1) (hvb : vb.category = 1) (kk : G p l e R s m args below meth c D A nL Q k n ws lv (pc + 1) (va :: vb :: va :: st)) : G p l e R s m args below meth c D A nL Q k n ws lv pc (va :: vb :: st) :=
  fun H locs ls hP hD hS hl => lv_dup_x1 C.1 C.2.1 hdg hva hvb (kk H locs ls hP hD hS hl)
theorem g_dup_x2 (C : CX p s m args meth c cc own Ts D tys A nL) {va vb vd : Value} (hdg : decode cc pc = .ok (.dup_x2, 1)) (hva : va.category = 1) (hvb : vb.category = 1) (hvd : vd.category = 1) (kk : G p l e R s m args below meth c D A nL Q k n ws lv (pc + 1) (va :: vb :: vd :: va :: st)) : G p l e R s m args below meth c D A nL Q k n ws lv pc (va :: vb :: vd :: st) :=
  fun H locs ls hP hD hS hl => lv_dup_x2 C.1 C.2.1 hdg hva hvb hvd (kk H locs ls hP hD hS hl)
theorem g_dup2 (C : CX p s m args meth c cc own Ts D tys A nL) {va vb : Value} (hdg : decode cc pc = .ok (.dup2, 1)) (hva : va.category = 1) (hvb : vb.category = 1) (kk : G p l e R s m args below meth c D A nL Q k n ws lv (pc + 1) (va :: vb :: va :: vb :: st)) : G p l e R s m args below meth c D A nL Q k n ws lv pc (va :: vb :: st) :=
  fun H locs ls hP hD hS hl => lv_dup2_11 C.1 C.2.1 hdg hva hvb (kk H locs ls hP hD hS hl)
theorem g_goto (C : CX p s m args meth c cc own Ts D tys A nL) {off : Int} (tgt : Nat) (hdg : decode cc pc = .ok (.goto off, 3)) (ht : (pc : Int) + off = (tgt : Int)) (kk : G p l e R s m args below meth c D A nL Q k n ws lv tgt (st)) : G p l e R s m args below meth c D A nL Q k n ws lv pc (st) :=
  fun H locs ls hP hD hS hl => lv_goto C.1 C.2.1 hdg ht (kk H locs ls hP hD hS hl)
-- branches
theorem g_if_eq (C : CX p s m args meth c cc own Ts D tys A nL) {x : Int32} {off : Int} (tgt : Nat) (hdg : decode cc pc = .ok (.ifCond .eq off, 3)) (ht : (pc : Int) + off = (tgt : Int)) (k1 : x = 0 → G p l e R s m args below meth c D A nL Q k n ws lv tgt (st)) (k2 : ¬ x = 0 → G p l e R s m args below meth c D A nL Q k n ws lv (pc + 3) (st)) : G p l e R s m args below meth c D A nL Q k n ws lv pc (.int x :: st) :=
  fun H locs ls hP hD hS hl => lv_if_eq C.1 C.2.1 hdg ht (fun q => k1 q H locs ls hP hD hS hl) (fun q => k2 q H locs ls hP hD hS hl)
theorem g_if_ne (C : CX p s m args meth c cc own Ts D tys A nL) {x : Int32} {off : Int} (tgt : Nat) (hdg : decode cc pc = .ok (.ifCond .ne off, 3)) (ht : (pc : Int) + off = (tgt : Int)) (k1 : ¬ x = 0 → G p l e R s m args below meth c D A nL Q k n ws lv tgt (st)) (k2 : x = 0 → G p l e R s m args below meth c D A nL Q k n ws lv (pc + 3) (st)) : G p l e R s m args below meth c D A nL Q k n ws lv pc (.int x :: st) :=
  fun H locs ls hP hD hS hl => lv_if_ne C.1 C.2.1 hdg ht (fun q => k1 q H locs ls hP hD hS hl) (fun q => k2 q H locs ls hP hD hS hl)
theorem g_if_lt (C : CX p s m args meth c cc own Ts D tys A nL) {x : Int32} {off : Int} (tgt : Nat) (hdg : decode cc pc = .ok (.ifCond .lt off, 3)) (ht : (pc : Int) + off = (tgt : Int)) (k1 : x < 0 → G p l e R s m args below meth c D A nL Q k n ws lv tgt (st)) (k2 : ¬ x < 0 → G p l e R s m args below meth c D A nL Q k n ws lv (pc + 3) (st)) : G p l e R s m args below meth c D A nL Q k n ws lv pc (.int x :: st) :=
  fun H locs ls hP hD hS hl => lv_if_lt C.1 C.2.1 hdg ht (fun q => k1 q H locs ls hP hD hS hl) (fun q => k2 q H locs ls hP hD hS hl)
theorem g_if_ge (C : CX p s m args meth c cc own Ts D tys A nL) {x : Int32} {off : Int} (tgt : Nat) (hdg : decode cc pc = .ok (.ifCond .ge off, 3)) (ht : (pc : Int) + off = (tgt : Int)) (k1 : 0 ≤ x → G p l e R s m args below meth c D A nL Q k n ws lv tgt (st)) (k2 : ¬ 0 ≤ x → G p l e R s m args below meth c D A nL Q k n ws lv (pc + 3) (st)) : G p l e R s m args below meth c D A nL Q k n ws lv pc (.int x :: st) :=
  fun H locs ls hP hD hS hl => lv_if_ge C.1 C.2.1 hdg ht (fun q => k1 q H locs ls hP hD hS hl) (fun q => k2 q H locs ls hP hD hS hl)
theorem g_if_gt (C : CX p s m args meth c cc own Ts D tys A nL) {x : Int32} {off : Int} (tgt : Nat) (hdg : decode cc pc = .ok (.ifCond .gt off, 3)) (ht : (pc : Int) + off = (tgt : Int)) (k1 : 0 < x → G p l e R s m args below meth c D A nL Q k n ws lv tgt (st)) (k2 : ¬ 0 < x → G p l e R s m args below meth c D A nL Q k n ws lv (pc + 3) (st)) : G p l e R s m args below meth c D A nL Q k n ws lv pc (.int x :: st) :=
  fun H locs ls hP hD hS hl => lv_if_gt C.1 C.2.1 hdg ht (fun q => k1 q H locs ls hP hD hS hl) (fun q => k2 q H locs ls hP hD hS hl)
theorem g_if_le (C : CX p s m args meth c cc own Ts D tys A nL) {x : Int32} {off : Int} (tgt : Nat) (hdg : decode cc pc = .ok (.ifCond .le off, 3)) (ht : (pc : Int) + off = (tgt : Int)) (k1 : x ≤ 0 → G p l e R s m args below meth c D A nL Q k n ws lv tgt (st)) (k2 : ¬ x ≤ 0 → G p l e R s m args below meth c D A nL Q k n ws lv (pc + 3) (st)) : G p l e R s m args below meth c D A nL Q k n ws lv pc (.int x :: st) :=
  fun H locs ls hP hD hS hl => lv_if_le C.1 C.2.1 hdg ht (fun q => k1 q H locs ls hP hD hS hl) (fun q => k2 q H locs ls hP hD hS hl)
theorem g_icmp_eq (C : CX p s m args meth c cc own Ts D tys A nL) {x y : Int32} {off : Int} (tgt : Nat) (hdg : decode cc pc = .ok (.if_icmp .eq off, 3)) (ht : (pc : Int) + off = (tgt : Int)) (k1 : x = y → G p l e R s m args below meth c D A nL Q k n ws lv tgt (st)) (k2 : ¬ x = y → G p l e R s m args below meth c D A nL Q k n ws lv (pc + 3) (st)) : G p l e R s m args below meth c D A nL Q k n ws lv pc (.int y :: .int x :: st) :=
  fun H locs ls hP hD hS hl => lv_icmp_eq C.1 C.2.1 hdg ht (fun q => k1 q H locs ls hP hD hS hl) (fun q => k2 q H locs ls hP hD hS hl)
theorem g_icmp_ne (C : CX p s m args meth c cc own Ts D tys A nL) {x y : Int32} {off : Int} (tgt : Nat) (hdg : decode cc pc = .ok (.if_icmp .ne off, 3)) (ht : (pc : Int) + off = (tgt : Int)) (k1 : ¬ x = y → G p l e R s m args below meth c D A nL Q k n ws lv tgt (st)) (k2 : x = y → G p l e R s m args below meth c D A nL Q k n ws lv (pc + 3) (st)) : G p l e R s m args below meth c D A nL Q k n ws lv pc (.int y :: .int x :: st) :=
  fun H locs ls hP hD hS hl => lv_icmp_ne C.1 C.2.1 hdg ht (fun q => k1 q H locs ls hP hD hS hl) (fun q => k2 q H locs ls hP hD hS hl)
theorem g_icmp_lt (C : CX p s m args meth c cc own Ts D tys A nL) {x y : Int32} {off : Int} (tgt : Nat) (hdg : decode cc pc = .ok (.if_icmp .lt off, 3)) (ht : (pc : Int) + off = (tgt : Int)) (k1 : x < y → G p l e R s m args below meth c D A nL Q k n ws lv tgt (st)) (k2 : ¬ x < y → G p l e R s m args below meth c D A nL Q k n ws lv (pc + 3) (st)) : G p l e R s m args below meth c D A nL Q k n ws lv pc (.int y :: .int x :: st) :=
  fun H locs ls hP hD hS hl => lv_icmp_lt C.1 C.2.1 hdg ht (fun q => k1 q H locs ls hP hD hS hl) (fun q => k2 q H locs ls hP hD hS hl)
theorem g_icmp_ge (C : CX p s m args meth c cc own Ts D tys A nL) {x y : Int32} {off : Int} (tgt : Nat) (hdg : decode cc pc = .ok (.if_icmp .ge off, 3)) (ht : (pc : Int) + off = (tgt : Int)) (k1 : y ≤ x → G p l e R s m args below meth c D A nL Q k n ws lv tgt (st)) (k2 : ¬ y ≤ x → G p l e R s m args below meth c D A nL Q k n ws lv (pc + 3) (st)) : G p l e R s m args below meth c D A nL Q k n ws lv pc (.int y :: .int x :: st) :=
  fun H locs ls hP hD hS hl => lv_icmp_ge C.1 C.2.1 hdg ht (fun q => k1 q H locs ls hP hD hS hl) (fun q => k2 q H locs ls hP hD hS hl)
theorem g_icmp_gt (C : CX p s m args meth c cc own Ts D tys A nL) {x y : Int32} {off : Int} (tgt : Nat) (hdg : decode cc pc = .ok (.if_icmp .gt off, 3)) (ht : (pc : Int) + off = (tgt : Int)) (k1 : y < x → G p l e R s m args below meth c D A nL Q k n ws lv tgt (st)) (k2 : ¬ y < x → G p l e R s m args below meth c D A nL Q k n ws lv (pc + 3) (st)) : G p l e R s m args below meth c D A nL Q k n ws lv pc (.int y :: .int x :: st) :=
  fun H locs ls hP hD hS hl => lv_icmp_gt C.1 C.2.1 hdg ht (fun q => k1 q H locs ls hP hD hS hl) (fun q => k2 q H locs ls hP hD hS hl)
theorem g_icmp_le (C : CX p s m args meth c cc own Ts D tys A nL) {x y : Int32} {off : Int} (tgt : Nat) (hdg : decode cc pc = .ok (.if_icmp .le off, 3)) (ht : (pc : Int) + off = (tgt : Int)) (k1 : x ≤ y → G p l e R s m args below meth c D A nL Q k n ws lv tgt (st)) (k2 : ¬ x ≤ y → G p l e R s m args below meth c D A nL Q k n ws lv (pc + 3) (st)) : G p l e R s m args below meth c D A nL Q k n ws lv pc (.int y :: .int x :: st) :=
  fun H locs ls hP hD hS hl => lv_icmp_le C.1 C.2.1 hdg ht (fun q => k1 q H locs ls hP hD hS hl) (fun q => k2 q H locs ls hP hD hS hl)
theorem g_get (C : CX p s m args meth c cc own Ts D tys A nL) {a : Nat} (q0 : Nat) {ci : Nat} {fs : List Value} {Cn : String} {T : u_T} {N index : Nat} (hin : ∀ w ∈ u_ws Cn T N, w ∈ Ts) (he : ws[q0]? = some (a, .inr (ci, fs))) (hc : vwCl[ci]? = some (Cn, T, N)) (kf : Nat) (hk : kf < N) (hlink : (Cond.fieldLink own index (T kf).1 (T kf).2.1 (T kf).2.2.1).before args s = true) {v : Value} (hv : fs[kf]? = some v) (hdg : decode cc pc = .ok (.getfield index, 3)) (kk : G p l e R s m args below meth c D A nL Q k n ws lv (pc + 3) (v :: st)) : G p l e R s m args below meth c D A nL Q k n ws lv pc (.ref a :: st) :=
  fun H locs ls hP hD hS hl => va_get C.1 C.2.1 C.ts hin C.2.2.2.1 C.hK hP q0 he hc kf hk hlink (fun _ h => h) hv hdg (kk H locs ls hP hD hS hl)
theorem g_put (C : CX p s m args meth c cc own Ts D tys A nL) {a : Nat} (q0 : Nat) {ci : Nat} {fs : List Value} {Cn : String} {T : u_T} {N index : Nat} (hin : ∀ w ∈ u_ws Cn T N, w ∈ Ts) (he : ws[q0]? = some (a, .inr (ci, fs))) (hc : vwCl[ci]? = some (Cn, T, N)) (kf : Nat) (hk : kf < N) (hlink : (Cond.fieldLink own index (T kf).1 (T kf).2.1 (T kf).2.2.1).before args s = true) (hfin : (T kf).2.2.2 = false) (ty0 : Nat → FieldType) (hty : ∀ k, k < N → parseFieldDescriptor (T k).2.2.1 = some (ty0 k)) (hnm : ∀ a, a < N → ∀ b, b < N → a ≠ b → (T a).2.1 ≠ (T b).2.1) {ty : FieldType} {v : Value} (hd : parseFieldDescriptor (T kf).2.2.1 = some ty) (hn : narrow ty v = v) (hfit : fits ty v = true) (hlf : kf < fs.length) (ws' : va_W) (hws : ws.set q0 (a, .inr (ci, fs.set kf v)) = ws') (hdg : decode cc pc = .ok (.putfield index, 3)) (kk : G p l e R s m args below meth c D A nL Q k n ws' lv (pc + 3) (st)) : G p l e R s m args below meth c D A nL Q k n ws lv pc (v :: .ref a :: st) :=
  fun H locs ls hP hD hS hl => va_put C.1 C.2.1 C.ts hin ty0 hty hnm C.2.2.2.1 C.hK hP hD hS q0 he hc kf hk hlink (fun _ h => h) hfin hd hn hfit hlf hdg (fun H1 locs1 hP1 hD1 hS1 => kk H1 locs1 ls (hws ▸ hP1) (hws ▸ hD1) hS1 hl)
theorem g_putF (C : CX p s m args meth c cc own Ts D tys A nL) {a : Nat} (q0 : Nat) {ci : Nat} {fs : List Value} {Cn : String} {T : u_T} {N index : Nat} (hin : ∀ w ∈ u_ws Cn T N, w ∈ Ts) (he : ws[q0]? = some (a, .inr (ci, fs))) (hc : vwCl[ci]? = some (Cn, T, N)) (kf : Nat) (hk : kf < N) (hlink : (Cond.fieldLink own index (T kf).1 (T kf).2.1 (T kf).2.2.1).before args s = true) (hfin : (T kf).2.2.2 = true) (hini : meth.name = "<init>") (hdecl : (T kf).1 = own) (ty0 : Nat → FieldType) (hty : ∀ k, k < N → parseFieldDescriptor (T k).2.2.1 = some (ty0 k)) (hnm : ∀ a, a < N → ∀ b, b < N → a ≠ b → (T a).2.1 ≠ (T b).2.1) {ty : FieldType} {v : Value} (hd : parseFieldDescriptor (T kf).2.2.1 = some ty) (hn : narrow ty v = v) (hfit : fits ty v = true) (hlf : kf < fs.length) (ws' : va_W) (hws : ws.set q0 (a, .inr (ci, fs.set kf v)) = ws') (hdg : decode cc pc = .ok (.putfield index, 3)) (kk : G p l e R s m args below meth c D A nL Q k n ws' lv (pc + 3) (st)) : G p l e R s m args below meth c D A nL Q k n ws lv pc (v :: .ref a :: st) :=
  fun H locs ls hP hD hS hl => va_putF C.1 C.2.1 C.ts hin ty0 hty hnm C.2.2.2.1 C.hK hP hD hS q0 he hc kf hk hlink (fun _ h => h) hfin hini hdecl hd hn hfit hlf hdg (fun H1 locs1 hP1 hD1 hS1 => kk H1 locs1 ls (hws ▸ hP1) (hws ▸ hD1) hS1 hl)
theorem vin {i : Int32} {j N : Nat} (e : i = nI j) (h : j < N) (hN : N < 2 ^ 31) : vp_in i N := by rw [e]; exact vp_in_nI h hN
theorem vcl {i : Int32} {j N : Nat} (e : i = nI j) (h : j < N) (hN : N < 2 ^ 31) : i.toNatClampNeg = j := by rw [e]; exact nI_clamp (by omega)
theorem g_iald (C : CX p s m args meth c cc own Ts D tys A nL) {a : Nat} (q0 t0 : Nat) {cA : ClassId} {N : Nat} {f : Nat → Int32} (ha : ws[q0]? = some (a, .inl (cA, N, .inl f))) (ht : tys[t0]? = some (cA, .int)) {i : Int32} (j : Nat) (hj : i = nI j) (hlt : j < N) (hN : N < 2 ^ 31) (v : Int32) (hv : f j = v) (hdg : decode cc pc = .ok (.iaload, 1)) (kk : G p l e R s m args below meth c D A nL Q k n ws lv (pc + 1) (.int v :: st)) : G p l e R s m args below meth c D A nL Q k n ws lv pc (.int i :: .ref a :: st) :=
  fun H locs ls hP hD hS hl => va_iald C.1 C.2.1 C.hK hP q0 t0 ha ht (vin hj hlt hN) hdg (by rw [vcl hj hlt hN, hv]; exact (kk H locs ls hP hD hS hl))
theorem g_zald (C : CX p s m args meth c cc own Ts D tys A nL) {a : Nat} (q0 t0 : Nat) {cA : ClassId} {N : Nat} {f : Nat → Int32} (ha : ws[q0]? = some (a, .inl (cA, N, .inl f))) (ht : tys[t0]? = some (cA, .boolean)) {i : Int32} (j : Nat) (hj : i = nI j) (hlt : j < N) (hN : N < 2 ^ 31) (v : Int32) (hv : f j = v) (hdg : decode cc pc = .ok (.baload, 1)) (kk : G p l e R s m args below meth c D A nL Q k n ws lv (pc + 1) (.int v :: st)) : G p l e R s m args below meth c D A nL Q k n ws lv pc (.int i :: .ref a :: st) :=
  fun H locs ls hP hD hS hl => va_zald C.1 C.2.1 C.hK hP q0 t0 ha ht (vin hj hlt hN) hdg (by rw [vcl hj hlt hN, hv]; exact (kk H locs ls hP hD hS hl))
theorem g_iast (C : CX p s m args meth c cc own Ts D tys A nL) {a : Nat} (q0 t0 : Nat) {cA : ClassId} {N : Nat} {f : Nat → Int32} (ha : ws[q0]? = some (a, .inl (cA, N, .inl f))) (ht : tys[t0]? = some (cA, .int)) {i : Int32} (j : Nat) (hj : i = nI j) (hlt : j < N) (hN : N < 2 ^ 31) {x : Int32} (ws' : va_W) (hws : ws.set q0 (a, .inl (cA, N, .inl (upd f j x))) = ws') (hdg : decode cc pc = .ok (.iastore, 1)) (kk : G p l e R s m args below meth c D A nL Q k n ws' lv (pc + 1) (st)) : G p l e R s m args below meth c D A nL Q k n ws lv pc (.int x :: .int i :: .ref a :: st) :=
  fun H locs ls hP hD hS hl => va_iast C.1 C.2.1 C.hK hP hD hS q0 t0 ha ht (vin hj hlt hN) hdg (fun H1 locs1 hP1 hD1 hS1 => kk H1 locs1 ls (by rw [← hws, ← vcl hj hlt hN]; exact hP1) (by rw [← hws, ← vcl hj hlt hN]; exact hD1) hS1 hl)
theorem g_zast (C : CX p s m args meth c cc own Ts D tys A nL) {a : Nat} (q0 t0 : Nat) {cA : ClassId} {N : Nat} {f : Nat → Int32} (ha : ws[q0]? = some (a, .inl (cA, N, .inl f))) (ht : tys[t0]? = some (cA, .boolean)) {i : Int32} (j : Nat) (hj : i = nI j) (hlt : j < N) (hN : N < 2 ^ 31) {x : Int32} (ws' : va_W) (hws : ws.set q0 (a, .inl (cA, N, .inl (upd f j (vp_nar .boolean x)))) = ws') (hdg : decode cc pc = .ok (.bastore, 1)) (kk : G p l e R s m args below meth c D A nL Q k n ws' lv (pc + 1) (st)) : G p l e R s m args below meth c D A nL Q k n ws lv pc (.int x :: .int i :: .ref a :: st) :=
  fun H locs ls hP hD hS hl => va_zast C.1 C.2.1 C.hK hP hD hS q0 t0 ha ht (vin hj hlt hN) hdg (fun H1 locs1 hP1 hD1 hS1 => kk H1 locs1 ls (by rw [← hws, ← vcl hj hlt hN]; exact hP1) (by rw [← hws, ← vcl hj hlt hN]; exact hD1) hS1 hl)
theorem g_lald (C : CX p s m args meth c cc own Ts D tys A nL) {a : Nat} (q0 t0 : Nat) {cA : ClassId} {N : Nat} {f : Nat → Int64} (ha : ws[q0]? = some (a, .inl (cA, N, .inr (.inl f)))) (ht : tys[t0]? = some (cA, .long)) {i : Int32} (j : Nat) (hj : i = nI j) (hlt : j < N) (hN : N < 2 ^ 31) (v : Int64) (hv : f j = v) (hdg : decode cc pc = .ok (.laload, 1)) (kk : G p l e R s m args below meth c D A nL Q k n ws lv (pc + 1) (.long v :: st)) : G p l e R s m args below meth c D A nL Q k n ws lv pc (.int i :: .ref a :: st) :=
  fun H locs ls hP hD hS hl => va_lald C.1 C.2.1 C.hK hP q0 t0 ha ht (vin hj hlt hN) hdg (by rw [vcl hj hlt hN, hv]; exact (kk H locs ls hP hD hS hl))
theorem g_last (C : CX p s m args meth c cc own Ts D tys A nL) {a : Nat} (q0 t0 : Nat) {cA : ClassId} {N : Nat} {f : Nat → Int64} (ha : ws[q0]? = some (a, .inl (cA, N, .inr (.inl f)))) (ht : tys[t0]? = some (cA, .long)) {i : Int32} (j : Nat) (hj : i = nI j) (hlt : j < N) (hN : N < 2 ^ 31) {x : Int64} (ws' : va_W) (hws : ws.set q0 (a, .inl (cA, N, .inr (.inl (vp_updL f j x)))) = ws') (hdg : decode cc pc = .ok (.lastore, 1)) (kk : G p l e R s m args below meth c D A nL Q k n ws' lv (pc + 1) (st)) : G p l e R s m args below meth c D A nL Q k n ws lv pc (.long x :: .int i :: .ref a :: st) :=
  fun H locs ls hP hD hS hl => va_last C.1 C.2.1 C.hK hP hD hS q0 t0 ha ht (vin hj hlt hN) hdg (fun H1 locs1 hP1 hD1 hS1 => kk H1 locs1 ls (by rw [← hws, ← vcl hj hlt hN]; exact hP1) (by rw [← hws, ← vcl hj hlt hN]; exact hD1) hS1 hl)
theorem g_aald (C : CX p s m args meth c cc own Ts D tys A nL) {a : Nat} (q0 t0 : Nat) {cA : ClassId} {N : Nat} {f : Nat → Option Nat} (ha : ws[q0]? = some (a, .inl (cA, N, .inr (.inr (.inr (.inr f)))))) (ht : tys[t0]? = some (cA, .array .int)) {i : Int32} (j : Nat) (hj : i = nI j) (hlt : j < N) (hN : N < 2 ^ 31) (r : Nat) (hv : f j = some r) (hdg : decode cc pc = .ok (.aaload, 1)) (kk : G p l e R s m args below meth c D A nL Q k n ws lv (pc + 1) (.ref r :: st)) : G p l e R s m args below meth c D A nL Q k n ws lv pc (.int i :: .ref a :: st) := by
  intro H locs ls hP hD hS hl
  have hin := vin hj hlt hN
  have hcl := vcl hj hlt hN
  refine W.aald (v := va_rf (f i.toNatClampNeg)) (ty := .array .int) C.1 C.2.1 (hP q0 _ ha) ((C.hK.2 t0 _ ht).1 N (fun j => va_rf (f j))) rfl (fun q => by cases q) (by show ¬ (i < 0 ∨ (arrV _ _ _).slots.size ≤ _); rw [arrV_size]; exact hin) (by show (arrV _ _ _).slots[_]? = _; rw [arrV_read _ _ (by rw [hcl]; exact hlt)]) rfl rfl hdg ?_
  rw [hcl, hv]
  exact kk H locs ls hP hD hS hl
theorem g_newa (C : CX p s m args meth c cc own Ts D tys A nL) {atype : ArrayType} {cA : ClassId} {ty : FieldType} (hty : newarray.typeOf atype = ty) (hnm : s.vm.findClass ("[" ++ ty.toString) = some cA) (harr : (Cond.arrayClass ty).before args s = true) {i : Int32} (N : Nat) (hi : i = nI N) (hN : N < 64) {z : vp_A} (hz : ∀ cA : ClassId, vp_cell cA z = arrV cA N (fun _ => defaultValue ty)) (hbytes : N * componentBytes ty ≤ 536870912) (hk : k + 1 ≤ R.cells) (hn : n + N ≤ R.slots) (hdg : decode cc pc = .ok (.newarray atype, 2))
    (kk : ∀ q : Nat, G p l e R s m args below meth c D A nL Q (k + 1) (n + N) (ws ++ [(q, .inl (cA, z))]) lv (pc + 2) (.ref q :: st)) : G p l e R s m args below meth c D A nL Q k n ws lv pc (.int i :: st) := by
  intro H locs ls hP hD hS hl
  subst hty
  refine va_newaK C.1 C.2.1 harr rfl hdg rfl (by rw [hi]; exact nI_pos (by omega)) (by rw [hi]; exact nI_clamp (by omega)) hbytes hk hn rfl (fun H1 cB e1 z1 o1 hAr hNm => ?_)
  cases Option.some.inj (hnm.symm.trans hNm)
  have hk9 : ∀ (k : Nat) (x : Nat × va_E), ws[k]? = some x → H1[x.1]? = H[x.1]? := fun k x hx => o1 x.1 ((hP k x hx).lt)
  refine kk H.size H1 locs ls ((hP.kept hk9).app (fun k x hx => ?_)) (hD.push hP rfl (C.hA _ hS.1)) ⟨Nat.le_trans hS.1 (by omega), fun x h1 h2 => (o1 x (Nat.lt_of_lt_of_le h1 hS.1)).trans (hS.2.1 x h1 h2), hS.2.2⟩ hl
  have h0 : k < 1 := (List.getElem?_eq_some_iff.mp hx).1
  rw [show k = 0 by omega] at hx
  cases hx
  show H1[H.size]? = some (vp_cell _ _)
  rw [hz, e1]
theorem g_new (C : CX p s m args meth c cc own Ts D tys A nL) {Cn : String} {T : u_T} {N ci index : Nat} (hin : ∀ w ∈ u_ws Cn T N, w ∈ Ts) (ty : Nat → FieldType) (hty : ∀ k, k < N → parseFieldDescriptor (T k).2.2.1 = some (ty k)) (hcl : (Cond.classLink own index Cn).before args s = true) (hinst : (Cond.instantiable Cn N).before args s = true) (hini : (Cond.initialized Cn).before args s = true) (hc : vwCl[ci]? = some (Cn, T, N)) (fs : List Value) (hfs : ∀ j, j < N → defaultValue (ty j) = vp_V fs j) (hk : k + 1 ≤ R.cells) (hn : n + N ≤ R.slots) (hdg : decode cc pc = .ok (.new index, 3))
    (kk : ∀ q : Nat, G p l e R s m args below meth c D A nL Q (k + 1) (n + N) (ws ++ [(q, .inr (ci, fs))]) lv (pc + 3) (.ref q :: st)) : G p l e R s m args below meth c D A nL Q k n ws lv pc (st) :=
  fun H locs ls hP hD hS hl => va_new C.1 C.2.1 C.ts hin ty hty C.2.2.2.1 hcl hinst hini C.hK hP hD hS C.hA hc hfs hk hn hdg (fun q H1 hP1 hD1 hS1 => kk q H1 locs ls hP1 hD1 hS1 hl)
theorem g_objInit (C : CX p s m args meth c cc own Ts D tys A nL) {a idx : Nat} (hlink : (Cond.methodLink own idx Lib.objectInit).before args s = true) (hinst : (Cond.instanceMethod Lib.objectInit).before args s = true) (hcode : (Cond.code Lib.objectInit ⟨#[0xb1]⟩ 1 none).before args s = true) (hdg : decode cc pc = .ok (.invokespecial idx, 3)) (hf : 1 ≤ R.frames) (hlo : (st.map fun v => v.category).sum + 12 ≤ R.locals) (kk : G p l e R s m args below meth c D A nL Q k n ws lv (pc + 3) (st)) : G p l e R s m args below meth c D A nL Q k n ws lv pc (.ref a :: st) :=
  fun H locs ls hP hD hS hl => W.objInit C.1 C.2.1 C.2.2.2.1 hlink hinst hcode rfl (hl.1.trans C.2.2.1.symm) rfl hdg hf (by show 2 * 0 + _ + 12 ≤ _; omega) (kk H locs ls hP hD hS hl)
theorem g_mabs (C : CX p s m args meth c cc own Ts D tys A nL) {index : Nat} {x : Int32} (v : Int32) (hlink : (Cond.methodLink own index Lib.Math.abs.name).before args s = true) (hstat : (Cond.static Lib.Math.abs.name).before args s = true) (hini : (Cond.initialized "java/lang/Math").before args s = true) (hcode : (Cond.code Lib.Math.abs.name Lib.Math.abs.code 1 (some .int)).before args s = true) (hf : 1 ≤ R.frames) (hlo : (st.map fun v => v.category).sum + 13 ≤ R.locals) (hk : k ≤ R.cells) (hn : n ≤ R.slots) (hv : (if 0 ≤ x then x else 0 - x) = v) (hdg : decode cc pc = .ok (.invokestatic index, 3)) (kk : G p l e R s m args below meth c D A nL Q k n ws lv (pc + 3) (.int v :: st)) : G p l e R s m args below meth c D A nL Q k n ws lv pc (.int x :: st) :=
  fun H locs ls hP hD hS hl => va_mabs C.1 C.2.1 (C.2.2.1.trans hl.1.symm) C.2.2.2.1 hlink hstat hini hcode hf hlo hk hn hdg (by rw [hv]; exact kk H locs ls hP hD hS hl)
theorem g_mmax (C : CX p s m args meth c cc own Ts D tys A nL) {index : Nat} {x y : Int32} (v : Int32) (hlink : (Cond.methodLink own index Lib.Math.max.name).before args s = true) (hstat : (Cond.static Lib.Math.max.name).before args s = true) (hini : (Cond.initialized "java/lang/Math").before args s = true) (hcode : (Cond.code Lib.Math.max.name Lib.Math.max.code 2 (some .int)).before args s = true) (hf : 1 ≤ R.frames) (hlo : (st.map fun v => v.category).sum + 13 ≤ R.locals) (hk : k ≤ R.cells) (hn : n ≤ R.slots) (hv : (if x < y then y else x) = v) (hdg : decode cc pc = .ok (.invokestatic index, 3)) (kk : G p l e R s m args below meth c D A nL Q k n ws lv (pc + 3) (.int v :: st)) : G p l e R s m args below meth c D A nL Q k n ws lv pc (.int y :: .int x :: st) :=
  fun H locs ls hP hD hS hl => va_mmax C.1 C.2.1 (C.2.2.1.trans hl.1.symm) C.2.2.2.1 hlink hstat hini hcode hf hlo hk hn hdg (by rw [hv]; exact kk H locs ls hP hD hS hl)
theorem g_copy (C : CX p s m args meth c cc own Ts D tys A nL) {index : Nat} (hlink : (Cond.methodLink own index arraycopyName).before args s = true) (hnat : (Cond.native arraycopyName).before args s = true) (hstat : (Cond.static arraycopyName).before args s = true) (hini : (Cond.initialized "java/lang/System").before args s = true) (q0 q1 : Nat) {a0 a1 : Nat} {c0 : ClassId} {n0 n1 : Nat} {f g : Nat → Int32} (ha0 : ws[q0]? = some (a0, .inl (c0, n0, .inl f))) (ha1 : ws[q1]? = some (a1, .inl (c0, n1, .inl g))) (ht0 : tys[0]? = some (c0, .int)) {i : Int32} (N : Nat) (hi : i = nI N) (hN : N < 64) (h4 : N ≤ n0) (h5 : N ≤ n1) (hf : 1 ≤ R.frames) (hlo : (st.map fun v => v.category).sum + (nativeFrameWords "java/lang/System" "arraycopy" 5 + 11) ≤ R.locals) (ws' : va_W) (hws : ws.set q1 (a1, .inl (c0, n1, .inl (va_cpy f g 0 0 N))) = ws') (hdg : decode cc pc = .ok (.invokestatic index, 3)) (kk : G p l e R s m args below meth c D A nL Q k n ws' lv (pc + 3) (st)) : G p l e R s m args below meth c D A nL Q k n ws lv pc (.int i :: .int 0 :: .ref a1 :: .int 0 :: .ref a0 :: st) := by
  intro H locs ls hP hD hS hl
  have e0 : (0 : Int32).toNatClampNeg = 0 := by decide +kernel
  have e1 : i.toNatClampNeg = N := by rw [hi]; exact nI_clamp (by omega)
  refine va_copyi C.1 C.2.1 (C.2.2.1.trans hl.1.symm) C.2.2.2.1 hlink hnat hstat hini C.hK hP hD hS q0 q1 0 0 ha0 ha1 ht0 ht0 rfl (by decide +kernel) (by decide +kernel) (by rw [hi]; exact nI_pos (by omega)) (by rw [e0, e1]; omega) (by rw [e0, e1]; omega) (fun _ _ => rfl) hf hlo hdg (fun H1 locs1 hP1 hD1 hS1 => ?_)
  rw [e0, e1, hws] at hP1 hD1
  exact kk H1 locs1 ls hP1 hD1 hS1 hl
theorem g_loop1 {α1 : Type} (x1 : α1) (I : α1 → Prop) (wf : α1 → va_W) (lf : α1 → List (Option Value)) (μ : α1 → Nat) (hI : I x1) (hw : ws = wf x1) (hl : lv = lf x1)
    (step : ∀ x1, I x1 → (∀ y1, I y1 → μ y1 < μ x1 → G p l e R s m args below meth c D A nL Q k n (wf y1) (lf y1) pc st) → G p l e R s m args below meth c D A nL Q k n (wf x1) (lf x1) pc st) : G p l e R s m args below meth c D A nL Q k n ws lv pc st :=
  g_loop x1 (fun z => I z) (fun z => wf z) (fun z => lf z) (fun z => μ z) hI hw hl (fun z hz ih => step z hz (fun y1 h1 h2 => ih y1 h1 h2))
theorem g_loop2 {α1 α2 : Type} (x1 : α1) (x2 : α2) (I : α1 → α2 → Prop) (wf : α1 → α2 → va_W) (lf : α1 → α2 → List (Option Value)) (μ : α1 → α2 → Nat) (hI : I x1 x2) (hw : ws = wf x1 x2) (hl : lv = lf x1 x2)
    (step : ∀ x1 x2, I x1 x2 → (∀ y1 y2, I y1 y2 → μ y1 y2 < μ x1 x2 → G p l e R s m args below meth c D A nL Q k n (wf y1 y2) (lf y1 y2) pc st) → G p l e R s m args below meth c D A nL Q k n (wf x1 x2) (lf x1 x2) pc st) : G p l e R s m args below meth c D A nL Q k n ws lv pc st :=
  g_loop (x1, x2) (fun z => I z.1 z.2) (fun z => wf z.1 z.2) (fun z => lf z.1 z.2) (fun z => μ z.1 z.2) hI hw hl (fun z hz ih => step z.1 z.2 hz (fun y1 y2 h1 h2 => ih (y1, y2) h1 h2))
theorem g_loop3 {α1 α2 α3 : Type} (x1 : α1) (x2 : α2) (x3 : α3) (I : α1 → α2 → α3 → Prop) (wf : α1 → α2 → α3 → va_W) (lf : α1 → α2 → α3 → List (Option Value)) (μ : α1 → α2 → α3 → Nat) (hI : I x1 x2 x3) (hw : ws = wf x1 x2 x3) (hl : lv = lf x1 x2 x3)
    (step : ∀ x1 x2 x3, I x1 x2 x3 → (∀ y1 y2 y3, I y1 y2 y3 → μ y1 y2 y3 < μ x1 x2 x3 → G p l e R s m args below meth c D A nL Q k n (wf y1 y2 y3) (lf y1 y2 y3) pc st) → G p l e R s m args below meth c D A nL Q k n (wf x1 x2 x3) (lf x1 x2 x3) pc st) : G p l e R s m args below meth c D A nL Q k n ws lv pc st :=
  g_loop (x1, x2, x3) (fun z => I z.1 z.2.1 z.2.2) (fun z => wf z.1 z.2.1 z.2.2) (fun z => lf z.1 z.2.1 z.2.2) (fun z => μ z.1 z.2.1 z.2.2) hI hw hl (fun z hz ih => step z.1 z.2.1 z.2.2 hz (fun y1 y2 y3 h1 h2 => ih (y1, y2, y3) h1 h2))
theorem g_loop4 {α1 α2 α3 α4 : Type} (x1 : α1) (x2 : α2) (x3 : α3) (x4 : α4) (I : α1 → α2 → α3 → α4 → Prop) (wf : α1 → α2 → α3 → α4 → va_W) (lf : α1 → α2 → α3 → α4 → List (Option Value)) (μ : α1 → α2 → α3 → α4 → Nat) (hI : I x1 x2 x3 x4) (hw : ws = wf x1 x2 x3 x4) (hl : lv = lf x1 x2 x3 x4)
    (step : ∀ x1 x2 x3 x4, I x1 x2 x3 x4 → (∀ y1 y2 y3 y4, I y1 y2 y3 y4 → μ y1 y2 y3 y4 < μ x1 x2 x3 x4 → G p l e R s m args below meth c D A nL Q k n (wf y1 y2 y3 y4) (lf y1 y2 y3 y4) pc st) → G p l e R s m args below meth c D A nL Q k n (wf x1 x2 x3 x4) (lf x1 x2 x3 x4) pc st) : G p l e R s m args below meth c D A nL Q k n ws lv pc st :=
  g_loop (x1, x2, x3, x4) (fun z => I z.1 z.2.1 z.2.2.1 z.2.2.2) (fun z => wf z.1 z.2.1 z.2.2.1 z.2.2.2) (fun z => lf z.1 z.2.1 z.2.2.1 z.2.2.2) (fun z => μ z.1 z.2.1 z.2.2.1 z.2.2.2) hI hw hl (fun z hz ih => step z.1 z.2.1 z.2.2.1 z.2.2.2 hz (fun y1 y2 y3 y4 h1 h2 => ih (y1, y2, y3, y4) h1 h2))
theorem g_loop5 {α1 α2 α3 α4 α5 : Type} (x1 : α1) (x2 : α2) (x3 : α3) (x4 : α4) (x5 : α5) (I : α1 → α2 → α3 → α4 → α5 → Prop) (wf : α1 → α2 → α3 → α4 → α5 → va_W) (lf : α1 → α2 → α3 → α4 → α5 → List (Option Value)) (μ : α1 → α2 → α3 → α4 → α5 → Nat) (hI : I x1 x2 x3 x4 x5) (hw : ws = wf x1 x2 x3 x4 x5) (hl : lv = lf x1 x2 x3 x4 x5)
    (step : ∀ x1 x2 x3 x4 x5, I x1 x2 x3 x4 x5 → (∀ y1 y2 y3 y4 y5, I y1 y2 y3 y4 y5 → μ y1 y2 y3 y4 y5 < μ x1 x2 x3 x4 x5 → G p l e R s m args below meth c D A nL Q k n (wf y1 y2 y3 y4 y5) (lf y1 y2 y3 y4 y5) pc st) → G p l e R s m args below meth c D A nL Q k n (wf x1 x2 x3 x4 x5) (lf x1 x2 x3 x4 x5) pc st) : G p l e R s m args below meth c D A nL Q k n ws lv pc st :=
  g_loop (x1, x2, x3, x4, x5) (fun z => I z.1 z.2.1 z.2.2.1 z.2.2.2.1 z.2.2.2.2) (fun z => wf z.1 z.2.1 z.2.2.1 z.2.2.2.1 z.2.2.2.2) (fun z => lf z.1 z.2.1 z.2.2.1 z.2.2.2.1 z.2.2.2.2) (fun z => μ z.1 z.2.1 z.2.2.1 z.2.2.2.1 z.2.2.2.2) hI hw hl (fun z hz ih => step z.1 z.2.1 z.2.2.1 z.2.2.2.1 z.2.2.2.2 hz (fun y1 y2 y3 y4 y5 h1 h2 => ih (y1, y2, y3, y4, y5) h1 h2))
theorem g_loop6 {α1 α2 α3 α4 α5 α6 : Type} (x1 : α1) (x2 : α2) (x3 : α3) (x4 : α4) (x5 : α5) (x6 : α6) (I : α1 → α2 → α3 → α4 → α5 → α6 → Prop) (wf : α1 → α2 → α3 → α4 → α5 → α6 → va_W) (lf : α1 → α2 → α3 → α4 → α5 → α6 → List (Option Value)) (μ : α1 → α2 → α3 → α4 → α5 → α6 → Nat) (hI : I x1 x2 x3 x4 x5 x6) (hw : ws = wf x1 x2 x3 x4 x5 x6) (hl : lv = lf x1 x2 x3 x4 x5 x6)
    (step : ∀ x1 x2 x3 x4 x5 x6, I x1 x2 x3 x4 x5 x6 → (∀ y1 y2 y3 y4 y5 y6, I y1 y2 y3 y4 y5 y6 → μ y1 y2 y3 y4 y5 y6 < μ x1 x2 x3 x4 x5 x6 → G p l e R s m args below meth c D A nL Q k n (wf y1 y2 y3 y4 y5 y6) (lf y1 y2 y3 y4 y5 y6) pc st) → G p l e R s m args below meth c D A nL Q k n (wf x1 x2 x3 x4 x5 x6) (lf x1 x2 x3 x4 x5 x6) pc st) : G p l e R s m args below meth c D A nL Q k n ws lv pc st :=
  g_loop (x1, x2, x3, x4, x5, x6) (fun z => I z.1 z.2.1 z.2.2.1 z.2.2.2.1 z.2.2.2.2.1 z.2.2.2.2.2) (fun z => wf z.1 z.2.1 z.2.2.1 z.2.2.2.1 z.2.2.2.2.1 z.2.2.2.2.2) (fun z => lf z.1 z.2.1 z.2.2.1 z.2.2.2.1 z.2.2.2.2.1 z.2.2.2.2.2) (fun z => μ z.1 z.2.1 z.2.2.1 z.2.2.2.1 z.2.2.2.2.1 z.2.2.2.2.2) hI hw hl (fun z hz ih => step z.1 z.2.1 z.2.2.1 z.2.2.2.1 z.2.2.2.2.1 z.2.2.2.2.2 hz (fun y1 y2 y3 y4 y5 y6 h1 h2 => ih (y1, y2, y3, y4, y5, y6) h1 h2))
theorem g_loop7 {α1 α2 α3 α4 α5 α6 α7 : Type} (x1 : α1) (x2 : α2) (x3 : α3) (x4 : α4) (x5 : α5) (x6 : α6) (x7 : α7) (I : α1 → α2 → α3 → α4 → α5 → α6 → α7 → Prop) (wf : α1 → α2 → α3 → α4 → α5 → α6 → α7 → va_W) (lf : α1 → α2 → α3 → α4 → α5 → α6 → α7 → List (Option Value)) (μ : α1 → α2 → α3 → α4 → α5 → α6 → α7 → Nat) (hI : I x1 x2 x3 x4 x5 x6 x7) (hw : ws = wf x1 x2 x3 x4 x5 x6 x7) (hl : lv = lf x1 x2 x3 x4 x5 x6 x7)
    (step : ∀ x1 x2 x3 x4 x5 x6 x7, I x1 x2 x3 x4 x5 x6 x7 → (∀ y1 y2 y3 y4 y5 y6 y7, I y1 y2 y3 y4 y5 y6 y7 → μ y1 y2 y3 y4 y5 y6 y7 < μ x1 x2 x3 x4 x5 x6 x7 → G p l e R s m args below meth c D A nL Q k n (wf y1 y2 y3 y4 y5 y6 y7) (lf y1 y2 y3 y4 y5 y6 y7) pc st) → G p l e R s m args below meth c D A nL Q k n (wf x1 x2 x3 x4 x5 x6 x7) (lf x1 x2 x3 x4 x5 x6 x7) pc st) : G p l e R s m args below meth c D A nL Q k n ws lv pc st :=
  g_loop (x1, x2, x3, x4, x5, x6, x7) (fun z => I z.1 z.2.1 z.2.2.1 z.2.2.2.1 z.2.2.2.2.1 z.2.2.2.2.2.1 z.2.2.2.2.2.2) (fun z => wf z.1 z.2.1 z.2.2.1 z.2.2.2.1 z.2.2.2.2.1 z.2.2.2.2.2.1 z.2.2.2.2.2.2) (fun z => lf z.1 z.2.1 z.2.2.1 z.2.2.2.1 z.2.2.2.2.1 z.2.2.2.2.2.1 z.2.2.2.2.2.2) (fun z => μ z.1 z.2.1 z.2.2.1 z.2.2.2.1 z.2.2.2.2.1 z.2.2.2.2.2.1 z.2.2.2.2.2.2) hI hw hl (fun z hz ih => step z.1 z.2.1 z.2.2.1 z.2.2.2.1 z.2.2.2.2.1 z.2.2.2.2.2.1 z.2.2.2.2.2.2 hz (fun y1 y2 y3 y4 y5 y6 y7 h1 h2 => ih (y1, y2, y3, y4, y5, y6, y7) h1 h2))
theorem g_loop8 {α1 α2 α3 α4 α5 α6 α7 α8 : Type} (x1 : α1) (x2 : α2) (x3 : α3) (x4 : α4) (x5 : α5) (x6 : α6) (x7 : α7) (x8 : α8) (I : α1 → α2 → α3 → α4 → α5 → α6 → α7 → α8 → Prop) (wf : α1 → α2 → α3 → α4 → α5 → α6 → α7 → α8 → va_W) (lf : α1 → α2 → α3 → α4 → α5 → α6 → α7 → α8 → List (Option Value)) (μ : α1 → α2 → α3 → α4 → α5 → α6 → α7 → α8 → Nat) (hI : I x1 x2 x3 x4 x5 x6 x7 x8) (hw : ws = wf x1 x2 x3 x4 x5 x6 x7 x8) (hl : lv = lf x1 x2 x3 x4 x5 x6 x7 x8)
    (step : ∀ x1 x2 x3 x4 x5 x6 x7 x8, I x1 x2 x3 x4 x5 x6 x7 x8 → (∀ y1 y2 y3 y4 y5 y6 y7 y8, I y1 y2 y3 y4 y5 y6 y7 y8 → μ y1 y2 y3 y4 y5 y6 y7 y8 < μ x1 x2 x3 x4 x5 x6 x7 x8 → G p l e R s m args below meth c D A nL Q k n (wf y1 y2 y3 y4 y5 y6 y7 y8) (lf y1 y2 y3 y4 y5 y6 y7 y8) pc st) → G p l e R s m args below meth c D A nL Q k n (wf x1 x2 x3 x4 x5 x6 x7 x8) (lf x1 x2 x3 x4 x5 x6 x7 x8) pc st) : G p l e R s m args below meth c D A nL Q k n ws lv pc st :=
  g_loop (x1, x2, x3, x4, x5, x6, x7, x8) (fun z => I z.1 z.2.1 z.2.2.1 z.2.2.2.1 z.2.2.2.2.1 z.2.2.2.2.2.1 z.2.2.2.2.2.2.1 z.2.2.2.2.2.2.2) (fun z => wf z.1 z.2.1 z.2.2.1 z.2.2.2.1 z.2.2.2.2.1 z.2.2.2.2.2.1 z.2.2.2.2.2.2.1 z.2.2.2.2.2.2.2) (fun z => lf z.1 z.2.1 z.2.2.1 z.2.2.2.1 z.2.2.2.2.1 z.2.2.2.2.2.1 z.2.2.2.2.2.2.1 z.2.2.2.2.2.2.2) (fun z => μ z.1 z.2.1 z.2.2.1 z.2.2.2.1 z.2.2.2.2.1 z.2.2.2.2.2.1 z.2.2.2.2.2.2.1 z.2.2.2.2.2.2.2) hI hw hl (fun z hz ih => step z.1 z.2.1 z.2.2.1 z.2.2.2.1 z.2.2.2.2.1 z.2.2.2.2.2.1 z.2.2.2.2.2.2.1 z.2.2.2.2.2.2.2 hz (fun y1 y2 y3 y4 y5 y6 y7 y8 h1 h2 => ih (y1, y2, y3, y4, y5, y6, y7, y8) h1 h2))
end GG
section GC
variable {l : Launch} {D : va_G} {tys : List (ClassId × FieldType)}
/-- what a contract says ahead of the call: the world w at a heap of sz cells -/
def Bf (D : va_G) (tys : List (ClassId × FieldType)) (w : va_W) (sz : Nat) : State → Prop := fun U => U.heap.size = sz ∧ va_P D vwCl w U.heap ∧ va_K D vwCl tys U ∧ va_D (fun _ => True) w
/-- .. and behind it -/
def Af (D : va_G) (w : va_W) (sz : Nat) : (va_W × List (ClassId × FieldType)) → State → Prop := fun u t => va_P D vwCl u.1 t.heap ∧ va_K D vwCl u.2 t ∧ va_D (va_A w sz) u.1
def QI (below : List Frame) (post : Int32 → va_W → Prop) (D : va_G) (tys : List (ClassId × FieldType)) (w : va_W) (args : Array Value) (s : State) (mc ms : Nat) : State → Prop := MQ below (va_Qi (fun r u => post r u.1 ∧ u.2 = tys) (Af D w s.heap.size) (va_A w s.heap.size)) args s mc ms (va_A w s.heap.size)
def QV (below : List Frame) (post : va_W → List (ClassId × FieldType) → Prop) (D : va_G) (w : va_W) (args : Array Value) (s : State) (mc ms : Nat) : State → Prop := MQ below (va_Qv (fun u => post u.1 u.2) (Af D w s.heap.size) (va_A w s.heap.size)) args s mc ms (va_A w s.heap.size)
/-- contracts: an int (or boolean) answer; no answer -/
def CtI (l : Launch) (y : MethodName) (wds : List Cond) (fr lo mc ms : Nat) (D : va_G) (tys : List (ClassId × FieldType)) (av : List Value) (w : va_W) (post : Int32 → va_W → Prop) : Prop :=
  ∀ sz : Nat, Met l y wds { frames := fr, cells := mc, slots := ms, locals := lo } (va_Pc av (Bf D tys w sz)) (va_Qi (fun r u => post r u.1 ∧ u.2 = tys) (Af D w sz) (va_A w sz)) mc ms (va_A w sz)
def CtV (l : Launch) (y : MethodName) (wds : List Cond) (fr lo mc ms : Nat) (D : va_G) (tys : List (ClassId × FieldType)) (av : List Value) (w : va_W) (post : va_W → List (ClassId × FieldType) → Prop) : Prop :=
  ∀ sz : Nat, Met l y wds { frames := fr, cells := mc, slots := ms, locals := lo } (va_Pc av (Bf D tys w sz)) (va_Qv (fun u => post u.1 u.2) (Af D w sz) (va_A w sz)) mc ms (va_A w sz)
theorem Bf_blind {av : List Value} {w : va_W} {sz : Nat} : FrameBlind (va_Pc av (Bf D tys w sz)) := fun a U g mk q => by
  obtain ⟨q0, q1, qP, qK, qD⟩ := q
  exact ⟨q0, q1, qP, va_K.moved (u := U) (U := U.calling g mk a) (Vm.Alike.refl U.vm) qK, qD⟩
theorem ctI_of {y : MethodName} {wds wds' : List Cond} {fr lo mc ms : Nat} {av : List Value} {w : va_W} {post : Int32 → va_W → Prop} {cc : ByteArray} {maxL : Nat} {ret : Option FieldType} (own : String) (r : Nat) (lv0 : List (Option Value)) (hy : plainName y.cls = true) (hw : wds = Cond.code y cc maxL ret :: wds') (hown : y.cls = own) (hlen : (lg_sl av).length ≤ maxL) (hlv : lvE av ++ List.replicate r none = lv0)
    (body : ∀ (p : Program) (e : Env) (s : State) (m : MethodId) (args : Array Value) (below : List Frame) (meth : Method) (c : Code), CX p s m args meth c cc own wds D tys (va_A w s.heap.size) maxL → meth.sig.returnType = ret →
      G p l e { frames := fr, cells := mc, slots := ms, locals := lo } s m args below meth c D (va_A w s.heap.size) maxL (QI below post D tys w args s mc ms) 0 0 w lv0 0 []) : CtI l y wds fr lo mc ms D tys av w post := by
  intro sz
  refine Met.ofW (cc := cc) (maxL := maxL) (ret := ret) hy hw ?_
  intro p e s m args below meth c s₁ B hml hv
  obtain ⟨rfl, hsz, hP, hK, hD0⟩ := hv
  subst hsz
  rw [lg_entry_eq]
  exact body p e s m av.toArray below meth c ⟨B.exec, B.bytes, hml, by rw [← hown]; exact findClass_of_methodNamed B.named, atoms_spec (ws := wds) B.pre, hK, fun q h => Or.inr h, B.notSynchronized⟩ B.returns s.heap [] _ hP (hD0.self) va_S.rf (lh_entry hlen hlv)
theorem ctV_of {y : MethodName} {wds wds' : List Cond} {fr lo mc ms : Nat} {av : List Value} {w : va_W} {post : va_W → List (ClassId × FieldType) → Prop} {cc : ByteArray} {maxL : Nat} (own : String) (r : Nat) (lv0 : List (Option Value)) (hy : plainName y.cls = true) (hw : wds = Cond.code y cc maxL none :: wds') (hown : y.cls = own) (hlen : (lg_sl av).length ≤ maxL) (hlv : lvE av ++ List.replicate r none = lv0)
    (body : ∀ (p : Program) (e : Env) (s : State) (m : MethodId) (args : Array Value) (below : List Frame) (meth : Method) (c : Code), CX p s m args meth c cc own wds D tys (va_A w s.heap.size) maxL → meth.sig.returnType = none → (y.name = "<init>" → meth.name = "<init>") →
      G p l e { frames := fr, cells := mc, slots := ms, locals := lo } s m args below meth c D (va_A w s.heap.size) maxL (QV below post D w args s mc ms) 0 0 w lv0 0 []) : CtV l y wds fr lo mc ms D tys av w post := by
  intro sz
  refine Met.ofW (cc := cc) (maxL := maxL) (ret := none) hy hw ?_
  intro p e s m args below meth c s₁ B hml hv
  obtain ⟨rfl, hsz, hP, hK, hD0⟩ := hv
  subst hsz
  rw [lg_entry_eq]
  exact body p e s m av.toArray below meth c ⟨B.exec, B.bytes, hml, by rw [← hown]; exact findClass_of_methodNamed B.named, atoms_spec (ws := wds) B.pre, hK, fun q h => Or.inr h, B.notSynchronized⟩ B.returns (fun h => (name_of_methodNamed B.named B.method).1.trans h) s.heap [] _ hP (hD0.self) va_S.rf (lh_entry hlen hlv)
end GC
section GR
variable {p : Program} {l : Launch} {e : Env} {R : Room} {s : State} {m : MethodId} {args : Array Value} {below : List Frame} {meth : Method} {c : Code} {Q : State → Prop} {k n : Nat}
variable {cc : ByteArray} {own : String} {Ts : List Cond} {D : va_G} {tys : List (ClassId × FieldType)} {A : Nat → Prop} {nL : Nat} {ws : va_W} {lv : List (Option Value)} {pc : Nat} {st : List Value}
variable {w0 : va_W} {mc ms : Nat}

theorem g_iret (C : CX p s m args meth c cc own Ts D tys (va_A w0 s.heap.size) nL) (hr : meth.sig.returnType = some .int) {post : Int32 → va_W → Prop} {v : Int32} (hdg : decode cc pc = .ok (.ireturn, 1)) (h1 : k ≤ mc) (h2 : n ≤ ms) (hp : post v ws) : G p l e R s m args below meth c D (va_A w0 s.heap.size) nL (QI below post D tys w0 args s mc ms) k n ws lv pc [.int v] :=
  fun H locs ls hP hD hS hl => W.widen h1 h2 (W.iret (v := v) C.1 C.2.1 hr (fun t ht hW => ⟨⟨v, (ws, tys), rfl, ⟨hp, rfl⟩, by rw [ht]; exact hP, va_K.moved hW.alike C.hK, hD⟩, hS.F ht⟩) hS.2.2 hdg C.lk)
theorem g_zret (C : CX p s m args meth c cc own Ts D tys (va_A w0 s.heap.size) nL) (hr : meth.sig.returnType = some .boolean) {post : Int32 → va_W → Prop} {v : Int32} (hnar : narrow .boolean (.int v) = .int v) (hdg : decode cc pc = .ok (.ireturn, 1)) (h1 : k ≤ mc) (h2 : n ≤ ms) (hp : post v ws) : G p l e R s m args below meth c D (va_A w0 s.heap.size) nL (QI below post D tys w0 args s mc ms) k n ws lv pc [.int v] :=
  fun H locs ls hP hD hS hl => W.widen h1 h2 (W.zret (v := v) C.1 C.2.1 hr hnar (fun t ht hW => ⟨⟨v, (ws, tys), rfl, ⟨hp, rfl⟩, by rw [ht]; exact hP, va_K.moved hW.alike C.hK, hD⟩, hS.F ht⟩) hS.2.2 hdg C.lk)
theorem g_vret (C : CX p s m args meth c cc own Ts D tys (va_A w0 s.heap.size) nL) (hr : meth.sig.returnType = none) {post : va_W → List (ClassId × FieldType) → Prop} (hdg : decode cc pc = .ok (.return_, 1)) (h1 : k ≤ mc) (h2 : n ≤ ms) (hp : post ws tys) : G p l e R s m args below meth c D (va_A w0 s.heap.size) nL (QV below post D w0 args s mc ms) k n ws lv pc [] :=
  fun H locs ls hP hD hS hl => W.widen h1 h2 (W.vret C.1 C.2.1 hr (fun t ht hW => ⟨⟨(ws, tys), rfl, hp, by rw [ht]; exact hP, va_K.moved hW.alike C.hK, hD⟩, hS.F ht⟩) hS.2.2 hdg C.lk)
theorem ap_C {wr wc : va_W} : ((List.range wc.length).map (fun j => wr.length + j)).map (fun i => (wr ++ wc)[i]?) = wc.map some := by
  apply List.ext_getElem?
  intro i
  rw [List.getElem?_map, List.getElem?_map, List.getElem?_map]
  by_cases h : i < wc.length
  · rw [List.getElem?_range h]
    show some ((wr ++ wc)[wr.length + i]?) = _
    rw [List.getElem?_append_right (by omega), show wr.length + i - wr.length = i by omega, List.getElem?_eq_getElem h]
    rfl
  · rw [List.getElem?_eq_none (by rw [List.length_range]; omega), List.getElem?_eq_none (by omega)]
    rfl
theorem ap_R {wr wc : va_W} : (List.range wr.length).map (fun i => (wr ++ wc)[i]?) = wr.map some := by
  apply List.ext_getElem?
  intro i
  rw [List.getElem?_map, List.getElem?_map]
  by_cases h : i < wr.length
  · rw [List.getElem?_range h]
    show some ((wr ++ wc)[i]?) = _
    rw [List.getElem?_append_left h, List.getElem?_eq_getElem h]
    rfl
  · rw [List.getElem?_eq_none (by rw [List.length_range]; omega), List.getElem?_eq_none (by omega)]
    rfl
theorem va_nd_range : ∀ (N b : Nat), va_nd ((List.range N).map (fun j => b + j)) = true := by
  intro N
  have key : ∀ (l : List Nat), l.Nodup → va_nd l = true := by
    intro l
    induction l with
    | nil => intro _; rfl
    | cons a t ih =>
      intro h
      have h2 := List.nodup_cons.mp h
      simp only [va_nd, Bool.and_eq_true]
      refine ⟨?_, ih h2.2⟩
      first | (simp; exact h2.1) | (simpa using h2.1)
  intro b
  apply key
  rw [List.nodup_iff_pairwise_ne, List.pairwise_map]
  exact (List.nodup_iff_pairwise_ne.mp List.nodup_range).imp (fun h h2 => h (by omega))
theorem ap_join {A0 : Nat → Prop} {cl : List vw_C} {wc wr w1 : va_W} {H H1 : Heap} (hP : va_P D cl (wr ++ wc) H) (hD : va_D A0 (wr ++ wc))
    (hk : ∀ q : Nat, q < H.size → ¬ va_A wc H.size q → H1[q]? = H[q]?) (hF : ∀ q, va_A wc H.size q → A0 q) (hP1 : va_P D cl w1 H1) (hD1 : va_D (va_A wc H.size) w1) : va_P D cl (wr ++ w1) H1 ∧ va_D A0 (wr ++ w1) :=
  va_join hP hD ((List.range wc.length).map (fun j => wr.length + j)) (List.range wr.length) ap_C ap_R (by have h := va_nd_range wr.length 0; simpa using h) (fun i hi hj => by
    obtain ⟨j, -, rfl⟩ := List.mem_map.mp hj
    have := List.mem_range.mp hi
    omega) hk hF hP1 hD1
theorem ap_P {cl : List vw_C} {wc wr : va_W} {H : Heap} (hP : va_P D cl (wr ++ wc) H) : va_P D cl wc H := fun k q hq => hP (wr.length + k) q (by rw [List.getElem?_append_right (by omega), show wr.length + k - wr.length = k by omega]; exact hq)
theorem ap_D {A0 : Nat → Prop} {wc wr : va_W} (hD : va_D A0 (wr ++ wc)) : va_D A0 wc := by
  have g : ∀ (k : Nat) (q : Nat × va_E), wc[k]? = some q → (wr ++ wc)[wr.length + k]? = some q := fun k q hq => by
    rw [List.getElem?_append_right (by omega), show wr.length + k - wr.length = k by omega]; exact hq
  exact ⟨fun i j x y hx hy hxy => by have := hD.1 _ _ x y (g i x hx) (g j y hy) hxy; omega, fun k q hq => hD.2 _ q (g k q hq)⟩
theorem ap_F {A0 : Nat → Prop} {wc wr : va_W} {H0 H : Heap} {locs : List Loc} (hD : va_D A0 (wr ++ wc)) (hS : va_S A0 H0 H locs) (hA : ∀ q, H0.size ≤ q → A0 q) : ∀ q, va_A wc H.size q → A0 q :=
  va_free hD hS hA ((List.range wc.length).map (fun j => wr.length + j)) ap_C

theorem g_callVi (C : CX p s m args meth c cc own Ts D tys A nL) {y : MethodName} {wds : List Cond} {fr lo mc ms index maxL nA : Nat} {bytes : ByteArray} {ret : Option FieldType} (wr wc : va_W) {b : Nat} (As : List Value) {stk : List Value} {post : Int32 → va_W → Prop} (hM : CtI l y wds fr lo mc ms D tys (.ref b :: As) wc post) {Cn : String} {ci N : Nat} {T : u_T} {fs : List Value} (hq : vwCl[ci]? = some (Cn, T, N)) (he : wc[0]? = some (b, .inr (ci, fs))) (cw : CallW R s args own Cn index y bytes maxL ret wds { frames := fr, cells := mc, slots := ms, locals := lo } mc ms nA) (hnA : As.length = nA) (hws : ws = wr ++ wc) (hst : stk = As.reverse ++ .ref b :: st) (hcat : (st.map fun v => v.category).sum ≤ 8) (hdg : decode cc pc = .ok (.invokevirtual index, 3)) (hkn : k + mc ≤ R.cells ∧ n + ms ≤ R.slots)
    (kk : ∀ (r : Int32) (w1 : va_W), post r w1 → G p l e R s m args below meth c D A nL Q (k + mc) (n + ms) (wr ++ w1) lv (pc + 3) (.int r :: st)) : G p l e R s m args below meth c D A nL Q k n ws lv pc (stk) := by
  subst hws
  intro H locs ls hP hD hS hl
  exact va_calli (A1 := va_A wc H.size) (va_runV (As := As) (rest := st) C.fix (hM H.size) cw ⟨Bf_blind, va_recv C.hK (ap_P hP) hq he, fun U hU hW => ⟨rfl, by rw [hU], by rw [hU]; exact ap_P hP, va_K.moved hW.alike C.hK, (ap_D hD).weaken (fun _ _ _ _ => trivial)⟩⟩ rfl hnA hl.1 hst (lv_room hcat) hdg hkn) hS (fun q _ h => ap_F hD hS C.hA q h) (ap_F hD hS C.hA) (fun r u t H1 locs1 ht hvm hw hB hz1 hk1 hS1 => kk r u.1 hw.1 H1 locs1 ls (ap_join hP hD hk1 (ap_F hD hS C.hA) (ht ▸ hB.1) hB.2.2).1 (ap_join hP hD hk1 (ap_F hD hS C.hA) (ht ▸ hB.1) hB.2.2).2 hS1 hl)
theorem g_callVv (C : CX p s m args meth c cc own Ts D tys A nL) {y : MethodName} {wds : List Cond} {fr lo mc ms index maxL nA : Nat} {bytes : ByteArray} {ret : Option FieldType} (wr wc : va_W) {b : Nat} (As : List Value) {stk : List Value} {post : va_W → List (ClassId × FieldType) → Prop} (hM : CtV l y wds fr lo mc ms D tys (.ref b :: As) wc post) {Cn : String} {ci N : Nat} {T : u_T} {fs : List Value} (hq : vwCl[ci]? = some (Cn, T, N)) (he : wc[0]? = some (b, .inr (ci, fs))) (cw : CallW R s args own Cn index y bytes maxL ret wds { frames := fr, cells := mc, slots := ms, locals := lo } mc ms nA) (hnA : As.length = nA) (hws : ws = wr ++ wc) (hst : stk = As.reverse ++ .ref b :: st) (hcat : (st.map fun v => v.category).sum ≤ 8) (hdg : decode cc pc = .ok (.invokevirtual index, 3)) (hkn : k + mc ≤ R.cells ∧ n + ms ≤ R.slots)
    (kk : ∀ (w1 : va_W) (t1 : List (ClassId × FieldType)), post w1 t1 → G p l e R s m args below meth c D A nL Q (k + mc) (n + ms) (wr ++ w1) lv (pc + 3) (st)) : G p l e R s m args below meth c D A nL Q k n ws lv pc (stk) := by
  subst hws
  intro H locs ls hP hD hS hl
  exact va_callv (A1 := va_A wc H.size) (va_runV (As := As) (rest := st) C.fix (hM H.size) cw ⟨Bf_blind, va_recv C.hK (ap_P hP) hq he, fun U hU hW => ⟨rfl, by rw [hU], by rw [hU]; exact ap_P hP, va_K.moved hW.alike C.hK, (ap_D hD).weaken (fun _ _ _ _ => trivial)⟩⟩ rfl hnA hl.1 hst (lv_room hcat) hdg hkn) hS (fun q _ h => ap_F hD hS C.hA q h) (ap_F hD hS C.hA) (fun u t H1 locs1 ht hvm hw hB hz1 hk1 hS1 => kk u.1 u.2 hw H1 locs1 ls (ap_join hP hD hk1 (ap_F hD hS C.hA) (ht ▸ hB.1) hB.2.2).1 (ap_join hP hD hk1 (ap_F hD hS C.hA) (ht ▸ hB.1) hB.2.2).2 hS1 hl)
theorem g_callSi (C : CX p s m args meth c cc own Ts D tys A nL) {y : MethodName} {wds : List Cond} {fr lo mc ms index maxL nA : Nat} {bytes : ByteArray} {ret : Option FieldType} (wr wc : va_W) (As : List Value) {stk : List Value} {post : Int32 → va_W → Prop} (hM : CtI l y wds fr lo mc ms D tys (As) wc post)  (cw : CallB R s args own index y bytes maxL ret wds { frames := fr, cells := mc, slots := ms, locals := lo } mc ms nA ∧ (Cond.static y).before args s = true) (hnA : As.length = nA) (hws : ws = wr ++ wc) (hst : stk = As.reverse ++ st) (hcat : (st.map fun v => v.category).sum ≤ 8) (hdg : decode cc pc = .ok (.invokestatic index, 3)) (hkn : k + mc ≤ R.cells ∧ n + ms ≤ R.slots)
    (kk : ∀ (r : Int32) (w1 : va_W), post r w1 → G p l e R s m args below meth c D A nL Q (k + mc) (n + ms) (wr ++ w1) lv (pc + 3) (.int r :: st)) : G p l e R s m args below meth c D A nL Q k n ws lv pc (stk) := by
  subst hws
  intro H locs ls hP hD hS hl
  exact va_calli (A1 := va_A wc H.size) (va_runS (As := As) (rest := st) C.fix (hM H.size) cw ⟨Bf_blind, fun U hU hW => ⟨rfl, by rw [hU], by rw [hU]; exact ap_P hP, va_K.moved hW.alike C.hK, (ap_D hD).weaken (fun _ _ _ _ => trivial)⟩⟩ rfl hnA hl.1 hst (lv_room hcat) hdg hkn) hS (fun q _ h => ap_F hD hS C.hA q h) (ap_F hD hS C.hA) (fun r u t H1 locs1 ht hvm hw hB hz1 hk1 hS1 => kk r u.1 hw.1 H1 locs1 ls (ap_join hP hD hk1 (ap_F hD hS C.hA) (ht ▸ hB.1) hB.2.2).1 (ap_join hP hD hk1 (ap_F hD hS C.hA) (ht ▸ hB.1) hB.2.2).2 hS1 hl)
theorem g_callSv (C : CX p s m args meth c cc own Ts D tys A nL) {y : MethodName} {wds : List Cond} {fr lo mc ms index maxL nA : Nat} {bytes : ByteArray} {ret : Option FieldType} (wr wc : va_W) (As : List Value) {stk : List Value} {post : va_W → List (ClassId × FieldType) → Prop} (hM : CtV l y wds fr lo mc ms D tys (As) wc post)  (cw : CallB R s args own index y bytes maxL ret wds { frames := fr, cells := mc, slots := ms, locals := lo } mc ms nA ∧ (Cond.static y).before args s = true) (hnA : As.length = nA) (hws : ws = wr ++ wc) (hst : stk = As.reverse ++ st) (hcat : (st.map fun v => v.category).sum ≤ 8) (hdg : decode cc pc = .ok (.invokestatic index, 3)) (hkn : k + mc ≤ R.cells ∧ n + ms ≤ R.slots)
    (kk : ∀ (w1 : va_W) (t1 : List (ClassId × FieldType)), post w1 t1 → G p l e R s m args below meth c D A nL Q (k + mc) (n + ms) (wr ++ w1) lv (pc + 3) (st)) : G p l e R s m args below meth c D A nL Q k n ws lv pc (stk) := by
  subst hws
  intro H locs ls hP hD hS hl
  exact va_callv (A1 := va_A wc H.size) (va_runS (As := As) (rest := st) C.fix (hM H.size) cw ⟨Bf_blind, fun U hU hW => ⟨rfl, by rw [hU], by rw [hU]; exact ap_P hP, va_K.moved hW.alike C.hK, (ap_D hD).weaken (fun _ _ _ _ => trivial)⟩⟩ rfl hnA hl.1 hst (lv_room hcat) hdg hkn) hS (fun q _ h => ap_F hD hS C.hA q h) (ap_F hD hS C.hA) (fun u t H1 locs1 ht hvm hw hB hz1 hk1 hS1 => kk u.1 u.2 hw H1 locs1 ls (ap_join hP hD hk1 (ap_F hD hS C.hA) (ht ▸ hB.1) hB.2.2).1 (ap_join hP hD hk1 (ap_F hD hS C.hA) (ht ▸ hB.1) hB.2.2).2 hS1 hl)
theorem g_callIv (C : CX p s m args meth c cc own Ts D tys A nL) {y : MethodName} {wds : List Cond} {fr lo mc ms index maxL nA : Nat} {bytes : ByteArray} {ret : Option FieldType} (wr wc : va_W) {b : Nat} (As : List Value) {stk : List Value} {post : va_W → List (ClassId × FieldType) → Prop} (hM : CtV l y wds fr lo mc ms D tys (.ref b :: As) wc post)  (cw : CallB R s args own index y bytes maxL none wds { frames := fr, cells := mc, slots := ms, locals := lo } mc ms nA ∧ y.name = "<init>" ∧ (Cond.instanceMethod y).before args s = true) (hnA : As.length = nA) (hws : ws = wr ++ wc) (hst : stk = As.reverse ++ .ref b :: st) (hcat : (st.map fun v => v.category).sum ≤ 8) (hdg : decode cc pc = .ok (.invokespecial index, 3)) (hkn : k + mc ≤ R.cells ∧ n + ms ≤ R.slots)
    (kk : ∀ (w1 : va_W) (t1 : List (ClassId × FieldType)), post w1 t1 → va_K D vwCl t1 s → G p l e R s m args below meth c D A nL Q (k + mc) (n + ms) (wr ++ w1) lv (pc + 3) (st)) : G p l e R s m args below meth c D A nL Q k n ws lv pc (stk) := by
  subst hws
  intro H locs ls hP hD hS hl
  exact va_callv (A1 := va_A wc H.size) (va_runI (As := As) (rest := st) C.fix (hM H.size) cw ⟨Bf_blind, fun U hU hW => ⟨rfl, by rw [hU], by rw [hU]; exact ap_P hP, va_K.moved hW.alike C.hK, (ap_D hD).weaken (fun _ _ _ _ => trivial)⟩⟩ rfl hnA hl.1 hst (lv_room hcat) hdg hkn) hS (fun q _ h => ap_F hD hS C.hA q h) (ap_F hD hS C.hA) (fun u t H1 locs1 ht hvm hw hB hz1 hk1 hS1 => kk u.1 u.2 hw (va_K.moved hvm.symm hB.2.1) H1 locs1 ls (ap_join hP hD hk1 (ap_F hD hS C.hA) (ht ▸ hB.1) hB.2.2).1 (ap_join hP hD hk1 (ap_F hD hS C.hA) (ht ▸ hB.1) hB.2.2).2 hS1 hl)
theorem g_callNv (C : CX p s m args meth c cc own Ts D tys A nL) {y : MethodName} {wds : List Cond} {fr lo mc ms index maxL nA : Nat} {bytes : ByteArray} {ret : Option FieldType} (wr wc : va_W) {b : Nat} (As : List Value) {stk : List Value} {post : va_W → List (ClassId × FieldType) → Prop} (hM : CtV l y wds fr lo mc ms D tys (.ref b :: As) wc post)  {host : String} (cw : va_CN R s args own index y host bytes maxL none wds { frames := fr, cells := mc, slots := ms, locals := lo } mc ms nA ∧ y.name = "<init>" ∧ (Cond.instanceMethod y).before args s = true) (hnA : As.length = nA) (hws : ws = wr ++ wc) (hst : stk = As.reverse ++ .ref b :: st) (hcat : (st.map fun v => v.category).sum ≤ 8) (hdg : decode cc pc = .ok (.invokespecial index, 3)) (hkn : k + mc ≤ R.cells ∧ n + ms ≤ R.slots)
    (kk : ∀ (w1 : va_W) (t1 : List (ClassId × FieldType)), post w1 t1 → va_K D vwCl t1 s → G p l e R s m args below meth c D A nL Q (k + mc) (n + ms) (wr ++ w1) lv (pc + 3) (st)) : G p l e R s m args below meth c D A nL Q k n ws lv pc (stk) := by
  subst hws
  intro H locs ls hP hD hS hl
  exact va_callv (A1 := va_A wc H.size) (va_runIN (As := As) (rest := st) C.fix (hM H.size) cw ⟨Bf_blind, fun U hU hW => ⟨rfl, by rw [hU], by rw [hU]; exact ap_P hP, va_K.moved hW.alike C.hK, (ap_D hD).weaken (fun _ _ _ _ => trivial)⟩⟩ rfl hnA hl.1 hst (lv_room hcat) hdg hkn) hS (fun q _ h => ap_F hD hS C.hA q h) (ap_F hD hS C.hA) (fun u t H1 locs1 ht hvm hw hB hz1 hk1 hS1 => kk u.1 u.2 hw (va_K.moved hvm.symm hB.2.1) H1 locs1 ls (ap_join hP hD hk1 (ap_F hD hS C.hA) (ht ▸ hB.1) hB.2.2).1 (ap_join hP hD hk1 (ap_F hD hS C.hA) (ht ▸ hB.1) hB.2.2).2 hS1 hl)
end GR
