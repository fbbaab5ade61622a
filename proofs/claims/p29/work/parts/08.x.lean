/-! methods that throw: contracts and rows over G -/
abbrev xIA : String := "java/lang/IllegalArgumentException"
abbrev xIS : String := "java/lang/IllegalStateException"
abbrev xIB : String := "java/lang/IndexOutOfBoundsException"
/-- what the tables say of the three kinds that are thrown, and the five texts -/
def EV (U : State) : Prop :=
  (va_Nw (.castable xIA xIA) U ∧ va_Nw (.castable xIS xIS) U ∧ va_Nw (.castable xIB xIB) U) ∧
  (va_Nw (.declares (Bundle.initS Bundle.tN)) U ∧ va_Nw (.declares (Bundle.initS "java/lang/Exception")) U ∧ va_Nw (.declares (Bundle.initS "java/lang/RuntimeException")) U) ∧
  (va_Nc xIS xIA U ∧ va_Nc xIA xIB U) ∧
  (∃ sa, vk_R "CellPlanner" 146 "an argument is out of its range" sa U) ∧ (∃ sa, vk_R "CellPlanner" 57 "there are 5 cells" sa U) ∧ (∃ sa, vk_R "CellPlanner" 151 "there is no such cell" sa U) ∧ (∃ sa, vk_R "CellPlanner" 83 "there are 6 walkers" sa U) ∧ (∃ sa, vk_R "CellPlanner" 154 "there is no such walker" sa U)
theorem decl_warm {x : MethodName} {s U : State} (hW : s.WarmedH U.vm) (h : va_Nw (.declares x) s) : va_Nw (.declares x) U := va_tabs rfl (rfl : (s.setVm U.vm).vm = U.vm) (by rw [Cond.declares_setVm hW.alike]; exact h)
theorem EV.warm {s U : State} (hW : s.WarmedH U.vm) (h : EV s) : EV U := by
  obtain ⟨⟨a1, a2, a3⟩, ⟨b1, b2, b3⟩, ⟨c1, c2⟩, ⟨s1, d1⟩, ⟨s2, d2⟩, ⟨s3, d3⟩, ⟨s4, d4⟩, ⟨s5, d5⟩⟩ := h
  exact ⟨⟨a1.warmC hW, a2.warmC hW, a3.warmC hW⟩, ⟨decl_warm hW b1, decl_warm hW b2, decl_warm hW b3⟩, ⟨c1.moved hW.alike, c2.moved hW.alike⟩, ⟨s1, d1.warm hW⟩, ⟨s2, d2.warm hW⟩, ⟨s3, d3.warm hW⟩, ⟨s4, d4.warm hW⟩, ⟨s5, d5.warm hW⟩⟩
theorem EV.same {s U : State} (hv : U.vm = s.vm) (h : EV s) : EV U := by
  obtain ⟨⟨a1, a2, a3⟩, ⟨b1, b2, b3⟩, ⟨c1, c2⟩, ⟨s1, d1⟩, ⟨s2, d2⟩, ⟨s3, d3⟩, ⟨s4, d4⟩, ⟨s5, d5⟩⟩ := h
  have hal : s.vm.Alike U.vm := by rw [hv]; exact Vm.Alike.refl _
  exact ⟨⟨a1.same rfl hv.symm, a2.same rfl hv.symm, a3.same rfl hv.symm⟩, ⟨b1.same rfl hv.symm, b2.same rfl hv.symm, b3.same rfl hv.symm⟩, ⟨c1.moved hal, c2.moved hal⟩, ⟨s1, d1.same hv⟩, ⟨s2, d2.same hv⟩, ⟨s3, d3.same hv⟩, ⟨s4, d4.same hv⟩, ⟨s5, d5.same hv⟩⟩
/-- what a method that may throw knows at its entry, beside its world -/
def XX (A : Nat → Prop) (U : State) (H : Heap) : Prop := EV U ∧ vx_Zq Bundle.tN "UNASSIGNED_STACK" Bundle.steD A U H ∧ vx_Zq Bundle.tN "SUPPRESSED_SENTINEL" Bundle.listD A U H
theorem XX.into {A B : Nat → Prop} {s U : State} {H : Heap} {locs : List Loc} (h : XX A s s.heap) (hS : va_S A s.heap H locs) (hAB : ∀ q, B q → A q) (hW : s.WarmedH U.vm) (hU : U.heap = H) : XX B U U.heap := by
  obtain ⟨h1, h2, h3⟩ := h
  rw [hU]
  exact ⟨h1.warm hW, ((h2.kept hS.2.1).narrow hAB).moved hW.alike, ((h3.kept hS.2.1).narrow hAB).moved hW.alike⟩
def Bx (D : va_G) (tys : List (ClassId × FieldType)) (w : va_W) (sz : Nat) : State → Prop := fun U => Bf D tys w sz U ∧ XX (va_A w sz) U U.heap
theorem Bx_blind {D : va_G} {tys : List (ClassId × FieldType)} {av : List Value} {w : va_W} {sz : Nat} : FrameBlind (va_Pc av (Bx D tys w sz)) := fun a U g mk q => by
  obtain ⟨q0, ⟨q1, qP, qK, qD⟩, e1, e2, e3⟩ := q
  exact ⟨q0, ⟨q1, qP, va_K.moved (u := U) (U := U.calling g mk a) (Vm.Alike.refl U.vm) qK, qD⟩, e1.same rfl, e2.moved (u := U) (U := U.calling g mk a) (Vm.Alike.refl U.vm), e3.moved (u := U) (U := U.calling g mk a) (Vm.Alike.refl U.vm)⟩
/-- where it has thrown: the kind, and the world as it was -/
def XCf (D : va_G) (tys : List (ClassId × FieldType)) (w : va_W) (sz : Nat) (px : String → Prop) : String → State → State → Prop :=
  vx_X (S := Unit) (fun _ => True) (fun E _ t => px E ∧ va_P D vwCl w t.heap ∧ va_K D vwCl tys t ∧ va_D (va_A w sz) w) (va_A w sz)
def CxI (l : Launch) (y : MethodName) (wds : List Cond) (fr lo mc ms : Nat) (D : va_G) (tys : List (ClassId × FieldType)) (av : List Value) (w : va_W) (post : Int32 → va_W → Prop) (px : String → Prop) : Prop :=
  ∀ sz : Nat, vx_Met l y wds { frames := fr, cells := mc, slots := ms, locals := lo } (va_Pc av (Bx D tys w sz)) (va_Qi (fun r u => post r u.1 ∧ u.2 = tys) (Af D w sz) (va_A w sz)) (XCf D tys w sz px) mc ms (va_A w sz)
def CxV (l : Launch) (y : MethodName) (wds : List Cond) (fr lo mc ms : Nat) (D : va_G) (tys : List (ClassId × FieldType)) (av : List Value) (w : va_W) (post : va_W → List (ClassId × FieldType) → Prop) (px : String → Prop) : Prop :=
  ∀ sz : Nat, vx_Met l y wds { frames := fr, cells := mc, slots := ms, locals := lo } (va_Pc av (Bx D tys w sz)) (va_Qv (fun u => post u.1 u.2) (Af D w sz) (va_A w sz)) (XCf D tys w sz px) mc ms (va_A w sz)
def QXI (below : List Frame) (post : Int32 → va_W → Prop) (px : String → Prop) (D : va_G) (tys : List (ClassId × FieldType)) (w : va_W) (args : Array Value) (s : State) (mc ms : Nat) : State → Prop :=
  vx_MQ below (va_Qi (fun r u => post r u.1 ∧ u.2 = tys) (Af D w s.heap.size) (va_A w s.heap.size)) (XCf D tys w s.heap.size px) args s mc ms (va_A w s.heap.size)
def QXV (below : List Frame) (post : va_W → List (ClassId × FieldType) → Prop) (px : String → Prop) (D : va_G) (tys : List (ClassId × FieldType)) (w : va_W) (args : Array Value) (s : State) (mc ms : Nat) : State → Prop :=
  vx_MQ below (va_Qv (fun u => post u.1 u.2) (Af D w s.heap.size) (va_A w s.heap.size)) (XCf D tys w s.heap.size px) args s mc ms (va_A w s.heap.size)
theorem cxI_of {l : Launch} {D : va_G} {tys : List (ClassId × FieldType)} {y : MethodName} {wds wds' : List Cond} {fr lo mc ms : Nat} {av : List Value} {w : va_W} {post : Int32 → va_W → Prop} {px : String → Prop} {cc : ByteArray} {maxL : Nat} {ret : Option FieldType} (own : String) (r : Nat) (lv0 : List (Option Value)) (hy : plainName y.cls = true) (hw : wds = Cond.code y cc maxL ret :: wds') (hown : y.cls = own) (hlen : (lg_sl av).length ≤ maxL) (hlv : lvE av ++ List.replicate r none = lv0)
    (body : ∀ (p : Program) (e : Env) (s : State) (m : MethodId) (args : Array Value) (below : List Frame) (meth : Method) (c : Code), CX p s m args meth c cc own wds D tys (va_A w s.heap.size) maxL → meth.sig.returnType = ret → (∀ x ∈ c.exceptionTable.toList, False) → XX (va_A w s.heap.size) s s.heap →
      G p l e { frames := fr, cells := mc, slots := ms, locals := lo } s m args below meth c D (va_A w s.heap.size) maxL (QXI below post px D tys w args s mc ms) 0 0 w lv0 0 []) : CxI l y wds fr lo mc ms D tys av w post px := by
  intro sz
  refine vx_ofW (cc := cc) (maxL := maxL) (ret := ret) hy hw ?_
  intro p e s m args below meth c s₁ B hml hE hv
  obtain ⟨rfl, ⟨hsz, hP, hK, hD0⟩, hX⟩ := hv
  subst hsz
  rw [lg_entry_eq]
  exact body p e s m av.toArray below meth c ⟨B.exec, B.bytes, hml, by rw [← hown]; exact findClass_of_methodNamed B.named, atoms_spec (ws := wds) B.pre, hK, fun q h => Or.inr h, B.notSynchronized⟩ B.returns hE hX s.heap [] _ hP (hD0.self) va_S.rf (lh_entry hlen hlv)
theorem cxV_of {l : Launch} {D : va_G} {tys : List (ClassId × FieldType)} {y : MethodName} {wds wds' : List Cond} {fr lo mc ms : Nat} {av : List Value} {w : va_W} {post : va_W → List (ClassId × FieldType) → Prop} {px : String → Prop} {cc : ByteArray} {maxL : Nat} (own : String) (r : Nat) (lv0 : List (Option Value)) (hy : plainName y.cls = true) (hw : wds = Cond.code y cc maxL none :: wds') (hown : y.cls = own) (hlen : (lg_sl av).length ≤ maxL) (hlv : lvE av ++ List.replicate r none = lv0)
    (body : ∀ (p : Program) (e : Env) (s : State) (m : MethodId) (args : Array Value) (below : List Frame) (meth : Method) (c : Code), CX p s m args meth c cc own wds D tys (va_A w s.heap.size) maxL → meth.sig.returnType = none → (∀ x ∈ c.exceptionTable.toList, False) → XX (va_A w s.heap.size) s s.heap →
      G p l e { frames := fr, cells := mc, slots := ms, locals := lo } s m args below meth c D (va_A w s.heap.size) maxL (QXV below post px D tys w args s mc ms) 0 0 w lv0 0 []) : CxV l y wds fr lo mc ms D tys av w post px := by
  intro sz
  refine vx_ofW (cc := cc) (maxL := maxL) (ret := none) hy hw ?_
  intro p e s m args below meth c s₁ B hml hE hv
  obtain ⟨rfl, ⟨hsz, hP, hK, hD0⟩, hX⟩ := hv
  subst hsz
  rw [lg_entry_eq]
  exact body p e s m av.toArray below meth c ⟨B.exec, B.bytes, hml, by rw [← hown]; exact findClass_of_methodNamed B.named, atoms_spec (ws := wds) B.pre, hK, fun q h => Or.inr h, B.notSynchronized⟩ B.returns hE hX s.heap [] _ hP (hD0.self) va_S.rf (lh_entry hlen hlv)
/-- a method with handlers -/
theorem cxI_ofH {l : Launch} {D : va_G} {tys : List (ClassId × FieldType)} {y : MethodName} {wds wds' : List Cond} {fr lo mc ms : Nat} {av : List Value} {w : va_W} {post : Int32 → va_W → Prop} {px : String → Prop} {cc : ByteArray} {maxL : Nat} {ret : Option FieldType} {hh : List (Nat × Nat × Nat × Nat)} (own : String) (r : Nat) (lv0 : List (Option Value)) (hy : plainName y.cls = true) (hw : wds = Cond.codeWith y cc maxL ret hh :: wds') (hown : y.cls = own) (hlen : (lg_sl av).length ≤ maxL) (hlv : lvE av ++ List.replicate r none = lv0)
    (body : ∀ (p : Program) (e : Env) (s : State) (m : MethodId) (args : Array Value) (below : List Frame) (meth : Method) (c : Code), CX p s m args meth c cc own wds D tys (va_A w s.heap.size) maxL → meth.sig.returnType = ret → c.exceptionTable.toList = tableOf hh → XX (va_A w s.heap.size) s s.heap →
      G p l e { frames := fr, cells := mc, slots := ms, locals := lo } s m args below meth c D (va_A w s.heap.size) maxL (QXI below post px D tys w args s mc ms) 0 0 w lv0 0 []) : CxI l y wds fr lo mc ms D tys av w post px := by
  intro sz
  refine vx_ofWH (cc := cc) (maxL := maxL) (ret := ret) (hh := hh) hy hw ?_
  intro p e s m args below meth c s₁ B hml hv
  obtain ⟨rfl, ⟨hsz, hP, hK, hD0⟩, hX⟩ := hv
  subst hsz
  rw [lg_entry_eq]
  have hts := atoms_spec (ws := wds) B.pre
  exact body p e s m av.toArray below meth c ⟨B.exec, B.bytes, hml, by rw [← hown]; exact findClass_of_methodNamed B.named, hts, hK, fun q h => Or.inr h, B.notSynchronized⟩ B.returns (vx_table (x := y) B (hts _ (by rw [hw]; exact List.mem_cons_self))) hX s.heap [] _ hP (hD0.self) va_S.rf (lh_entry hlen hlv)
section GX
variable {p : Program} {l : Launch} {e : Env} {R : Room} {s : State} {m : MethodId} {args : Array Value} {below : List Frame} {meth : Method} {c : Code} {Q : State → Prop} {k n : Nat}
variable {cc : ByteArray} {own : String} {Ts : List Cond} {D : va_G} {tys : List (ClassId × FieldType)} {A : Nat → Prop} {nL : Nat} {ws : va_W} {lv : List (Option Value)} {pc : Nat} {st : List Value}
variable {w0 : va_W} {mc ms : Nat} {px : String → Prop}
theorem gx_I {post : Int32 → va_W → Prop} (kk : G p l e R s m args below meth c D A nL (QI below post D tys w0 args s mc ms) k n ws lv pc st) : G p l e R s m args below meth c D A nL (QXI below post px D tys w0 args s mc ms) k n ws lv pc st :=
  fun H locs ls hP hD hS hl => vx_ret (kk H locs ls hP hD hS hl)
theorem gx_V {post : va_W → List (ClassId × FieldType) → Prop} (kk : G p l e R s m args below meth c D A nL (QV below post D w0 args s mc ms) k n ws lv pc st) : G p l e R s m args below meth c D A nL (QXV below post px D tys w0 args s mc ms) k n ws lv pc st :=
  fun H locs ls hP hD hS hl => vx_ret (kk H locs ls hP hD hS hl)
/-- where a throw begins: the world is still the entry's -/
theorem XC_of {H : Heap} {locs : List Loc} (hK : va_K D vwCl tys s) (hP : va_P D vwCl w0 H) (hD : va_D (va_A w0 s.heap.size) w0) (hS : va_S (va_A w0 s.heap.size) s.heap H locs) {E : String} (hpx : px E) {t : State} (hal : s.vm.Alike t.vm) (hz : H.size ≤ t.heap.size) (ho : ∀ q : Nat, q < H.size → t.heap[q]? = H[q]?) : XCf D tys w0 s.heap.size px E s t :=
  ⟨(), trivial, ⟨hpx, hP.kept (fun k q hq => ho q.1 ((hP k q hq).lt)), va_K.moved hal hK, hD⟩, Nat.le_trans hS.1 hz, fun q h1 h2 => (ho q (Nat.lt_of_lt_of_le h1 hS.1)).trans (hS.2.1 q h1 h2)⟩
def xB (X : String) : List Cond := [.castable X X, .declares (Bundle.initS Bundle.tN), .declares (Bundle.initS "java/lang/Exception"), .declares (Bundle.initS "java/lang/RuntimeException")]
theorem xB_ok {X : String} (h1 : va_Nw (.castable X X) s) (h : EV s) : ∀ w ∈ xB X, w.before args s = true :=
  vx_c (va_Nw.use rfl h1) (vx_c (va_Nw.use rfl h.2.1.1) (vx_c (va_Nw.use rfl h.2.1.2.1) (vx_c (va_Nw.use rfl h.2.1.2.2) vx_n)))
theorem gx_throwI {post : Int32 → va_W → Prop} (C : CX p s m args meth c cc own Ts D tys (va_A w0 s.heap.size) nL) (hl0 : l.stackTraces = false) (hE : ∀ x ∈ c.exceptionTable.toList, False) (hX : XX (va_A w0 s.heap.size) s s.heap) {X text : String} {ik is ic sa : Nat} (hstr : vk_R own is text sa s) (hc : va_Nw (.castable X X) s)
    (hfit : Bundle.fit X = true) (hk : Cond.classLink own ik X ∈ Ts) (hini : Cond.initialized X ∈ Ts) (hat : ∀ w ∈ (vx_atS own ic X ["java/lang/RuntimeException", "java/lang/Exception"]).filter goodWord, w ∈ Ts) (hat2 : ∀ w ∈ (vx_atS own ic X ["java/lang/RuntimeException", "java/lang/Exception"]).filter (fun w => !goodWord w), w ∈ xB X)
    (hgood : ∀ w ∈ Cond.classLink own ik X :: Cond.initialized X :: vx_atS own ic X ["java/lang/RuntimeException", "java/lang/Exception"], vx_ot w = true)
    (d0 : decode cc pc = .ok (.new ik, 3)) (d3 : decode cc (pc + 3) = .ok (.dup, 1)) (d4 : decode cc (pc + 4) = .ok (.ldc is, 2)) (d6 : decode cc (pc + 6) = .ok (.invokespecial ic, 3)) (d9 : decode cc (pc + 9) = .ok (.athrow, 1))
    (hws : ws = w0) (hcat : (st.map fun v => v.category).sum ≤ 8) (hRf : 5 < R.frames) (hRl : 90 ≤ R.locals) (hRc : k + 1 ≤ R.cells) (hRs : n + 6 ≤ R.slots) (h1 : k + 1 ≤ mc) (h2 : n + 6 ≤ ms) (hpx : px X) : G p l e R s m args below meth c D (va_A w0 s.heap.size) nL (QXI below post px D tys w0 args s mc ms) k n ws lv pc st := by
  subst hws
  intro H locs ls hP hD hS hl
  exact vx_throwS C.1 C.2.1 hl0 C.2.2.2.1 hfit (by decide +kernel) (C.ts _ hk) (C.ts _ hini) hstr (vx_hat (fun w hw => C.ts w (hat w hw)) hat2 (xB_ok hc hX.1)) hgood hX.2.1 hX.2.2 hS (hl.1.trans C.2.2.1.symm) d0 d3 d4 d6 d9 (fun x hx => absurd (hE x hx) (fun h => h)) (by show 2 + 3 < _; omega) (by show _ + (13 * (2 + 1) + 43) ≤ _; omega) hRc hRs C.lk (fun t ha hz ho => XC_of C.hK hP hD hS hpx ha hz ho) hS.2.2 h1 h2
theorem gx_throwV {post : va_W → List (ClassId × FieldType) → Prop} (C : CX p s m args meth c cc own Ts D tys (va_A w0 s.heap.size) nL) (hl0 : l.stackTraces = false) (hE : ∀ x ∈ c.exceptionTable.toList, False) (hX : XX (va_A w0 s.heap.size) s s.heap) {X text : String} {ik is ic sa : Nat} (hstr : vk_R own is text sa s) (hc : va_Nw (.castable X X) s)
    (hfit : Bundle.fit X = true) (hk : Cond.classLink own ik X ∈ Ts) (hini : Cond.initialized X ∈ Ts) (hat : ∀ w ∈ (vx_atS own ic X ["java/lang/RuntimeException", "java/lang/Exception"]).filter goodWord, w ∈ Ts) (hat2 : ∀ w ∈ (vx_atS own ic X ["java/lang/RuntimeException", "java/lang/Exception"]).filter (fun w => !goodWord w), w ∈ xB X)
    (hgood : ∀ w ∈ Cond.classLink own ik X :: Cond.initialized X :: vx_atS own ic X ["java/lang/RuntimeException", "java/lang/Exception"], vx_ot w = true)
    (d0 : decode cc pc = .ok (.new ik, 3)) (d3 : decode cc (pc + 3) = .ok (.dup, 1)) (d4 : decode cc (pc + 4) = .ok (.ldc is, 2)) (d6 : decode cc (pc + 6) = .ok (.invokespecial ic, 3)) (d9 : decode cc (pc + 9) = .ok (.athrow, 1))
    (hws : ws = w0) (hcat : (st.map fun v => v.category).sum ≤ 8) (hRf : 5 < R.frames) (hRl : 90 ≤ R.locals) (hRc : k + 1 ≤ R.cells) (hRs : n + 6 ≤ R.slots) (h1 : k + 1 ≤ mc) (h2 : n + 6 ≤ ms) (hpx : px X) : G p l e R s m args below meth c D (va_A w0 s.heap.size) nL (QXV below post px D tys w0 args s mc ms) k n ws lv pc st := by
  subst hws
  intro H locs ls hP hD hS hl
  exact vx_throwS C.1 C.2.1 hl0 C.2.2.2.1 hfit (by decide +kernel) (C.ts _ hk) (C.ts _ hini) hstr (vx_hat (fun w hw => C.ts w (hat w hw)) hat2 (xB_ok hc hX.1)) hgood hX.2.1 hX.2.2 hS (hl.1.trans C.2.2.1.symm) d0 d3 d4 d6 d9 (fun x hx => absurd (hE x hx) (fun h => h)) (by show 2 + 3 < _; omega) (by show _ + (13 * (2 + 1) + 43) ≤ _; omega) hRc hRs C.lk (fun t ha hz ho => XC_of C.hK hP hD hS hpx ha hz ho) hS.2.2 h1 h2
/-- a call that may throw, run -/
theorem gx_runV (C : CX p s m args meth c cc own Ts D tys A nL) {y : MethodName} {wds : List Cond} {fr lo mc ms index maxL nA : Nat} {bytes : ByteArray} {ret : Option FieldType} {wr wc : va_W} {b : Nat} {As : List Value} {Qc : Array Value → State → Outcome → State → Prop} {XC : String → State → State → Prop} {H : Heap} {locs : List Loc} {ls : Array Slot} (hX : XX A s s.heap) (hP : va_P D vwCl (wr ++ wc) H) (hD : va_D A (wr ++ wc)) (hS : va_S A s.heap H locs) (hl : lh ls nL lv)
    (hM : vx_Met l y wds { frames := fr, cells := mc, slots := ms, locals := lo } (va_Pc (.ref b :: As) (Bx D tys wc H.size)) Qc XC mc ms (va_A wc H.size)) {Cn : String} {ci N : Nat} {T : u_T} {fs : List Value} (hq : vwCl[ci]? = some (Cn, T, N)) (he : wc[0]? = some (b, .inr (ci, fs))) (cw : CallW R s args own Cn index y bytes maxL ret wds { frames := fr, cells := mc, slots := ms, locals := lo } mc ms nA) (hnA : As.length = nA) (hcat : (st.map fun v => v.category).sum ≤ 8) (hdg : decode cc pc = .ok (.invokevirtual index, 3)) (hkn : k + mc ≤ R.cells ∧ n + ms ≤ R.slots) :
    vx_Run p l e R s m args below meth c H locs k n mc ms (F0 m pc ls (As.reverse ++ .ref b :: st)) st (Qc (Value.ref b :: As).toArray) XC (va_A wc H.size) :=
  vx_runV (As := As) (rest := st) C.fix hM cw ⟨Bx_blind, va_recv C.hK (ap_P hP) hq he, fun U hU hW => ⟨rfl, ⟨by rw [hU], by rw [hU]; exact ap_P hP, va_K.moved hW.alike C.hK, (ap_D hD).weaken (fun _ _ _ _ => trivial)⟩, hX.into hS (ap_F hD hS C.hA) hW hU⟩⟩ rfl hnA hl.1 rfl (lv_room hcat) hdg hkn
theorem gx_runS (C : CX p s m args meth c cc own Ts D tys A nL) {y : MethodName} {wds : List Cond} {fr lo mc ms index maxL nA : Nat} {bytes : ByteArray} {ret : Option FieldType} {wr wc : va_W} {As : List Value} {Qc : Array Value → State → Outcome → State → Prop} {XC : String → State → State → Prop} {H : Heap} {locs : List Loc} {ls : Array Slot} (hX : XX A s s.heap) (hP : va_P D vwCl (wr ++ wc) H) (hD : va_D A (wr ++ wc)) (hS : va_S A s.heap H locs) (hl : lh ls nL lv)
    (hM : vx_Met l y wds { frames := fr, cells := mc, slots := ms, locals := lo } (va_Pc As (Bx D tys wc H.size)) Qc XC mc ms (va_A wc H.size)) (cw : CallB R s args own index y bytes maxL ret wds { frames := fr, cells := mc, slots := ms, locals := lo } mc ms nA ∧ (Cond.static y).before args s = true) (hnA : As.length = nA) (hcat : (st.map fun v => v.category).sum ≤ 8) (hdg : decode cc pc = .ok (.invokestatic index, 3)) (hkn : k + mc ≤ R.cells ∧ n + ms ≤ R.slots) :
    vx_Run p l e R s m args below meth c H locs k n mc ms (F0 m pc ls (As.reverse ++ st)) st (Qc As.toArray) XC (va_A wc H.size) :=
  vx_runS (As := As) (rest := st) C.fix hM cw ⟨Bx_blind, fun U hU hW => ⟨rfl, ⟨by rw [hU], by rw [hU]; exact ap_P hP, va_K.moved hW.alike C.hK, (ap_D hD).weaken (fun _ _ _ _ => trivial)⟩, hX.into hS (ap_F hD hS C.hA) hW hU⟩⟩ rfl hnA hl.1 rfl (lv_room hcat) hdg hkn
theorem gx_propVI (C : CX p s m args meth c cc own Ts D tys (va_A w0 s.heap.size) nL) (hE : ∀ x ∈ c.exceptionTable.toList, False) (hX : XX (va_A w0 s.heap.size) s s.heap) {post : Int32 → va_W → Prop} {y : MethodName} {wds : List Cond} {fr lo mc ms index maxL nA mc0 ms0 : Nat} {bytes : ByteArray} {ret : Option FieldType} (wr wc : va_W) {b : Nat} (As : List Value) {stk : List Value} {postC : va_W → List (ClassId × FieldType) → Prop} {pxC : String → Prop} (hM : CxV l y wds fr lo mc ms D tys (.ref b :: As) wc postC pxC) {Cn : String} {ci N : Nat} {T : u_T} {fs : List Value} (hq : vwCl[ci]? = some (Cn, T, N)) (he : wc[0]? = some (b, .inr (ci, fs))) (cw : CallW R s args own Cn index y bytes maxL ret wds { frames := fr, cells := mc, slots := ms, locals := lo } mc ms nA) (hnA : As.length = nA) (hws : ws = wr ++ wc) (hw0 : wr ++ wc = w0) (hst : stk = As.reverse ++ .ref b :: st) (hcat : (st.map fun v => v.category).sum ≤ 8) (hdg : decode cc pc = .ok (.invokevirtual index, 3)) (hkn : k + mc ≤ R.cells ∧ n + ms ≤ R.slots) (h1 : k + mc ≤ mc0) (h2 : n + ms ≤ ms0) (hpx : ∀ E, pxC E → px E)
    (kk : ∀ (w1 : va_W) (t1 : List (ClassId × FieldType)), postC w1 t1 → G p l e R s m args below meth c D (va_A w0 s.heap.size) nL (QXI below post px D tys w0 args s mc0 ms0) (k + mc) (n + ms) (wr ++ w1) lv (pc + 3) (st)) : G p l e R s m args below meth c D (va_A w0 s.heap.size) nL (QXI below post px D tys w0 args s mc0 ms0) k n ws lv pc (stk) := by
  subst hws
  subst hst
  intro H locs ls hP hD hS hl
  refine vx_callv (A1 := va_A wc H.size) (gx_runV C hX hP hD hS hl (hM H.size) hq he cw hnA hcat hdg hkn) hS (fun q _ h => ap_F hD hS C.hA q h) (ap_F hD hS C.hA) (fun q _ h => ap_F hD hS C.hA q h) ?_ ?_
  · intro E ce q9 u t H1 locs1 ht hvm _ hB hz1 hk1 hS1 hce hcv hcl
    obtain ⟨hpE, hP1, hK1, hD1⟩ := hB
    rw [ht] at hP1
    obtain ⟨j1, j2⟩ := ap_join hP hD hk1 (ap_F hD hS C.hA) hP1 hD1
    refine vx_out (fun x hx => absurd (hE x hx) (fun h => h)) C.lk hce hcv hcl (fun t2 ht2 ha2 => ?_) hS1.2.2 h1 h2
    subst hw0
    exact XC_of C.hK j1 j2 hS1 (hpx E hpE) ha2 (by rw [ht2]; exact Nat.le_refl _) (fun q _ => by rw [ht2])
  · intro u t H1 locs1 ht hvm hw hB hz1 hk1 hS1
    exact kk u.1 u.2 hw H1 locs1 ls (ap_join hP hD hk1 (ap_F hD hS C.hA) (ht ▸ hB.1) hB.2.2).1 (ap_join hP hD hk1 (ap_F hD hS C.hA) (ht ▸ hB.1) hB.2.2).2 hS1 hl
theorem gx_propVV (C : CX p s m args meth c cc own Ts D tys (va_A w0 s.heap.size) nL) (hE : ∀ x ∈ c.exceptionTable.toList, False) (hX : XX (va_A w0 s.heap.size) s s.heap) {post : va_W → List (ClassId × FieldType) → Prop} {y : MethodName} {wds : List Cond} {fr lo mc ms index maxL nA mc0 ms0 : Nat} {bytes : ByteArray} {ret : Option FieldType} (wr wc : va_W) {b : Nat} (As : List Value) {stk : List Value} {postC : va_W → List (ClassId × FieldType) → Prop} {pxC : String → Prop} (hM : CxV l y wds fr lo mc ms D tys (.ref b :: As) wc postC pxC) {Cn : String} {ci N : Nat} {T : u_T} {fs : List Value} (hq : vwCl[ci]? = some (Cn, T, N)) (he : wc[0]? = some (b, .inr (ci, fs))) (cw : CallW R s args own Cn index y bytes maxL ret wds { frames := fr, cells := mc, slots := ms, locals := lo } mc ms nA) (hnA : As.length = nA) (hws : ws = wr ++ wc) (hw0 : wr ++ wc = w0) (hst : stk = As.reverse ++ .ref b :: st) (hcat : (st.map fun v => v.category).sum ≤ 8) (hdg : decode cc pc = .ok (.invokevirtual index, 3)) (hkn : k + mc ≤ R.cells ∧ n + ms ≤ R.slots) (h1 : k + mc ≤ mc0) (h2 : n + ms ≤ ms0) (hpx : ∀ E, pxC E → px E)
    (kk : ∀ (w1 : va_W) (t1 : List (ClassId × FieldType)), postC w1 t1 → G p l e R s m args below meth c D (va_A w0 s.heap.size) nL (QXV below post px D tys w0 args s mc0 ms0) (k + mc) (n + ms) (wr ++ w1) lv (pc + 3) (st)) : G p l e R s m args below meth c D (va_A w0 s.heap.size) nL (QXV below post px D tys w0 args s mc0 ms0) k n ws lv pc (stk) := by
  subst hws
  subst hst
  intro H locs ls hP hD hS hl
  refine vx_callv (A1 := va_A wc H.size) (gx_runV C hX hP hD hS hl (hM H.size) hq he cw hnA hcat hdg hkn) hS (fun q _ h => ap_F hD hS C.hA q h) (ap_F hD hS C.hA) (fun q _ h => ap_F hD hS C.hA q h) ?_ ?_
  · intro E ce q9 u t H1 locs1 ht hvm _ hB hz1 hk1 hS1 hce hcv hcl
    obtain ⟨hpE, hP1, hK1, hD1⟩ := hB
    rw [ht] at hP1
    obtain ⟨j1, j2⟩ := ap_join hP hD hk1 (ap_F hD hS C.hA) hP1 hD1
    refine vx_out (fun x hx => absurd (hE x hx) (fun h => h)) C.lk hce hcv hcl (fun t2 ht2 ha2 => ?_) hS1.2.2 h1 h2
    subst hw0
    exact XC_of C.hK j1 j2 hS1 (hpx E hpE) ha2 (by rw [ht2]; exact Nat.le_refl _) (fun q _ => by rw [ht2])
  · intro u t H1 locs1 ht hvm hw hB hz1 hk1 hS1
    exact kk u.1 u.2 hw H1 locs1 ls (ap_join hP hD hk1 (ap_F hD hS C.hA) (ht ▸ hB.1) hB.2.2).1 (ap_join hP hD hk1 (ap_F hD hS C.hA) (ht ▸ hB.1) hB.2.2).2 hS1 hl
theorem gx_propSI (C : CX p s m args meth c cc own Ts D tys (va_A w0 s.heap.size) nL) (hE : ∀ x ∈ c.exceptionTable.toList, False) (hX : XX (va_A w0 s.heap.size) s s.heap) {post : Int32 → va_W → Prop} {y : MethodName} {wds : List Cond} {fr lo mc ms index maxL nA mc0 ms0 : Nat} {bytes : ByteArray} {ret : Option FieldType} (wr wc : va_W) (As : List Value) {stk : List Value} {postC : va_W → List (ClassId × FieldType) → Prop} {pxC : String → Prop} (hM : CxV l y wds fr lo mc ms D tys As wc postC pxC) (cw : CallB R s args own index y bytes maxL ret wds { frames := fr, cells := mc, slots := ms, locals := lo } mc ms nA ∧ (Cond.static y).before args s = true) (hnA : As.length = nA) (hws : ws = wr ++ wc) (hw0 : wr ++ wc = w0) (hst : stk = As.reverse ++ st) (hcat : (st.map fun v => v.category).sum ≤ 8) (hdg : decode cc pc = .ok (.invokestatic index, 3)) (hkn : k + mc ≤ R.cells ∧ n + ms ≤ R.slots) (h1 : k + mc ≤ mc0) (h2 : n + ms ≤ ms0) (hpx : ∀ E, pxC E → px E)
    (kk : ∀ (w1 : va_W) (t1 : List (ClassId × FieldType)), postC w1 t1 → G p l e R s m args below meth c D (va_A w0 s.heap.size) nL (QXI below post px D tys w0 args s mc0 ms0) (k + mc) (n + ms) (wr ++ w1) lv (pc + 3) (st)) : G p l e R s m args below meth c D (va_A w0 s.heap.size) nL (QXI below post px D tys w0 args s mc0 ms0) k n ws lv pc (stk) := by
  subst hws
  subst hst
  intro H locs ls hP hD hS hl
  refine vx_callv (A1 := va_A wc H.size) (gx_runS C hX hP hD hS hl (hM H.size) cw hnA hcat hdg hkn) hS (fun q _ h => ap_F hD hS C.hA q h) (ap_F hD hS C.hA) (fun q _ h => ap_F hD hS C.hA q h) ?_ ?_
  · intro E ce q9 u t H1 locs1 ht hvm _ hB hz1 hk1 hS1 hce hcv hcl
    obtain ⟨hpE, hP1, hK1, hD1⟩ := hB
    rw [ht] at hP1
    obtain ⟨j1, j2⟩ := ap_join hP hD hk1 (ap_F hD hS C.hA) hP1 hD1
    refine vx_out (fun x hx => absurd (hE x hx) (fun h => h)) C.lk hce hcv hcl (fun t2 ht2 ha2 => ?_) hS1.2.2 h1 h2
    subst hw0
    exact XC_of C.hK j1 j2 hS1 (hpx E hpE) ha2 (by rw [ht2]; exact Nat.le_refl _) (fun q _ => by rw [ht2])
  · intro u t H1 locs1 ht hvm hw hB hz1 hk1 hS1
    exact kk u.1 u.2 hw H1 locs1 ls (ap_join hP hD hk1 (ap_F hD hS C.hA) (ht ▸ hB.1) hB.2.2).1 (ap_join hP hD hk1 (ap_F hD hS C.hA) (ht ▸ hB.1) hB.2.2).2 hS1 hl
theorem gx_propSV (C : CX p s m args meth c cc own Ts D tys (va_A w0 s.heap.size) nL) (hE : ∀ x ∈ c.exceptionTable.toList, False) (hX : XX (va_A w0 s.heap.size) s s.heap) {post : va_W → List (ClassId × FieldType) → Prop} {y : MethodName} {wds : List Cond} {fr lo mc ms index maxL nA mc0 ms0 : Nat} {bytes : ByteArray} {ret : Option FieldType} (wr wc : va_W) (As : List Value) {stk : List Value} {postC : va_W → List (ClassId × FieldType) → Prop} {pxC : String → Prop} (hM : CxV l y wds fr lo mc ms D tys As wc postC pxC) (cw : CallB R s args own index y bytes maxL ret wds { frames := fr, cells := mc, slots := ms, locals := lo } mc ms nA ∧ (Cond.static y).before args s = true) (hnA : As.length = nA) (hws : ws = wr ++ wc) (hw0 : wr ++ wc = w0) (hst : stk = As.reverse ++ st) (hcat : (st.map fun v => v.category).sum ≤ 8) (hdg : decode cc pc = .ok (.invokestatic index, 3)) (hkn : k + mc ≤ R.cells ∧ n + ms ≤ R.slots) (h1 : k + mc ≤ mc0) (h2 : n + ms ≤ ms0) (hpx : ∀ E, pxC E → px E)
    (kk : ∀ (w1 : va_W) (t1 : List (ClassId × FieldType)), postC w1 t1 → G p l e R s m args below meth c D (va_A w0 s.heap.size) nL (QXV below post px D tys w0 args s mc0 ms0) (k + mc) (n + ms) (wr ++ w1) lv (pc + 3) (st)) : G p l e R s m args below meth c D (va_A w0 s.heap.size) nL (QXV below post px D tys w0 args s mc0 ms0) k n ws lv pc (stk) := by
  subst hws
  subst hst
  intro H locs ls hP hD hS hl
  refine vx_callv (A1 := va_A wc H.size) (gx_runS C hX hP hD hS hl (hM H.size) cw hnA hcat hdg hkn) hS (fun q _ h => ap_F hD hS C.hA q h) (ap_F hD hS C.hA) (fun q _ h => ap_F hD hS C.hA q h) ?_ ?_
  · intro E ce q9 u t H1 locs1 ht hvm _ hB hz1 hk1 hS1 hce hcv hcl
    obtain ⟨hpE, hP1, hK1, hD1⟩ := hB
    rw [ht] at hP1
    obtain ⟨j1, j2⟩ := ap_join hP hD hk1 (ap_F hD hS C.hA) hP1 hD1
    refine vx_out (fun x hx => absurd (hE x hx) (fun h => h)) C.lk hce hcv hcl (fun t2 ht2 ha2 => ?_) hS1.2.2 h1 h2
    subst hw0
    exact XC_of C.hK j1 j2 hS1 (hpx E hpE) ha2 (by rw [ht2]; exact Nat.le_refl _) (fun q _ => by rw [ht2])
  · intro u t H1 locs1 ht hvm hw hB hz1 hk1 hS1
    exact kk u.1 u.2 hw H1 locs1 ls (ap_join hP hD hk1 (ap_F hD hS C.hA) (ht ▸ hB.1) hB.2.2).1 (ap_join hP hD hk1 (ap_F hD hS C.hA) (ht ▸ hB.1) hB.2.2).2 hS1 hl
/-- the handler that catches E at pc -/
def CT (s : State) (args : Array Value) (c : Code) (own E : String) (pc tgt : Nat) : Prop := ∃ (pre : List ExceptionTableEntry) (x : ExceptionTableEntry) (suf : List ExceptionTableEntry) (name : String), c.exceptionTable.toList = pre ++ x :: suf ∧ (∀ z ∈ pre, covers z pc = false ∨ (z.catchType ≠ 0 ∧ ∃ nm : String, (Cond.classLink own z.catchType nm).before args s = true ∧ va_Nc E nm s)) ∧ covers x pc = true ∧ x.catchType ≠ 0 ∧ (Cond.classLink own x.catchType name).before args s = true ∧ (Cond.castable E name).before args s = true ∧ x.handlerPc = tgt
theorem gx_catchi (C : CX p s m args meth c cc own Ts D tys A nL) (hX : XX A s s.heap) {y : MethodName} {wds : List Cond} {fr lo mc ms index maxL nA : Nat} {bytes : ByteArray} {ret : Option FieldType} (wr wc : va_W) {b : Nat} (As : List Value) {stk : List Value} {post : Int32 → va_W → Prop} {pxC : String → Prop} (hM : CxI l y wds fr lo mc ms D tys (.ref b :: As) wc post pxC) {Cn : String} {ci N : Nat} {T : u_T} {fs : List Value} (hq : vwCl[ci]? = some (Cn, T, N)) (he : wc[0]? = some (b, .inr (ci, fs))) (cw : CallW R s args own Cn index y bytes maxL ret wds { frames := fr, cells := mc, slots := ms, locals := lo } mc ms nA) (hnA : As.length = nA) (hws : ws = wr ++ wc) (hst : stk = As.reverse ++ .ref b :: st) (hcat : (st.map fun v => v.category).sum ≤ 8) (hdg : decode cc pc = .ok (.invokevirtual index, 3)) (hkn : k + mc ≤ R.cells ∧ n + ms ≤ R.slots)
    (kx : ∀ (E : String), pxC E → ∃ tgt : Nat, CT s args c own E pc tgt ∧ ∀ q9 : Nat, G p l e R s m args below meth c D A nL Q (k + mc) (n + ms) (wr ++ wc) lv tgt ([.ref q9]))
    (kk : ∀ (r : Int32) (w1 : va_W), post r w1 → G p l e R s m args below meth c D A nL Q (k + mc) (n + ms) (wr ++ w1) lv (pc + 3) (.int r :: st)) : G p l e R s m args below meth c D A nL Q k n ws lv pc (stk) := by
  subst hws
  subst hst
  intro H locs ls hP hD hS hl
  refine vx_calli (A1 := va_A wc H.size) (gx_runV C hX hP hD hS hl (hM H.size) hq he cw hnA hcat hdg hkn) hS (fun q _ h => ap_F hD hS C.hA q h) (ap_F hD hS C.hA) (fun q _ h => ap_F hD hS C.hA q h) ?_ ?_
  · intro E ce q9 u t H1 locs1 ht hvm _ hB hz1 hk1 hS1 hce hcv hcl
    obtain ⟨hpE, hP1, hK1, hD1⟩ := hB
    rw [ht] at hP1
    obtain ⟨j1, j2⟩ := ap_join hP hD hk1 (ap_F hD hS C.hA) hP1 hD1
    obtain ⟨tgt, ⟨pre, x, suf, name, g1, g2, g3, g4, g5, g6, rfl⟩, kq⟩ := kx E hpE
    exact vx_catch C.2.2.2.1 pre x suf g1 g2 g3 g4 g5 g6 hce hcv hcl (kq q9 H1 locs1 ls j1 j2 hS1 hl)
  · intro r u t H1 locs1 ht hvm hw hB hz1 hk1 hS1
    exact kk r u.1 hw.1 H1 locs1 ls (ap_join hP hD hk1 (ap_F hD hS C.hA) (ht ▸ hB.1) hB.2.2).1 (ap_join hP hD hk1 (ap_F hD hS C.hA) (ht ▸ hB.1) hB.2.2).2 hS1 hl
theorem gx_catchv (C : CX p s m args meth c cc own Ts D tys A nL) (hX : XX A s s.heap) {y : MethodName} {wds : List Cond} {fr lo mc ms index maxL nA : Nat} {bytes : ByteArray} {ret : Option FieldType} (wr wc : va_W) {b : Nat} (As : List Value) {stk : List Value} {post : va_W → List (ClassId × FieldType) → Prop} {pxC : String → Prop} (hM : CxV l y wds fr lo mc ms D tys (.ref b :: As) wc post pxC) {Cn : String} {ci N : Nat} {T : u_T} {fs : List Value} (hq : vwCl[ci]? = some (Cn, T, N)) (he : wc[0]? = some (b, .inr (ci, fs))) (cw : CallW R s args own Cn index y bytes maxL ret wds { frames := fr, cells := mc, slots := ms, locals := lo } mc ms nA) (hnA : As.length = nA) (hws : ws = wr ++ wc) (hst : stk = As.reverse ++ .ref b :: st) (hcat : (st.map fun v => v.category).sum ≤ 8) (hdg : decode cc pc = .ok (.invokevirtual index, 3)) (hkn : k + mc ≤ R.cells ∧ n + ms ≤ R.slots)
    (kx : ∀ (E : String), pxC E → ∃ tgt : Nat, CT s args c own E pc tgt ∧ ∀ q9 : Nat, G p l e R s m args below meth c D A nL Q (k + mc) (n + ms) (wr ++ wc) lv tgt ([.ref q9]))
    (kk : ∀ (w1 : va_W) (t1 : List (ClassId × FieldType)), post w1 t1 → G p l e R s m args below meth c D A nL Q (k + mc) (n + ms) (wr ++ w1) lv (pc + 3) (st)) : G p l e R s m args below meth c D A nL Q k n ws lv pc (stk) := by
  subst hws
  subst hst
  intro H locs ls hP hD hS hl
  refine vx_callv (A1 := va_A wc H.size) (gx_runV C hX hP hD hS hl (hM H.size) hq he cw hnA hcat hdg hkn) hS (fun q _ h => ap_F hD hS C.hA q h) (ap_F hD hS C.hA) (fun q _ h => ap_F hD hS C.hA q h) ?_ ?_
  · intro E ce q9 u t H1 locs1 ht hvm _ hB hz1 hk1 hS1 hce hcv hcl
    obtain ⟨hpE, hP1, hK1, hD1⟩ := hB
    rw [ht] at hP1
    obtain ⟨j1, j2⟩ := ap_join hP hD hk1 (ap_F hD hS C.hA) hP1 hD1
    obtain ⟨tgt, ⟨pre, x, suf, name, g1, g2, g3, g4, g5, g6, rfl⟩, kq⟩ := kx E hpE
    exact vx_catch C.2.2.2.1 pre x suf g1 g2 g3 g4 g5 g6 hce hcv hcl (kq q9 H1 locs1 ls j1 j2 hS1 hl)
  · intro u t H1 locs1 ht hvm hw hB hz1 hk1 hS1
    exact kk u.1 u.2 hw H1 locs1 ls (ap_join hP hD hk1 (ap_F hD hS C.hA) (ht ▸ hB.1) hB.2.2).1 (ap_join hP hD hk1 (ap_F hD hS C.hA) (ht ▸ hB.1) hB.2.2).2 hS1 hl
theorem gx_callH (C : CX p s m args meth c cc own Ts D tys A nL) (hX : XX A s s.heap) {y : MethodName} {wds : List Cond} {fr lo mc ms index maxL nA : Nat} {bytes : ByteArray} {ret : Option FieldType} {hh : List (Nat × Nat × Nat × Nat)} (wr wc : va_W) (As : List Value) {stk : List Value} {post : Int32 → va_W → Prop} (hM : CxI l y wds fr lo mc ms D tys As wc post (fun _ => False)) (cw : vx_CSW R s args own index y bytes maxL ret hh wds { frames := fr, cells := mc, slots := ms, locals := lo } mc ms nA) (hnA : As.length = nA) (hws : ws = wr ++ wc) (hst : stk = As.reverse ++ st) (hcat : (st.map fun v => v.category).sum ≤ 8) (hdg : decode cc pc = .ok (.invokestatic index, 3)) (hkn : k + mc ≤ R.cells ∧ n + ms ≤ R.slots)
    (kk : ∀ (r : Int32) (w1 : va_W), post r w1 → G p l e R s m args below meth c D A nL Q (k + mc) (n + ms) (wr ++ w1) lv (pc + 3) (.int r :: st)) : G p l e R s m args below meth c D A nL Q k n ws lv pc (stk) := by
  subst hws
  subst hst
  intro H locs ls hP hD hS hl
  refine vx_calli (A1 := va_A wc H.size) (vx_runSX (As := As) (rest := st) C.fix (hM H.size) cw ⟨Bx_blind, fun U hU hW => ⟨rfl, ⟨by rw [hU], by rw [hU]; exact ap_P hP, va_K.moved hW.alike C.hK, (ap_D hD).weaken (fun _ _ _ _ => trivial)⟩, hX.into hS (ap_F hD hS C.hA) hW hU⟩⟩ rfl hnA hl.1 rfl (lv_room hcat) hdg hkn) hS (fun q _ h => ap_F hD hS C.hA q h) (ap_F hD hS C.hA) (fun q _ h => ap_F hD hS C.hA q h) ?_ ?_
  · intro E ce q9 u t H1 locs1 ht hvm _ hB
    exact absurd hB.1 (fun h => h)
  · intro r u t H1 locs1 ht hvm hw hB hz1 hk1 hS1
    exact kk r u.1 hw.1 H1 locs1 ls (ap_join hP hD hk1 (ap_F hD hS C.hA) (ht ▸ hB.1) hB.2.2).1 (ap_join hP hD hk1 (ap_F hD hS C.hA) (ht ▸ hB.1) hB.2.2).2 hS1 hl
end GX
theorem at2_xIA : ∀ w ∈ (vx_atS RX2 148 xIA ["java/lang/RuntimeException", "java/lang/Exception"]).filter (fun w => !goodWord w), w ∈ xB xIA := by decide +kernel
theorem at2_xIS : ∀ w ∈ (vx_atS RX2 59 xIS ["java/lang/RuntimeException", "java/lang/Exception"]).filter (fun w => !goodWord w), w ∈ xB xIS := by decide +kernel
theorem at2_xIB : ∀ w ∈ (vx_atS RX2 153 xIB ["java/lang/RuntimeException", "java/lang/Exception"]).filter (fun w => !goodWord w), w ∈ xB xIB := by decide +kernel
