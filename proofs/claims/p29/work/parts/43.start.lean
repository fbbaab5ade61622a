/-! the law's start and its end -/
/-! THE CLAIM OUT OF ONE WALK OF THE LAW'S BODY. Your part is whole_start (and what it stands on); all else here is the same for every law, but numbers. -/
def R_law : String := "CellPlannerLaw"
def lw_P (b : Addr) (xs : List Int32) (args : Array Value) (s : State) : Prop := args = #[.ref b] ∧ s.IntsAt b xs ∧ xs.length ≤ 260 ∧ (Jvm.Cond.and given_1 narrow_1).before args s = true
def lw_Q (_ : Array Value) (s : State) (o : Outcome) (t : State) : Prop := o = .returned (some (.int 1)) ∧ Framed s o t [] 801909 6695897
def lw_Z (below : List Frame) (a : Array Value) (s : State) : State → Prop := fun t => ∃ o, t.status = .running ∧ Ended t below o ∧ lw_Q a s o t
/-- the law's own end, with 1 on the stack, nothing written that was there before, its room as the claim has it -/
theorem lw_ret {p : Program} {l : Launch} {e : Env} {s : State} {m : MethodId} {below : List Frame} {meth : Method} {c : Code} {b : Nat} (hx : p.tables.exec = Jvm.exec) (hb : c.code = code) (hr : meth.sig.returnType = ret) (hlocks : meth.locks = false) {pc : Nat} {H : Heap} {ls : Array Slot} (hdg : decode code pc = .ok (.ireturn, 1)) : W p l e room_1 s m #[Value.ref b] below meth c H [] 801909 6695897 (lw_Z below #[Value.ref b] s) (F0 m pc ls [.int 1]) := by
  intro T hT X
  obtain ⟨fs, hret, hrun, hended, hW, hframe⟩ := X.leave (v := some (.int 1)) (hlocks := hlocks) (fun h => by rw [hr] at h; cases h)
  have hmeth' : T.vm.method? m = some meth := X.method'
  refine ⟨T.setFrames fs, ?_, .returned (some (.int 1)), hrun, hended, rfl, ⟨_, rfl⟩, hW, hframe⟩
  jvm_step X.here [X.here.top, hx, hb, hdg, hmeth', hr, ret, narrow_b1]
  (try refine ⟨rfl, ?_⟩); (try refine ⟨rfl, ?_⟩)
  first | (intro acts; rw [hret _ acts rfl rfl rfl]) | rw [hret _ _ rfl rfl rfl]
  exact Steps.refl _
/-- what holds at the law's entry: the machine, the code, the tables' words (any of lw_tbl by 'hts w (by decide +kernel)'), the script of L ints xs at the cell b, what the Statement gives of the start (any of its parts by flat_of_before) -/
def lw_At (p : Program) (s : State) (m : MethodId) (meth : Method) (c : Code) (b L : Nat) (xs : Nat → Int32) : Prop :=
  p.tables.exec = Jvm.exec ∧ c.code = code ∧ meth.sig.returnType = ret ∧ c.maxLocals = 10 ∧ s.vm.findClass R_law = some m.cls ∧ (∀ w ∈ lw_tbl, w.before #[Value.ref b] s = true) ∧ va_X b L xs s s.heap ∧ b < s.heap.size ∧ meth.locks = false ∧ (Jvm.Cond.and given_1 narrow_1).before #[Value.ref b] s = true
section ST9
variable {s : State} {b : Nat}
theorem arr_of {cA : ClassId} {kA : Class} {comp : ClassId} {ty : FieldType} (h2 : s.vm.classes[cA]? = some kA) (h3 : kA.kind = .array comp ty) : ArrOfT s cA ty := fun N z => ⟨(fun k h => by cases h), kA, h2, comp, h3⟩
set_option maxRecDepth 100000 in
set_option maxHeartbeats 4000000 in
theorem st_EV (hts : ∀ w ∈ lw_tbl, w.before #[Value.ref b] s = true) (hgv : (Jvm.Cond.and given_1 narrow_1).before #[Value.ref b] s = true) : EV s := by
  have hs := flat_of_before _ hgv
  have s146 : ∃ sa, vk_R "CellPlanner" 146 "an argument is out of its range" sa s := by
    have hx : (Cond.exactly (.string "CellPlanner" 146) "java/lang/String").before #[Value.ref b] s = true := hs _ (by decide +kernel)
    obtain ⟨a, -, -, -, ha, -⟩ := Cond.exactly_spec hx
    exact ⟨a, vk_R.of (hts (.stringRef "CellPlanner" 146 "an argument is out of its range") (List.mem_of_getElem? (i := 234) (by decide +kernel))) ha⟩
  have s57 : ∃ sa, vk_R "CellPlanner" 57 "there are 5 cells" sa s := by
    have hx : (Cond.exactly (.string "CellPlanner" 57) "java/lang/String").before #[Value.ref b] s = true := hs _ (by decide +kernel)
    obtain ⟨a, -, -, -, ha, -⟩ := Cond.exactly_spec hx
    exact ⟨a, vk_R.of (hts (.stringRef "CellPlanner" 57 "there are 5 cells") (List.mem_of_getElem? (i := 270) (by decide +kernel))) ha⟩
  have s151 : ∃ sa, vk_R "CellPlanner" 151 "there is no such cell" sa s := by
    have hx : (Cond.exactly (.string "CellPlanner" 151) "java/lang/String").before #[Value.ref b] s = true := hs _ (by decide +kernel)
    obtain ⟨a, -, -, -, ha, -⟩ := Cond.exactly_spec hx
    exact ⟨a, vk_R.of (hts (.stringRef "CellPlanner" 151 "there is no such cell") (List.mem_of_getElem? (i := 318) (by decide +kernel))) ha⟩
  have s83 : ∃ sa, vk_R "CellPlanner" 83 "there are 6 walkers" sa s := by
    have hx : (Cond.exactly (.string "CellPlanner" 83) "java/lang/String").before #[Value.ref b] s = true := hs _ (by decide +kernel)
    obtain ⟨a, -, -, -, ha, -⟩ := Cond.exactly_spec hx
    exact ⟨a, vk_R.of (hts (.stringRef "CellPlanner" 83 "there are 6 walkers") (List.mem_of_getElem? (i := 288) (by decide +kernel))) ha⟩
  have s154 : ∃ sa, vk_R "CellPlanner" 154 "there is no such walker" sa s := by
    have hx : (Cond.exactly (.string "CellPlanner" 154) "java/lang/String").before #[Value.ref b] s = true := hs _ (by decide +kernel)
    obtain ⟨a, -, -, -, ha, -⟩ := Cond.exactly_spec hx
    exact ⟨a, vk_R.of (hts (.stringRef "CellPlanner" 154 "there is no such walker") (List.mem_of_getElem? (i := 419) (by decide +kernel))) ha⟩
  refine ⟨⟨va_Nw.of rfl (hts (.castable "java/lang/IllegalArgumentException" "java/lang/IllegalArgumentException") (List.mem_of_getElem? (i := 195) (by decide +kernel))), va_Nw.of rfl (hts (.castable "java/lang/IllegalStateException" "java/lang/IllegalStateException") (List.mem_of_getElem? (i := 263) (by decide +kernel))), va_Nw.of rfl (hts (.castable "java/lang/IndexOutOfBoundsException" "java/lang/IndexOutOfBoundsException") (List.mem_of_getElem? (i := 311) (by decide +kernel)))⟩, ⟨va_Nw.of rfl (hts (.declares (Bundle.initS "java/lang/Throwable")) (List.mem_of_getElem? (i := 201) (by decide +kernel))), va_Nw.of rfl (hts (.declares (Bundle.initS "java/lang/Exception")) (List.mem_of_getElem? (i := 199) (by decide +kernel))), va_Nw.of rfl (hts (.declares (Bundle.initS "java/lang/RuntimeException")) (List.mem_of_getElem? (i := 197) (by decide +kernel)))⟩, ⟨va_Nc.of (hs (.not (.castable "java/lang/IllegalStateException" "java/lang/IllegalArgumentException")) (by decide +kernel)), va_Nc.of (hs (.not (.castable "java/lang/IllegalArgumentException" "java/lang/IndexOutOfBoundsException")) (by decide +kernel))⟩, s146, s57, s151, s83, s154⟩
set_option maxRecDepth 100000 in
set_option maxHeartbeats 4000000 in
theorem st_XX (hts : ∀ w ∈ lw_tbl, w.before #[Value.ref b] s = true) (hgv : (Jvm.Cond.and given_1 narrow_1).before #[Value.ref b] s = true) : XX (fun q => s.heap.size ≤ q) s s.heap := by
  have hs := flat_of_before _ hgv
  exact ⟨st_EV hts hgv, vx_Zqof (hts (.laysStatic Bundle.tN "UNASSIGNED_STACK" Bundle.steD) (List.mem_of_getElem? (i := 220) (by decide +kernel))) (hts (.initialized "java/lang/Throwable") (List.mem_of_getElem? (i := 18) (by decide +kernel))) (hs _ (by decide +kernel)) (fun a h q => absurd h (Nat.not_lt.mpr q)), vx_Zqof (hts (.laysStatic Bundle.tN "SUPPRESSED_SENTINEL" Bundle.listD) (List.mem_of_getElem? (i := 222) (by decide +kernel))) (hts (.initialized "java/lang/Throwable") (List.mem_of_getElem? (i := 18) (by decide +kernel))) (hs _ (by decide +kernel)) (fun a h q => absurd h (Nat.not_lt.mpr q))⟩
set_option maxRecDepth 100000 in
set_option maxHeartbeats 4000000 in
theorem st_K (hts : ∀ w ∈ lw_tbl, w.before #[Value.ref b] s = true) : ∃ (D : va_G) (cI cZ cJ : ClassId), va_K D vwCl [(cI, .int), (cZ, .boolean), (cJ, .int)] s ∧ NK cI cZ s := by
  obtain ⟨c0, i0, k0⟩ := u_known hts inX0 (hts (.instantiable RX0 13) (List.mem_of_getElem? (i := 35) (by decide +kernel)))
  obtain ⟨c1, i1, k1⟩ := u_known hts inX1 (hts (.instantiable RX1 7) (List.mem_of_getElem? (i := 99) (by decide +kernel)))
  obtain ⟨c2, i2, k2⟩ := u_known hts inX2 (hts (.instantiable RX2 13) (List.mem_of_getElem? (i := 27) (by decide +kernel)))
  obtain ⟨cI, kI, pI, fI, gI, hI⟩ := Cond.arrayClass_spec (hts (.arrayClass .int) (List.mem_of_getElem? (i := 96) (by decide +kernel)))
  obtain ⟨cZ, kZ, pZ, fZ, gZ, hZ⟩ := Cond.arrayClass_spec (hts (.arrayClass .boolean) (List.mem_of_getElem? (i := 97) (by decide +kernel)))
  refine ⟨(fun n => [c0, c1, c2].getD n c0, fun n => [i0, i1, i2].getD n i0), cI, cZ, cI, ⟨fun c q hq => ?_, fun k q hq => ?_⟩, ⟨fI, fZ, fI, over_moved (a := #[Value.ref b]) (a' := #[]) (Vm.Alike.refl _) (hts (.arrayOver (.array .int)) (List.mem_of_getElem? (i := 41) (by decide +kernel))), va_Nw.of rfl (hts (.methodLinkNest RX2 9 yX0_init "CellPlanner") (List.mem_of_getElem? (i := 36) (by decide +kernel)))⟩⟩
  · match c, hq with
    | 0, hq => cases hq; exact k0
    | 1, hq => cases hq; exact k1
    | 2, hq => cases hq; exact k2
    | n + 3, hq => cases hq
  · match k, hq with
    | 0, hq => cases hq; exact ⟨arr_of gI hI, fI⟩
    | 1, hq => cases hq; exact ⟨arr_of gZ hZ, fZ⟩
    | 2, hq => cases hq; exact ⟨arr_of gI hI, fI⟩
    | n + 3, hq => cases hq
end ST9
theorem st_fl (l : Launch) (hflags : l.flags = flags0) : l.stackTraces = false := by
  unfold Launch.stackTraces
  rw [hflags]
  decide +kernel
section LOOP
variable {p : Program} {l : Launch} {e : Env} {s : State} {m : MethodId} {below : List Frame} {meth : Method} {c : Code} {D : va_G}
variable {cI cZ cJ cG cW : ClassId} {u a b d r r2 : Nat → Nat} {bb L : Nat} {xs : Nat → Int32}
/-- at its end: true -/
theorem law_end (C : CX p s m #[Value.ref bb] meth c cL_law RL wsL_law D (T5 cI cZ cJ cG cW) (fun q => s.heap.size ≤ q) 10) (hret : meth.sig.returnType = ret) {k n : Nat} (hk : k ≤ 801909) (hn : n ≤ 6695897) {ws : va_W} {lv : List (Option Value)} : G p l e room_1 s m #[Value.ref bb] below meth c D (fun q => s.heap.size ≤ q) 10 (lw_Z below #[Value.ref bb] s) k n ws lv 154 [] := by
  refine g_iconst C 1 dL_law_154 (by decide +kernel) ?_
  intro H locs ls hP hD hS hl
  exact va_forget (fun q hq => hS.2.2 q hq) (W.widen hk hn (lw_ret C.1 C.2.1 hret C.lk dL_law_155))
set_option maxHeartbeats 4000000 in
set_option maxRecDepth 100000 in
theorem law_loop (C : CX p s m #[Value.ref bb] meth c cL_law RL wsL_law D (T5 cI cZ cJ cG cW) (fun q => s.heap.size ≤ q) 10) (hret : meth.sig.returnType = ret) (hl0 : l.stackTraces = false) (hX : XX (fun q => s.heap.size ≤ q) s s.heap) (hS : SCR (fun q => s.heap.size ≤ q) s bb L xs) {k n : Nat} (hk : k ≤ 100) (hn : n ≤ 400) {wv : va_W} (hW : ST cI cZ cG cW u a b d r r2 wv) : G p l e room_1 s m #[Value.ref bb] below meth c D (fun q => s.heap.size ≤ q) 10 (lw_Z below #[Value.ref bb] s) k n wv [some (.ref bb), some (.ref (d 0)), some (.ref (u 0)), some (.ref (u 1)), some (.ref (u 2)), some (.int (nI 0)), none, none, none, none] 44 [] := by
  refine g_loopk2 0 wv (fun (i : Nat) (wv : va_W) => i ≤ 90 ∧ ST cI cZ cG cW u a b d r r2 wv) (fun (i : Nat) (wv : va_W) => wv) (fun (i : Nat) (wv : va_W) => [some (.ref bb), some (.ref (d 0)), some (.ref (u 0)), some (.ref (u 1)), some (.ref (u 2)), some (.int (nI i)), none, none, none, none]) (fun (i : Nat) (wv : va_W) => 100 + i * 400) (fun (i : Nat) (wv : va_W) => 400 + i * 2000) (fun (i : Nat) (wv : va_W) => 90 - i) ⟨Nat.zero_le _, hW⟩ rfl rfl (by omega) (by omega) (fun i wv hI ih => ?_)
  obtain ⟨h1, h2⟩ := hI
  refine g_iload C dL_law_44 rfl ?_
  refine g_bipush C 90 dL_law_46 (by decide +kernel) ?_
  refine g_icmp_ge C 154 dL_law_48 (by decide) (fun c9 => law_end C hret (by omega) (by omega)) (fun c9 => ?_)
  have hi : i < 90 := by
    rcases Nat.lt_or_ge i 90 with q | q
    · exact q
    · exact absurd ((nI_leI (a := 90) (b := i) (by decide) (by omega)).mpr q) c9
  refine law_turn C hl0 hX hS hi (by omega) (by omega) (fun wv2 hW2 => ?_) wv h2
  refine g_iinc C (nI (i + 1)) [some (.ref bb), some (.ref (d 0)), some (.ref (u 0)), some (.ref (u 1)), some (.ref (u 2)), some (.int (nI (i + 1))), none, none, none, none] dL_law_148 rfl (nI_1 i) (by decide) rfl rfl ?_
  refine g_goto C 44 dL_law_151 (by decide) ?_
  refine g_widen (k' := 100 + (i + 1) * 400) (n' := 400 + (i + 1) * 2000) (by omega) (by omega) ?_
  exact ih (i + 1) wv2 ⟨by omega, hW2⟩ (by omega)
end LOOP
theorem JI_0 : JI 0 0 (fun _ => 0) (fun _ => 0) (fun _ => 0) (fun _ => 0) (fun _ => 0) (fun _ => 0) (fun _ => 0) (fun _ => 0) (fun _ => 0) (fun _ => 0) :=
  ⟨⟨by decide, by decide, fun c h => absurd h (Nat.not_lt_zero _), fun w h => absurd h (Nat.not_lt_zero _), fun j h => absurd h (Nat.not_lt_zero _)⟩, by decide, by decide, fun _ => Or.inl rfl, fun _ _ => rfl, fun j c h => absurd h (Nat.not_lt_zero _)⟩
