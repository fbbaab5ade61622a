def R_law : String := "CellPlannerLaw"
def lw_P (b : Addr) (xs : List Int32) (args : Array Value) (s : State) : Prop := args = #[.ref b] ∧ s.IntsAt b xs ∧ xs.length ≤ 2560 ∧ (Jvm.Cond.and given_1 narrow_1).before args s = true
def lw_Q (_ : Array Value) (s : State) (o : Outcome) (t : State) : Prop := o = .returned (some (.int 1)) ∧ Framed s o t [] 669564 7087412
def lw_Z (below : List Frame) (a : Array Value) (s : State) : State → Prop := fun t => ∃ o, t.status = .running ∧ Ended t below o ∧ lw_Q a s o t
/-- the law's own end, with 1 on the stack, nothing written that was there before, its room as the claim has it -/
theorem lw_ret {p : Program} {l : Launch} {e : Env} {s : State} {m : MethodId} {below : List Frame} {meth : Method} {c : Code} {b : Nat} (hx : p.tables.exec = Jvm.exec) (hb : c.code = code) (hr : meth.sig.returnType = ret) (hlocks : meth.locks = false) {pc : Nat} {H : Heap} {ls : Array Slot} (hdg : decode code pc = .ok (.ireturn, 1)) : W p l e room_1 s m #[Value.ref b] below meth c H [] 669564 7087412 (lw_Z below #[Value.ref b] s) (F0 m pc ls [.int 1]) := by
  intro T hT X
  obtain ⟨fs, hret, hrun, hended, hW, hframe⟩ := X.leave (v := some (.int 1)) (hlocks := hlocks) (fun h => by rw [hr] at h; cases h)
  have hmeth' : T.vm.method? m = some meth := X.method'
  refine ⟨T.setFrames fs, ?_, .returned (some (.int 1)), hrun, hended, rfl, ⟨_, rfl⟩, hW, hframe⟩
  jvm_step X.here [X.here.top, hx, hb, hdg, hmeth', hr, ret, narrow_b1]
  (try refine ⟨rfl, ?_⟩); (try refine ⟨rfl, ?_⟩)
  first | (intro acts; rw [hret _ acts rfl rfl rfl]) | rw [hret _ _ rfl rfl rfl]
  exact Steps.refl _
/-- what holds at the law's entry: the machine, the code, the tables' words (any of lw_tbl by 'hts w (by decide +kernel)'), the script of L ints xs at the cell b, what the Statement gives of the start (any of its parts by flat_of_before) -/
def lw_At (p : Program) (s : State) (m : MethodId) (meth : Method) (c : Code) (b L : Nat) (xs : Nat → Int32) : Prop :=
  p.tables.exec = Jvm.exec ∧ c.code = code ∧ meth.sig.returnType = ret ∧ c.maxLocals = 7 ∧ s.vm.findClass R_law = some m.cls ∧ (∀ w ∈ lw_tbl, w.before #[Value.ref b] s = true) ∧ va_X b L xs s s.heap ∧ b < s.heap.size ∧ meth.locks = false ∧ (Jvm.Cond.and given_1 narrow_1).before #[Value.ref b] s = true
/-! the law's loop, and its end -/
theorem and31 (x : Int32) : ∃ j, j < 32 ∧ x &&& 31 = nI j := by
  refine ⟨(x &&& 31).toBitVec.toNat, ?_, ?_⟩
  · have h : (x &&& 31).toBitVec.toNat = x.toBitVec.toNat &&& 31 := by
      rw [Int32.toBitVec_and, BitVec.toNat_and]
      rfl
    rw [h]
    exact Nat.lt_of_le_of_lt Nat.and_le_right (by decide)
  · apply Int32.toBitVec_inj.mp
    show _ = BitVec.ofNat 32 (x &&& 31).toBitVec.toNat
    rw [BitVec.ofNat_toNat, BitVec.setWidth_eq]
theorem lt5 {i L : Nat} (h : L < i + 5) (hi : i < 100000) (hL : L < 100000) : nI L - 5 < nI i := by
  rw [Int32.lt_iff_toInt_lt, Int32.toInt_sub, nI_toInt (by omega), nI_toInt (by omega), show (5 : Int32).toInt = 5 from rfl, bm_id (by omega) (by omega)]
  omega
section LOOP
variable {p : Program} {l : Launch} {e : Env} {s : State} {m : MethodId} {below : List Frame} {meth : Method} {c : Code} {D : va_G}
variable {cI : ClassId} {cZ : ClassId} {cJ : ClassId} {cG : ClassId} {cW : ClassId} {a : Nat → Nat} {b : Nat → Nat} {d : Nat → Nat} {q : Nat → Nat} {r : Nat → Nat} {r2 : Nat → Nat} {o : Nat} {bb L : Nat} {xs : Nat → Int32}
/-- at its end: true -/
theorem law_end (C : CX p s m #[Value.ref bb] meth c cL_law RL wsL_law D (T5 cI cZ cJ cG cW) (fun q => s.heap.size ≤ q) 7) (hret : meth.sig.returnType = ret) {k n : Nat} (hk : k ≤ 669564) (hn : n ≤ 7087412) {ws : va_W} {lv : List (Option Value)} : G p l e room_1 s m #[Value.ref bb] below meth c D (fun q => s.heap.size ≤ q) 7 (lw_Z below #[Value.ref bb] s) k n ws lv 1338 [] := by
  refine g_iconst C 1 dL_law_1338 (by decide +kernel) ?_
  intro H locs ls hP hD hS hl
  exact va_forget (fun q hq => hS.2.2 q hq) (W.widen hk hn (lw_ret C.1 C.2.1 hret C.lk dL_law_1339))
set_option maxHeartbeats 4000000 in
set_option maxRecDepth 100000 in
/-- a turn of the law's loop -/
theorem law_turn1 {A : Nat → Prop} {Q : State → Prop} (C : CX p s m #[Value.ref bb] meth c cL_law RL wsL_law D (T5 cI cZ cJ cG cW) A 7) (hl0 : l.stackTraces = false) (hX : XX A s s.heap) (hS : SCR A s bb L xs) {i k n : Nat} (hiL : i + 4 < L) (hkn : k + 10 ≤ 669564 ∧ n + 60 ≤ 7087412)
    (K : LK p l e s m #[Value.ref bb] below meth c D A Q cI cZ cJ cG cW a b d q r r2 o (k + 10) (n + 60) [some (.ref bb), some (.ref (d 0)), some (.ref (q 0)), some (.ref o), some (.int (nI i)), none, none] 1332) : LK p l e s m #[Value.ref bb] below meth c D A Q cI cZ cJ cG cW a b d q r r2 o k n [some (.ref bb), some (.ref (d 0)), some (.ref (q 0)), some (.ref o), some (.int (nI i)), none, none] 32 := by
  intro nc nw cx cy ch rm on wx wy dm sv fv hd lf la mg pt bd tk ho ri lo hp rl cn be bw wo mu qq ot us gv bs ld qs mS mD th hI
  refine g_aload_n C dL_law_32 rfl ?_
  refine g_iload C dL_law_33 rfl ?_
  refine g_sld C hS i rfl (by omega) dL_law_35 ?_
  refine g_bipush C 31 dL_law_36 (by decide +kernel) ?_
  obtain ⟨j, hj, hj31⟩ := and31 (xs i)
  refine g_iand C (nI j) dL_law_38 hj31 ?_
  by_cases h26 : j < 26
  · rcases (show j = 0 ∨ j = 1 ∨ j = 2 ∨ j = 3 ∨ j = 4 ∨ j = 5 ∨ j = 6 ∨ j = 7 ∨ j = 8 ∨ j = 9 ∨ j = 10 ∨ j = 11 ∨ j = 12 ∨ j = 13 ∨ j = 14 ∨ j = 15 ∨ j = 16 ∨ j = 17 ∨ j = 18 ∨ j = 19 ∨ j = 20 ∨ j = 21 ∨ j = 22 ∨ j = 23 ∨ j = 24 ∨ j = 25 by omega) with rfl | rfl | rfl | rfl | rfl | rfl | rfl | rfl | rfl | rfl | rfl | rfl | rfl | rfl | rfl | rfl | rfl | rfl | rfl | rfl | rfl | rfl | rfl | rfl | rfl | rfl
    · exact g_tabI C 156 dL_law_39 (by decide) (by decide) rfl (by decide) ((law_cell C hl0 hX hS hiL hkn K) _ _ _ _ _ _ _ _ _ _ _ _ _ _ _ _ _ _ _ _ _ _ _ _ _ _ _ _ _ _ _ _ _ _ _ _ _ _ _ hI)
    · exact g_tabI C 248 dL_law_39 (by decide) (by decide) rfl (by decide) ((law_turn C hl0 hX hS hiL hkn K) _ _ _ _ _ _ _ _ _ _ _ _ _ _ _ _ _ _ _ _ _ _ _ _ _ _ _ _ _ _ _ _ _ _ _ _ _ _ _ hI)
    · exact g_tabI C 311 dL_law_39 (by decide) (by decide) rfl (by decide) ((law_tune C hl0 hX hS hiL hkn K) _ _ _ _ _ _ _ _ _ _ _ _ _ _ _ _ _ _ _ _ _ _ _ _ _ _ _ _ _ _ _ _ _ _ _ _ _ _ _ hI)
    · exact g_tabI C 379 dL_law_39 (by decide) (by decide) rfl (by decide) ((law_walker C hl0 hX hS hiL hkn K) _ _ _ _ _ _ _ _ _ _ _ _ _ _ _ _ _ _ _ _ _ _ _ _ _ _ _ _ _ _ _ _ _ _ _ _ _ _ _ hI)
    · exact g_tabI C 459 dL_law_39 (by decide) (by decide) rfl (by decide) ((law_move C hl0 hX hS hiL hkn K) _ _ _ _ _ _ _ _ _ _ _ _ _ _ _ _ _ _ _ _ _ _ _ _ _ _ _ _ _ _ _ _ _ _ _ _ _ _ _ hI)
    · exact g_tabI C 519 dL_law_39 (by decide) (by decide) rfl (by decide) ((law_margin C hl0 hX hS hiL hkn K) _ _ _ _ _ _ _ _ _ _ _ _ _ _ _ _ _ _ _ _ _ _ _ _ _ _ _ _ _ _ _ _ _ _ _ _ _ _ _ hI)
    · exact g_tabI C 575 dL_law_39 (by decide) (by decide) rfl (by decide) ((law_patience C hl0 hX hS hiL hkn K) _ _ _ _ _ _ _ _ _ _ _ _ _ _ _ _ _ _ _ _ _ _ _ _ _ _ _ _ _ _ _ _ _ _ _ _ _ _ _ hI)
    · exact g_tabI C 631 dL_law_39 (by decide) (by decide) rfl (by decide) ((law_bound C hl0 hX hS hiL hkn K) _ _ _ _ _ _ _ _ _ _ _ _ _ _ _ _ _ _ _ _ _ _ _ _ _ _ _ _ _ _ _ _ _ _ _ _ _ _ _ hI)
    · exact g_tabI C 687 dL_law_39 (by decide) (by decide) rfl (by decide) ((law_tick C hl0 hX hS hiL hkn K) _ _ _ _ _ _ _ _ _ _ _ _ _ _ _ _ _ _ _ _ _ _ _ _ _ _ _ _ _ _ _ _ _ _ _ _ _ _ _ hI)
    · exact g_tabI C 743 dL_law_39 (by decide) (by decide) rfl (by decide) ((law_ticks C hl0 hX hS hiL hkn K) _ _ _ _ _ _ _ _ _ _ _ _ _ _ _ _ _ _ _ _ _ _ _ _ _ _ _ _ _ _ _ _ _ _ _ _ _ _ _ hI)
    · exact g_tabI C 756 dL_law_39 (by decide) (by decide) rfl (by decide) ((law_cells C hl0 hX hS hiL hkn K) _ _ _ _ _ _ _ _ _ _ _ _ _ _ _ _ _ _ _ _ _ _ _ _ _ _ _ _ _ _ _ _ _ _ _ _ _ _ _ hI)
    · exact g_tabI C 769 dL_law_39 (by decide) (by decide) rfl (by decide) ((law_walkers C hl0 hX hS hiL hkn K) _ _ _ _ _ _ _ _ _ _ _ _ _ _ _ _ _ _ _ _ _ _ _ _ _ _ _ _ _ _ _ _ _ _ _ _ _ _ _ hI)
    · exact g_tabI C 782 dL_law_39 (by decide) (by decide) rfl (by decide) ((law_signal C hl0 hX hS hiL hkn K) _ _ _ _ _ _ _ _ _ _ _ _ _ _ _ _ _ _ _ _ _ _ _ _ _ _ _ _ _ _ _ _ _ _ _ _ _ _ _ hI)
    · exact g_tabI C 850 dL_law_39 (by decide) (by decide) rfl (by decide) ((law_quality C hl0 hX hS hiL hkn K) _ _ _ _ _ _ _ _ _ _ _ _ _ _ _ _ _ _ _ _ _ _ _ _ _ _ _ _ _ _ _ _ _ _ _ _ _ _ _ hI)
    · exact g_tabI C 918 dL_law_39 (by decide) (by decide) rfl (by decide) ((law_load C hl0 hX hS hiL hkn K) _ _ _ _ _ _ _ _ _ _ _ _ _ _ _ _ _ _ _ _ _ _ _ _ _ _ _ _ _ _ _ _ _ _ _ _ _ _ _ hI)
    · exact g_tabI C 974 dL_law_39 (by decide) (by decide) rfl (by decide) ((law_use C hl0 hX hS hiL hkn K) _ _ _ _ _ _ _ _ _ _ _ _ _ _ _ _ _ _ _ _ _ _ _ _ _ _ _ _ _ _ _ _ _ _ _ _ _ _ _ hI)
    · exact g_tabI C 1030 dL_law_39 (by decide) (by decide) rfl (by decide) ((law_servedBy C hl0 hX hS hiL hkn K) _ _ _ _ _ _ _ _ _ _ _ _ _ _ _ _ _ _ _ _ _ _ _ _ _ _ _ _ _ _ _ _ _ _ _ _ _ _ _ hI)
    · exact g_tabI C 1086 dL_law_39 (by decide) (by decide) rfl (by decide) ((law_favourite C hl0 hX hS hiL hkn K) _ _ _ _ _ _ _ _ _ _ _ _ _ _ _ _ _ _ _ _ _ _ _ _ _ _ _ _ _ _ _ _ _ _ _ _ _ _ _ hI)
    · exact g_tabI C 1142 dL_law_39 (by decide) (by decide) rfl (by decide) ((law_heldFor C hl0 hX hS hiL hkn K) _ _ _ _ _ _ _ _ _ _ _ _ _ _ _ _ _ _ _ _ _ _ _ _ _ _ _ _ _ _ _ _ _ _ _ _ _ _ _ hI)
    · exact g_tabI C 1198 dL_law_39 (by decide) (by decide) rfl (by decide) ((law_handovers C hl0 hX hS hiL hkn K) _ _ _ _ _ _ _ _ _ _ _ _ _ _ _ _ _ _ _ _ _ _ _ _ _ _ _ _ _ _ _ _ _ _ _ _ _ _ _ hI)
    · exact g_tabI C 1211 dL_law_39 (by decide) (by decide) rfl (by decide) ((law_rings C hl0 hX hS hiL hkn K) _ _ _ _ _ _ _ _ _ _ _ _ _ _ _ _ _ _ _ _ _ _ _ _ _ _ _ _ _ _ _ _ _ _ _ _ _ _ _ hI)
    · exact g_tabI C 1224 dL_law_39 (by decide) (by decide) rfl (by decide) ((law_losses C hl0 hX hS hiL hkn K) _ _ _ _ _ _ _ _ _ _ _ _ _ _ _ _ _ _ _ _ _ _ _ _ _ _ _ _ _ _ _ _ _ _ _ _ _ _ _ hI)
    · exact g_tabI C 1237 dL_law_39 (by decide) (by decide) rfl (by decide) ((law_unserved C hl0 hX hS hiL hkn K) _ _ _ _ _ _ _ _ _ _ _ _ _ _ _ _ _ _ _ _ _ _ _ _ _ _ _ _ _ _ _ _ _ _ _ _ _ _ _ hI)
    · exact g_tabI C 1250 dL_law_39 (by decide) (by decide) rfl (by decide) ((law_mostServed C hl0 hX hS hiL hkn K) _ _ _ _ _ _ _ _ _ _ _ _ _ _ _ _ _ _ _ _ _ _ _ _ _ _ _ _ _ _ _ _ _ _ _ _ _ _ _ hI)
    · exact g_tabI C 1263 dL_law_39 (by decide) (by decide) rfl (by decide) ((law_mostDemand C hl0 hX hS hiL hkn K) _ _ _ _ _ _ _ _ _ _ _ _ _ _ _ _ _ _ _ _ _ _ _ _ _ _ _ _ _ _ _ _ _ _ _ _ _ _ _ hI)
    · exact g_tabI C 1276 dL_law_39 (by decide) (by decide) rfl (by decide) ((law_bestCell C hl0 hX hS hiL hkn K) _ _ _ _ _ _ _ _ _ _ _ _ _ _ _ _ _ _ _ _ _ _ _ _ _ _ _ _ _ _ _ _ _ _ _ _ _ _ _ hI)
  · refine g_tabO C 1332 dL_law_39 (Or.inr (by rw [nI_toInt (by omega)]; omega)) (by decide) ?_
    refine g_widen (k' := k + 10) (n' := n + 60) (by omega) (by omega) ?_
    exact K _ _ _ _ _ _ _ _ _ _ _ _ _ _ _ _ _ _ _ _ _ _ _ _ _ _ _ _ _ _ _ _ _ _ _ _ _ _ _ hI
set_option maxHeartbeats 4000000 in
set_option maxRecDepth 100000 in
theorem law_loop0 (C : CX p s m #[Value.ref bb] meth c cL_law RL wsL_law D (T5 cI cZ cJ cG cW) (fun q => s.heap.size ≤ q) 7) (hret : meth.sig.returnType = ret) (hl0 : l.stackTraces = false) (hX : XX (fun q => s.heap.size ≤ q) s s.heap) (hS : SCR (fun q => s.heap.size ≤ q) s bb L xs) : ∀ (t i k n : Nat), i ≤ L → L < i + 5 * t + 5 → k + 10 * t ≤ 669564 → n + 60 * t ≤ 7087412 → LK p l e s m #[Value.ref bb] below meth c D (fun q => s.heap.size ≤ q) (lw_Z below #[Value.ref bb] s) cI cZ cJ cG cW a b d q r r2 o k n [some (.ref bb), some (.ref (d 0)), some (.ref (q 0)), some (.ref o), some (.int (nI i)), none, none] 23 := by
  intro t
  have hL := hS.2.2.2
  induction t with
  | zero =>
    intro i k n hi ht hk hn
    intro nc nw cx cy ch rm on wx wy dm sv fv hd lf la mg pt bd tk ho ri lo hp rl cn be bw wo mu qq ot us gv bs ld qs mS mD th hI
    refine g_iload C dL_law_23 rfl ?_
    refine g_aload_n C dL_law_25 rfl ?_
    refine g_slen C hS dL_law_26 ?_
    refine g_iconst C 5 dL_law_27 (by decide +kernel) ?_
    refine g_isub C (nI L - 5) dL_law_28 rfl ?_
    refine g_icmp_gt C 1338 dL_law_29 (by decide) (fun _ => law_end C hret (by omega) (by omega)) (fun c9 => absurd (lt5 (by omega) (by omega) (by omega)) c9)
  | succ t ih =>
    intro i k n hi ht hk hn
    intro nc nw cx cy ch rm on wx wy dm sv fv hd lf la mg pt bd tk ho ri lo hp rl cn be bw wo mu qq ot us gv bs ld qs mS mD th hI
    refine g_iload C dL_law_23 rfl ?_
    refine g_aload_n C dL_law_25 rfl ?_
    refine g_slen C hS dL_law_26 ?_
    refine g_iconst C 5 dL_law_27 (by decide +kernel) ?_
    refine g_isub C (nI L - 5) dL_law_28 rfl ?_
    refine g_icmp_gt C 1338 dL_law_29 (by decide) (fun _ => law_end C hret (by omega) (by omega)) (fun c9 => ?_)
    have h5 : i + 4 < L := by
      by_cases q : L < i + 5
      · exact absurd (lt5 q (by omega) (by omega)) c9
      · omega
    refine (law_turn1 C hl0 hX hS h5 ⟨by omega, by omega⟩ ?_) _ _ _ _ _ _ _ _ _ _ _ _ _ _ _ _ _ _ _ _ _ _ _ _ _ _ _ _ _ _ _ _ _ _ _ _ _ _ _ hI
    intro nc nw cx cy ch rm on wx wy dm sv fv hd lf la mg pt bd tk ho ri lo hp rl cn be bw wo mu qq ot us gv bs ld qs mS mD th hI
    refine g_iinc C (nI (i + 5)) [some (.ref bb), some (.ref (d 0)), some (.ref (q 0)), some (.ref o), some (.int (nI (i + 5))), none, none] dL_law_1332 rfl (nI_add i 5) (by decide) rfl rfl ?_
    refine g_goto C 23 dL_law_1335 (by decide) ?_
    exact (ih (i + 5) (k + 10) (n + 60) (by omega) (by omega) (by omega) (by omega)) _ _ _ _ _ _ _ _ _ _ _ _ _ _ _ _ _ _ _ _ _ _ _ _ _ _ _ _ _ _ _ _ _ _ _ _ _ _ _ hI
end LOOP
