set_option maxHeartbeats 4000000 in
set_option maxRecDepth 100000 in
theorem whole_start {p : Program} {e : Env} {s : State} {m : MethodId} {below : List Frame} {meth : Method} {c : Code} (l : Launch) (hflags : l.flags = flags0) {b L : Nat} {xs : Nat → Int32} (hL : L ≤ 260) (C0 : lw_At p s m meth c b L xs) : W p l e room_1 s m #[Value.ref b] below meth c s.heap [] 0 0 (lw_Z below #[Value.ref b] s) (entryFrame m ([Value.ref b] : List Value).toArray 10) := by
  obtain ⟨hx, hb, hr, hml, hown, hts, hXs, hbl, hlk, hgv⟩ := C0
  have hl0 := st_fl l hflags
  have hX := st_XX hts hgv
  obtain ⟨D, cI, cZ, cJ, hK, hN⟩ := st_K hts
  have hS : SCR (fun q => s.heap.size ≤ q) s b L xs := ⟨hXs, hbl, fun h => absurd hbl (Nat.not_lt.mpr h), hL⟩
  have C : CX p s m #[Value.ref b] meth c cL_law RL wsL_law D [(cI, .int), (cZ, .boolean), (cJ, .int)] (fun q => s.heap.size ≤ q) 10 := ⟨hx, hb, hml, hown, fun w h => hts w (wsL_law_in w h), hK, fun q h => h, hlk⟩
  have key : G p l e room_1 s m #[Value.ref b] below meth c D (fun q => s.heap.size ≤ q) 10 (lw_Z below #[Value.ref b] s) 0 0 [] [some (.ref b), none, none, none, none, none, none, none, none, none] 0 [] := by
    refine g_new C (ci := 2) (N := 13) inlX2 tyX2 tyX2_ok (hts (.classLink RL 24 RX2) (List.mem_of_getElem? (i := 26) (by decide +kernel))) (hts (.instantiable RX2 13) (List.mem_of_getElem? (i := 27) (by decide +kernel))) (hts (.initialized RX2) (List.mem_of_getElem? (i := 15) (by decide +kernel))) rfl [.null, .null, .null, .null, .null, .null, .int 0, .int 0, .int 0, .int 0, .int 0, .int 0, .int 0] (fun j hj => by rcases (show j = 0 ∨ j = 1 ∨ j = 2 ∨ j = 3 ∨ j = 4 ∨ j = 5 ∨ j = 6 ∨ j = 7 ∨ j = 8 ∨ j = 9 ∨ j = 10 ∨ j = 11 ∨ j = 12 by omega) with rfl | rfl | rfl | rfl | rfl | rfl | rfl | rfl | rfl | rfl | rfl | rfl | rfl <;> rfl) (Nat.le_of_ble_eq_true rfl) (Nat.le_of_ble_eq_true rfl) dL_law_0 (fun z1 => ?_)
    refine g_dup C dL_law_3 rfl ?_
    refine g_makeI C hN [] [(z1, .inr (2, [.null, .null, .null, .null, .null, .null, .int 0, .int 0, .int 0, .int 0, .int 0, .int 0, .int 0]))] [] t_X2_init (cwI 0 C.ts gL_law_X2_init rfl rfl rfl (hts (.initialized RX2) (List.mem_of_getElem? (i := 15) (by decide +kernel))) (hts (.methodLink RL 151 yX2_init) (List.mem_of_getElem? (i := 28) (by decide +kernel))) (hts (.instanceMethod yX2_init) (List.mem_of_getElem? (i := 29) (by decide +kernel))) rfl (by decide +kernel) ⟨Nat.le_of_ble_eq_true rfl, Nat.le_of_ble_eq_true rfl⟩) rfl rfl rfl (Nat.le_of_ble_eq_true rfl) dL_law_4 ⟨Nat.le_of_ble_eq_true rfl, Nat.le_of_ble_eq_true rfl⟩ (fun wv1 tv1 hp1 hK1 => ?_)
    obtain ⟨a, bS, d, r, r2, cG, cW, rfl, rfl, rfl⟩ := hp1
    have C1 := C.wi hK1
    refine g_w (ws' := ((wCo cI a bS d 20 2 100 0 0 0 0 (fun _ => 0) (fun _ => 0) (fun _ => 0) (fun _ => 0) ++ wSo cI cW a bS r2 (fun _ => 0) (fun _ => 0) (fun _ => 0) (fun _ => 0) 0 (fun _ _ => 0)) ++ wL cI cZ cG a r 0 0 (fun _ => 0) (fun _ => 0) (fun _ => 0) (fun _ => 0) (fun _ => 0) (fun _ => 0) (fun _ => 0) (fun _ => 0) (fun _ => 0) (fun _ => 0) (fun _ _ => 0))) rfl ?_
    refine g_astore_n C1 [some (.ref b), some (.ref (d 0)), none, none, none, none, none, none, none, none] dL_law_7 (by decide) rfl rfl ?_
    refine g_bipush C1 9 dL_law_8 (by decide +kernel) ?_
    refine g_newa C1 (atype := .int) (ty := .int) rfl hN.1 (hts (.arrayClass .int) (List.mem_of_getElem? (i := 96) (by decide +kernel))) 9 rfl (by decide) (z := (9, .inl (fun _ => 0))) (fun _ => rfl) (by decide) (Nat.le_of_ble_eq_true rfl) (Nat.le_of_ble_eq_true rfl) dL_law_10 (fun q1 => ?_)
    refine g_astore_n C1 [some (.ref b), some (.ref (d 0)), some (.ref q1), none, none, none, none, none, none, none] dL_law_12 (by decide) rfl rfl ?_
    refine g_bipush C1 20 dL_law_13 (by decide +kernel) ?_
    refine g_newa C1 (atype := .int) (ty := .int) rfl hN.1 (hts (.arrayClass .int) (List.mem_of_getElem? (i := 96) (by decide +kernel))) 20 rfl (by decide) (z := (20, .inl (fun _ => 0))) (fun _ => rfl) (by decide) (Nat.le_of_ble_eq_true rfl) (Nat.le_of_ble_eq_true rfl) dL_law_15 (fun q2 => ?_)
    refine g_astore_n C1 [some (.ref b), some (.ref (d 0)), some (.ref q1), some (.ref q2), none, none, none, none, none, none] dL_law_17 (by decide) rfl rfl ?_
    refine g_bipush C1 32 dL_law_18 (by decide +kernel) ?_
    refine g_newa C1 (atype := .int) (ty := .int) rfl hN.1 (hts (.arrayClass .int) (List.mem_of_getElem? (i := 96) (by decide +kernel))) 32 rfl (by decide) (z := (32, .inl (fun _ => 0))) (fun _ => rfl) (by decide) (Nat.le_of_ble_eq_true rfl) (Nat.le_of_ble_eq_true rfl) dL_law_20 (fun q3 => ?_)
    refine g_astore C1 [some (.ref b), some (.ref (d 0)), some (.ref q1), some (.ref q2), some (.ref q3), none, none, none, none, none] dL_law_22 (by decide) rfl rfl ?_
    refine g_w (ws' := ((wCo cI a bS d 20 2 100 0 0 0 0 (fun _ => 0) (fun _ => 0) (fun _ => 0) (fun _ => 0) ++ wSo cI cW a bS r2 (fun _ => 0) (fun _ => 0) (fun _ => 0) (fun _ => 0) 0 (fun _ _ => 0)) ++ wL cI cZ cG a r 0 0 (fun _ => 0) (fun _ => 0) (fun _ => 0) (fun _ => 0) (fun _ => 0) (fun _ => 0) (fun _ => 0) (fun _ => 0) (fun _ => 0) (fun _ => 0) (fun _ _ => 0)) ++ [(q1, .inl (cI, 9, .inl (fun _ => 0))), (q2, .inl (cI, 20, .inl (fun _ => 0))), (q3, .inl (cI, 32, .inl (fun _ => 0)))]) (by simp only [List.append_assoc]; rfl) ?_
    refine g_swap ?_
    refine g_w (ws' := (wA cI (fun i => [q1, q2, q3].getD i 0) 0 0 0 0 0 0 0 0 0 (fun _ => 0) (fun _ => 0) (fun _ => 0) (fun _ => 0) (fun _ => 0) (fun _ => 0) (fun _ => 0) (fun _ => 0) (fun _ => 0) (fun _ => 0) (fun _ => 0) (fun _ => 0) (fun _ => 0)) ++ ((wCo cI a bS d 20 2 100 0 0 0 0 (fun _ => 0) (fun _ => 0) (fun _ => 0) (fun _ => 0) ++ wSo cI cW a bS r2 (fun _ => 0) (fun _ => 0) (fun _ => 0) (fun _ => 0) 0 (fun _ _ => 0)) ++ wL cI cZ cG a r 0 0 (fun _ => 0) (fun _ => 0) (fun _ => 0) (fun _ => 0) (fun _ => 0) (fun _ => 0) (fun _ => 0) (fun _ => 0) (fun _ => 0) (fun _ => 0) (fun _ _ => 0))) (by unfold wA; rw [← cA_0, ← gA_z, ← hA_z]; rfl) ?_
    refine g_aload_n C1 dL_law_24 rfl ?_
    refine g_bipush C1 6 dL_law_25 (by decide +kernel) ?_
    refine g_bipush C1 20 dL_law_27 (by decide +kernel) ?_
    refine g_iast C1 0 0 rfl rfl 6 rfl (by decide) (by decide) ((wA cI (fun i => [q1, q2, q3].getD i 0) 0 0 0 0 0 0 20 0 0 (fun _ => 0) (fun _ => 0) (fun _ => 0) (fun _ => 0) (fun _ => 0) (fun _ => 0) (fun _ => 0) (fun _ => 0) (fun _ => 0) (fun _ => 0) (fun _ => 0) (fun _ => 0) (fun _ => 0)) ++ ((wCo cI a bS d 20 2 100 0 0 0 0 (fun _ => 0) (fun _ => 0) (fun _ => 0) (fun _ => 0) ++ wSo cI cW a bS r2 (fun _ => 0) (fun _ => 0) (fun _ => 0) (fun _ => 0) 0 (fun _ _ => 0)) ++ wL cI cZ cG a r 0 0 (fun _ => 0) (fun _ => 0) (fun _ => 0) (fun _ => 0) (fun _ => 0) (fun _ => 0) (fun _ => 0) (fun _ => 0) (fun _ => 0) (fun _ => 0) (fun _ _ => 0))) (by rw [uc_6]; rfl) dL_law_29 ?_
    refine g_aload_n C1 dL_law_30 rfl ?_
    refine g_bipush C1 7 dL_law_31 (by decide +kernel) ?_
    refine g_iconst C1 2 dL_law_33 (by decide +kernel) ?_
    refine g_iast C1 0 0 rfl rfl 7 rfl (by decide) (by decide) ((wA cI (fun i => [q1, q2, q3].getD i 0) 0 0 0 0 0 0 20 2 0 (fun _ => 0) (fun _ => 0) (fun _ => 0) (fun _ => 0) (fun _ => 0) (fun _ => 0) (fun _ => 0) (fun _ => 0) (fun _ => 0) (fun _ => 0) (fun _ => 0) (fun _ => 0) (fun _ => 0)) ++ ((wCo cI a bS d 20 2 100 0 0 0 0 (fun _ => 0) (fun _ => 0) (fun _ => 0) (fun _ => 0) ++ wSo cI cW a bS r2 (fun _ => 0) (fun _ => 0) (fun _ => 0) (fun _ => 0) 0 (fun _ _ => 0)) ++ wL cI cZ cG a r 0 0 (fun _ => 0) (fun _ => 0) (fun _ => 0) (fun _ => 0) (fun _ => 0) (fun _ => 0) (fun _ => 0) (fun _ => 0) (fun _ => 0) (fun _ => 0) (fun _ _ => 0))) (by rw [uc_7]; rfl) dL_law_34 ?_
    refine g_aload_n C1 dL_law_35 rfl ?_
    refine g_bipush C1 8 dL_law_36 (by decide +kernel) ?_
    refine g_bipush C1 100 dL_law_38 (by decide +kernel) ?_
    refine g_iast C1 0 0 rfl rfl 8 rfl (by decide) (by decide) ((wA cI (fun i => [q1, q2, q3].getD i 0) 0 0 0 0 0 0 20 2 100 (fun _ => 0) (fun _ => 0) (fun _ => 0) (fun _ => 0) (fun _ => 0) (fun _ => 0) (fun _ => 0) (fun _ => 0) (fun _ => 0) (fun _ => 0) (fun _ => 0) (fun _ => 0) (fun _ => 0)) ++ ((wCo cI a bS d 20 2 100 0 0 0 0 (fun _ => 0) (fun _ => 0) (fun _ => 0) (fun _ => 0) ++ wSo cI cW a bS r2 (fun _ => 0) (fun _ => 0) (fun _ => 0) (fun _ => 0) 0 (fun _ _ => 0)) ++ wL cI cZ cG a r 0 0 (fun _ => 0) (fun _ => 0) (fun _ => 0) (fun _ => 0) (fun _ => 0) (fun _ => 0) (fun _ => 0) (fun _ => 0) (fun _ => 0) (fun _ => 0) (fun _ _ => 0))) (by rw [uc_8]; rfl) dL_law_40 ?_
    refine g_iconst C1 0 dL_law_41 (by decide +kernel) ?_
    refine g_istore C1 [some (.ref b), some (.ref (d 0)), some (.ref q1), some (.ref q2), some (.ref q3), some (.int (nI 0)), none, none, none, none] dL_law_42 (by decide) rfl rfl ?_
    refine g_widen (k' := 100) (n' := 400) (Nat.le_of_ble_eq_true rfl) (Nat.le_of_ble_eq_true rfl) ?_
    exact law_loop (u := (fun i => [q1, q2, q3].getD i 0)) C1 hr hl0 hX hS (Nat.le_refl _) (Nat.le_refl _) (ST_mk JI_0)
  rw [lg_entry_eq]
  exact key s.heap [] _ (fun k q h => by cases h) ⟨fun i j p q h => (by cases h), fun k q h => (by cases h)⟩ va_S.rf (lh_entry (av := [Value.ref b]) (r := 9) (Nat.le_of_ble_eq_true rfl) rfl)
set_option maxHeartbeats 4000000 in
theorem lw_walk (l : Launch) (hflags : l.flags = flags0) (b : Addr) (xs : List Int32) : MetFree l x (headSpec (Jvm.Cond.code x code maxLocals ret :: tables_1) room_1) (lw_P b xs) (fun _ _ _ _ _ => True) lw_Q := by
  refine MetFree.of_bodyS (code := code) (maxLocals := maxLocals) (ret := ret) (by decide) ?_ ?_
  · intro args s m h hn
    obtain ⟨meth, c, h1, h2, h3, h4, h5, h6, -, -⟩ := Cond.code_spec hn (atoms_spec (ws := Jvm.Cond.code x code maxLocals ret :: tables_1) h _ List.mem_cons_self)
    exact ⟨meth, c, h1, h2, h3, h4, h5, h6⟩
  · intro p e s m args below meth c s₁ B hml0 hP _
    obtain ⟨rfl, hx, hbd, hgv⟩ := hP
    obtain ⟨scr, harrAt, hlist, hof, hsmall⟩ := hx
    obtain ⟨hcb, hkn, -, -⟩ := State.arrayAt?_spec harrAt
    have hown : s.vm.findClass R_law = some m.cls := findClass_of_methodNamed B.named
    have hts0 : ∀ c ∈ (Jvm.Cond.code x code maxLocals ret :: tables_1), c.before #[Value.ref b] s = true := atoms_spec (ws := Jvm.Cond.code x code maxLocals ret :: tables_1) B.pre
    have hts : ∀ w ∈ lw_tbl, w.before #[Value.ref b] s = true := k2_hts_sels lw_privs (fun w hw => hts0 w (List.mem_cons_of_mem _ hw)) lw_privs_ok
    have hml : c.maxLocals = 10 := B.maxLocals_eq (hts0 _ List.mem_cons_self)
    have X₀ : Stand p l e room_1 s m #[Value.ref b] below meth c s₁ [] 0 0 := Stand.of_body B
    have hh0 : s₁.heap = s.heap := by rw [B.state]; rfl
    have hsz : scr.slots.size = xs.length := by rw [← Array.length_toList, hlist, List.length_map]
    have hval : ∀ j : Nat, j < xs.length → scr.slots[j]? = some (.int (xs.getD j 0)) := fun j hj => by
      rw [← Array.getElem?_toList, hlist]
      simp [hj]
    have hbl : b < s.heap.size := (Array.getElem?_eq_some_iff.mp hcb).1
    have hX : va_X b xs.length (fun j => xs.getD j 0) s s.heap := ⟨scr, hcb, hof, hkn, hsz, hval⟩
    have K : W p l e room_1 s m #[Value.ref b] below meth c s₁.heap [] 0 0 (lw_Z below #[Value.ref b] s) (entryFrame m ([Value.ref b] : List Value).toArray 10) := by
      rw [hh0]
      exact whole_start l hflags hbd ⟨B.exec, B.bytes, B.returns, hml, hown, hts, hX, hbl, B.notSynchronized, hgv⟩
    obtain ⟨t, a1, o, b1, b2, b3⟩ := K s₁ rfl X₀
    exact ⟨t, o, a1, b1, b2, b3⟩
theorem lw_pre_spec {args : Array Value} {s : State} (h : (Jvm.Cond.and given_1 narrow_1).before args s = true) (hr : rest_1_c.before args s = true) : ∃ (b : Addr) (xs : List Int32), lw_P b xs args s := by
  have hs := flat_of_before _ h
  have hq := flat_of_before _ hr
  have hc : (Cond.count 1).before args s = true := hs _ (by decide +kernel)
  have harr : (Cond.arrayOf (.arg 0) .int).before args s = true := hs _ (by decide +kernel)
  have hle : (Cond.le (.length (.arg 0)) (.int 260)).before args s = true := hs _ (by decide +kernel)
  have hlen : (Cond.isInt (.length (.arg 0))).before args s = true := hq _ (by decide +kernel)
  have hall : (Cond.all (.arg 0) (.isInt (.elem (.arg 0) (.index 0)))).before args s = true := hq _ (by decide +kernel)
  obtain ⟨b, xs, hb, hx⟩ := State.ints_of_pre rfl harr hlen hall
  have hsm : xs.length < 2 ^ 31 := hx.choose_spec.2.2.2
  have hev : (Term.length (.arg 0)).eval args s none [] s = some (.int xs.length.toInt32) := hx.length_eval hb
  have hv := Cond.le_ints hev (show (Term.int 260).eval args s none [] s = some (.int 260) from rfl)
  have hd : xs.length.toInt32 ≤ 260 := by
    simpa [Cond.before, Cond.holds, hv] using hle
  have hN : xs.length ≤ 260 := (Int32.ofNat_le_ofNat hsm (by decide)).mp (show Int32.ofNat xs.length ≤ Int32.ofNat 260 from hd)
  exact ⟨b, xs, Cond.one_arg hc (show args[0]? = some (.ref b) from hb), hx, hN, h⟩
theorem lw_comes (l : Launch) (hflags : l.flags = flags0) : Comes l x (Jvm.Cond.code x code maxLocals ret :: tables_1) room_1 (fun tb e args s => Calls_1 tb e args s ∧ rest_1 tb e args s ∧ Pre_1 tb e args s)
    (fun _ _ args s o t => lw_Q args s o t) := by
  intro p e ha hc hk s m args below hf hfit hheap happ hpre
  obtain ⟨b, xs, hP⟩ := lw_pre_spec hpre.2.2 hpre.2.1
  obtain ⟨k, o, h1, h2, h3, hQ⟩ := lw_walk l hflags b xs p e ha hc hk s m args below hf ((Spec.applies_iff_loose hf).mp happ).1 hP trivial
  exact ⟨k, o, h1, h2, h3, hQ⟩
theorem lw_frame {s t : State} {o : Outcome} {args : Array Value} (h : Framed s o t [] 801909 6695897) :
    Framed s o t (fieldLocs frame_1_writes args s ++ arrayLocs frame_1_arrays args s ++ staticLocs frame_1_statics s) 801909 6695897 := h
theorem lw_limb (L : Cond) (hL : ∀ (args : Array Value) (s t : State), L.after args s (.returned (some (.int 1))) t = true) :
    ArmFor flags0 classFile x code maxLocals ret World_1 tables_1 room_1 Calls_1 rest_1 Pre_1
      (fun tb e a s o t => postC L tb e a s o t ∧ Framed s o t (fieldLocs frame_1_writes a s ++ arrayLocs frame_1_arrays a s ++ staticLocs frame_1_statics s) 801909 6695897) := by
  intro l hflags _ _ p e ha hc hk s m args below hf hfit hheap happ hpre
  obtain ⟨k, o, h1, h2, h3, rfl, hF⟩ := lw_comes l hflags p e ha hc hk s m args below hf hfit hheap happ hpre
  exact ⟨k, _, h1, h2, h3, hL args s _, lw_frame hF⟩
theorem i_vc : Claimed_1_1 ∧ Claimed_1_2 := ⟨lw_limb limb_1_1 (fun args s t => by simp [limb_1_1, Cond.after, Cond.holds, Cond.value]), lw_limb limb_1_2 (fun args s t => Cond.after_iff.mpr (by
  first | (rw [show limb_1_2 = Cond.eq .result (.int 1) from rfl, Cond.eq_ints (x := 1) (y := 1) rfl rfl]; simp; done) | (simp [limb_1_2, Cond.value, Term.eval]; done)))⟩
