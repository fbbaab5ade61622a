/-! the law's small methods -/
theorem some_tB {x p : Int32} {N : Int} (h : 0 ≤ x.toInt ∧ x.toInt < p.toInt) (hp : p.toInt = N + 1) : tB 0 N x := ⟨h.1, by omega⟩
/-- a table of qualities, four times the cell and the walker, one place more -/
theorem q_step {QV : Nat → Nat → Int32} {qf : Nat → Int32} {i j nw : Nat} {x : Int32} (h4 : nw ≤ 4) (hj : j < nw) (h : ∀ a k, (a < i ∧ k < nw) ∨ (a = i ∧ k < j) → qf (4 * a + k) = QV k a) (hx : x = QV j i) : ∀ a k, (a < i ∧ k < nw) ∨ (a = i ∧ k < j + 1) → upd qf (4 * i + j) x (4 * a + k) = QV k a := by
  intro a k hk
  show (if 4 * a + k = 4 * i + j then x else qf (4 * a + k)) = _
  by_cases e : 4 * a + k = 4 * i + j
  · rw [if_pos e, hx, show a = i by omega, show k = j by omega]
  · rw [if_neg e]
    exact h a k (by omega)
theorem on_1 {x : Int32} (h : x = 0 ∨ x = 1) (h1 : ¬ x = 1) : x = 0 := h.elim id (fun e => absurd e h1)
theorem ne_1 {x : Int32} (h : x = 1) : ¬ x = 0 := fun e => by rw [e] at h; exact absurd h (by decide)
set_option maxHeartbeats 1000000 in
set_option maxRecDepth 100000 in
theorem t_L_cell {l : Launch} {D : va_G} {cI cZ cJ cG cW : ClassId} {bb L : Nat} {xs : Nat → Int32} {kk : Nat} (hL : L ≤ 260) (hk : kk < 1000) : CsI l yL_cell wsL_cell 0 0 0 0 D (T5 cI cZ cJ cG cW) [.ref bb, .int (nI kk)] bb L xs (fun _ wv => wv = []) := by
  refine csI_of (cc := cL_cell) (maxL := 2) hL RL 0 [some (.ref bb), some (.int (nI kk))] (by decide +kernel) rfl rfl (Nat.le_of_ble_eq_true rfl) rfl (fun p_ e_ s_ m_ as_ bl_ me_ co_ C hret hS => ?_)
  refine g_iload_n C dL_cell_0 rfl ?_
  refine g_aload_n C dL_cell_1 rfl ?_
  refine g_slen C hS dL_cell_2 ?_
  refine g_icmp_ge C 12 dL_cell_3 (by decide) (fun c_3 => ?_) (fun c_3 => ?_)
  · refine g_ldc2 C (v := 3266489917) (C.ts _ (by decide +kernel)) dL_cell_12 ?_
    refine g_iload_n C dL_cell_15 rfl ?_
    refine g_bipush C 7 dL_cell_16 (by decide +kernel) ?_
    refine g_iadd C (nI kk + 7) dL_cell_18 rfl ?_
    refine g_i2l C _ dL_cell_19 rfl ?_
    refine g_lmul C _ dL_cell_20 rfl ?_
    refine g_bipush C 6 dL_cell_21 (by decide +kernel) ?_
    refine g_lushr C _ dL_cell_23 rfl ?_
    refine g_l2i C _ dL_cell_24 rfl ?_
    exact g_iret C hret dL_cell_25 (Nat.le_of_ble_eq_true rfl) (Nat.le_of_ble_eq_true rfl) rfl
  · have c_3 : ¬ L ≤ kk := fun h9 => c_3 ((nI_leI (by omega) (by omega)).mpr h9)
    refine g_aload_n C dL_cell_6 rfl ?_
    refine g_iload_n C dL_cell_7 rfl ?_
    refine g_sld C hS kk rfl (by omega) dL_cell_8 ?_
    refine g_goto C 25 dL_cell_9 (by decide) ?_
    exact g_iret C hret dL_cell_25 (Nat.le_of_ble_eq_true rfl) (Nat.le_of_ble_eq_true rfl) rfl
set_option maxHeartbeats 1000000 in
set_option maxRecDepth 100000 in
theorem t_L_some {l : Launch} {D : va_G} {cI cZ cJ cG cW : ClassId} {p1 p2 : Int32} (hp : 0 < p2.toInt) : CtI l yL_some wsL_some 0 0 0 0 D (T5 cI cZ cJ cG cW) [.int p1, .int p2] [] (fun rv wv => (0 ≤ rv.toInt ∧ rv.toInt < p2.toInt) ∧ wv = []) := by
  refine ctI_of (cc := cL_some) (maxL := 2) RL 0 [some (.int p1), some (.int p2)] (by decide +kernel) rfl rfl (Nat.le_of_ble_eq_true rfl) rfl (fun p_ e_ s_ m_ as_ bl_ me_ co_ C hret => ?_)
  refine g_iload_n C dL_some_0 rfl ?_
  refine g_iconst C 2 dL_some_1 (by decide +kernel) ?_
  refine g_iushr C ((p1.toUInt32 >>> ((2 : Int32).toUInt32 &&& Int32.toUInt32 31)).toInt32) dL_some_2 rfl ?_
  refine g_iload_n C dL_some_3 rfl ?_
  refine g_irem C (((p1.toUInt32 >>> ((2 : Int32).toUInt32 &&& Int32.toUInt32 31)).toInt32) - ((p1.toUInt32 >>> ((2 : Int32).toUInt32 &&& Int32.toUInt32 31)).toInt32) / p2 * p2) dL_some_4 (fun h => by rw [h] at hp; exact absurd hp (by decide)) rfl ?_
  exact g_iret C hret dL_some_5 (Nat.le_of_ble_eq_true rfl) (Nat.le_of_ble_eq_true rfl) ⟨(some_ok hp), rfl⟩
set_option maxHeartbeats 1000000 in
set_option maxRecDepth 100000 in
theorem t_L_place {l : Launch} {D : va_G} {cI cZ cJ cG cW : ClassId} {p1 : Int32}  : CtI l yL_place wsL_place 1 21 0 0 D (T5 cI cZ cJ cG cW) [.int p1] [] (fun rv wv => tB 0 64 rv ∧ wv = []) := by
  refine ctI_of (cc := cL_place) (maxL := 1) RL 0 [some (.int p1)] (by decide +kernel) rfl rfl (Nat.le_of_ble_eq_true rfl) rfl (fun p_ e_ s_ m_ as_ bl_ me_ co_ C hret => ?_)
  refine g_iload_n C dL_place_0 rfl ?_
  refine g_bipush C 60 dL_place_1 (by decide +kernel) ?_
  refine g_callSi C [] [] [.int p1, .int 60] (t_L_some (by decide)) (va_cwS 2 C.ts gL_place_L_some rfl rfl rfl (by decide +kernel) ⟨Nat.le_of_ble_eq_true rfl, Nat.le_of_ble_eq_true rfl⟩) rfl rfl rfl (Nat.le_of_ble_eq_true rfl) dL_place_3 ⟨Nat.le_of_ble_eq_true rfl, Nat.le_of_ble_eq_true rfl⟩ (fun rv1 wv1 hp1 => ?_)
  obtain ⟨hs1, rfl⟩ := hp1
  have hs1 : tB 0 59 rv1 := some_tB hs1 (by decide)
  refine g_w (ws' := []) rfl ?_
  refine g_if_ne C 14 dL_place_6 (by decide) (fun c_6 => ?_) (fun c_6 => ?_)
  · skip
    refine g_iload_n C dL_place_14 rfl ?_
    refine g_iconst C 3 dL_place_15 (by decide +kernel) ?_
    refine g_ishr C (p1 >>> (3 &&& 31)) dL_place_16 rfl ?_
    refine g_iconst C 4 dL_place_17 (by decide +kernel) ?_
    refine g_callSi C [] [] [.int (p1 >>> (3 &&& 31)), .int 4] (t_L_some (by decide)) (va_cwS 2 C.ts gL_place_L_some rfl rfl rfl (by decide +kernel) ⟨Nat.le_of_ble_eq_true rfl, Nat.le_of_ble_eq_true rfl⟩) rfl rfl rfl (Nat.le_of_ble_eq_true rfl) dL_place_18 ⟨Nat.le_of_ble_eq_true rfl, Nat.le_of_ble_eq_true rfl⟩ (fun rv2 wv2 hp2 => ?_)
    obtain ⟨hs2, rfl⟩ := hp2
    have hs2 : tB 0 3 rv2 := some_tB hs2 (by decide)
    refine g_w (ws' := []) rfl ?_
    refine g_if_ne C 33 dL_place_21 (by decide) (fun c_21 => ?_) (fun c_21 => ?_)
    · skip
      refine g_iload_n C dL_place_33 rfl ?_
      refine g_iconst C 2 dL_place_34 (by decide +kernel) ?_
      refine g_ishr C (p1 >>> (2 &&& 31)) dL_place_35 rfl ?_
      refine g_bipush C 14 dL_place_36 (by decide +kernel) ?_
      refine g_callSi C [] [] [.int (p1 >>> (2 &&& 31)), .int 14] (t_L_some (by decide)) (va_cwS 2 C.ts gL_place_L_some rfl rfl rfl (by decide +kernel) ⟨Nat.le_of_ble_eq_true rfl, Nat.le_of_ble_eq_true rfl⟩) rfl rfl rfl (Nat.le_of_ble_eq_true rfl) dL_place_38 ⟨Nat.le_of_ble_eq_true rfl, Nat.le_of_ble_eq_true rfl⟩ (fun rv3 wv3 hp3 => ?_)
      obtain ⟨hs3, rfl⟩ := hp3
      have hs3 : tB 0 13 rv3 := some_tB hs3 (by decide)
      refine g_w (ws' := []) rfl ?_
      exact g_iret C hret dL_place_41 (Nat.le_of_ble_eq_true rfl) (Nat.le_of_ble_eq_true rfl) ⟨(tB_wk hs3 (by decide) (by decide)), rfl⟩
    · skip
      refine g_iload_n C dL_place_24 rfl ?_
      refine g_bipush C 64 dL_place_25 (by decide +kernel) ?_
      refine g_callSi C [] [] [.int p1, .int 64] (t_L_some (by decide)) (va_cwS 2 C.ts gL_place_L_some rfl rfl rfl (by decide +kernel) ⟨Nat.le_of_ble_eq_true rfl, Nat.le_of_ble_eq_true rfl⟩) rfl rfl rfl (Nat.le_of_ble_eq_true rfl) dL_place_27 ⟨Nat.le_of_ble_eq_true rfl, Nat.le_of_ble_eq_true rfl⟩ (fun rv4 wv4 hp4 => ?_)
      obtain ⟨hs4, rfl⟩ := hp4
      have hs4 : tB 0 63 rv4 := some_tB hs4 (by decide)
      refine g_w (ws' := []) rfl ?_
      refine g_goto C 41 dL_place_30 (by decide) ?_
      exact g_iret C hret dL_place_41 (Nat.le_of_ble_eq_true rfl) (Nat.le_of_ble_eq_true rfl) ⟨(tB_wk hs4 (by decide) (by decide)), rfl⟩
  · skip
    refine g_bipush C 64 dL_place_9 (by decide +kernel) ?_
    refine g_goto C 41 dL_place_11 (by decide) ?_
    exact g_iret C hret dL_place_41 (Nat.le_of_ble_eq_true rfl) (Nat.le_of_ble_eq_true rfl) ⟨(tB_wk (tB_k 64 64 rfl) (by decide) (by decide)), rfl⟩
set_option maxHeartbeats 1000000 in
set_option maxRecDepth 100000 in
theorem t_L_signal {l : Launch} {D : va_G} {cI cZ cJ cG cW : ClassId} {u : Nat → Nat} {nc nw : Nat} {tk ho ri lo mg pt bd : Int32} {cx cy ch rm on wx wy dm sv fv hd lf la : Nat → Int32} {kc kw : Nat} (hc : kc < 4) (hw : kw < 4) (hds : ¬ dsq (cx kc) (cy kc) (wx kw) (wy kw) = 0) : CtI l yL_signal wsL_signal 0 0 0 0 D (T5 cI cZ cJ cG cW) [.ref (u 1), .ref (u 2), .int (nI kc), .int (nI kw)] (wA cI u nc nw tk ho ri lo mg pt bd cx cy ch rm on wx wy dm sv fv hd lf la) (fun rv wv => rv = sg cx cy wx wy kc kw ∧ wv = (wA cI u nc nw tk ho ri lo mg pt bd cx cy ch rm on wx wy dm sv fv hd lf la)) := by
  refine ctI_of (cc := cL_signal) (maxL := 7) RL 3 [some (.ref (u 1)), some (.ref (u 2)), some (.int (nI kc)), some (.int (nI kw)), none, none, none] (by decide +kernel) rfl rfl (Nat.le_of_ble_eq_true rfl) rfl (fun p_ e_ s_ m_ as_ bl_ me_ co_ C hret => ?_)
  refine g_aload_n C dL_signal_0 rfl ?_
  refine g_iload_n C dL_signal_1 rfl ?_
  refine g_iald C 1 0 rfl rfl kc rfl (by omega) (by decide) (cx kc) (gA_0 (by omega)) dL_signal_2 ?_
  refine g_aload_n C dL_signal_3 rfl ?_
  refine g_iload_n C dL_signal_4 rfl ?_
  refine g_iald C 2 0 rfl rfl kw rfl (by omega) (by decide) (wx kw) (hA_0 (by omega)) dL_signal_5 ?_
  refine g_isub C ((cx kc) - (wx kw)) dL_signal_6 rfl ?_
  refine g_istore C [some (.ref (u 1)), some (.ref (u 2)), some (.int (nI kc)), some (.int (nI kw)), some (.int ((cx kc) - (wx kw))), none, none] dL_signal_7 (by decide) rfl rfl ?_
  refine g_aload_n C dL_signal_9 rfl ?_
  refine g_iconst C 4 dL_signal_10 (by decide +kernel) ?_
  refine g_iload_n C dL_signal_11 rfl ?_
  refine g_iadd C (nI (4 + kc)) dL_signal_12 (nI_k 4 kc _ rfl) ?_
  refine g_iald C 1 0 rfl rfl (4 + kc) rfl (by omega) (by decide) (cy kc) (gA_1 (by omega)) dL_signal_13 ?_
  refine g_aload_n C dL_signal_14 rfl ?_
  refine g_iconst C 4 dL_signal_15 (by decide +kernel) ?_
  refine g_iload_n C dL_signal_16 rfl ?_
  refine g_iadd C (nI (4 + kw)) dL_signal_17 (nI_k 4 kw _ rfl) ?_
  refine g_iald C 2 0 rfl rfl (4 + kw) rfl (by omega) (by decide) (wy kw) (hA_1 (by omega)) dL_signal_18 ?_
  refine g_isub C ((cy kc) - (wy kw)) dL_signal_19 rfl ?_
  refine g_istore C [some (.ref (u 1)), some (.ref (u 2)), some (.int (nI kc)), some (.int (nI kw)), some (.int ((cx kc) - (wx kw))), some (.int ((cy kc) - (wy kw))), none] dL_signal_20 (by decide) rfl rfl ?_
  refine g_iconst C 2 dL_signal_22 (by decide +kernel) ?_
  refine g_iload C dL_signal_23 rfl ?_
  refine g_if_le C 33 dL_signal_25 (by decide) (fun c_25 => ?_) (fun c_25 => ?_)
  · skip
    refine g_iload C dL_signal_33 rfl ?_
    refine g_ineg C (-((cx kc) - (wx kw))) dL_signal_35 rfl ?_
    refine g_iadd C (2 + ab (cx kc - wx kw)) dL_signal_36 (congrArg (fun z => 2 + z) (ab_neg (Int32.not_lt.mpr c_25))) ?_
    refine g_iload C dL_signal_37 rfl ?_
    refine g_if_le C 47 dL_signal_39 (by decide) (fun c_39 => ?_) (fun c_39 => ?_)
    · skip
      refine g_iload C dL_signal_47 rfl ?_
      refine g_ineg C (-((cy kc) - (wy kw))) dL_signal_49 rfl ?_
      refine g_iadd C (2 + ab (cx kc - wx kw) + ab (cy kc - wy kw)) dL_signal_50 (congrArg (fun z => 2 + ab (cx kc - wx kw) + z) (ab_neg (Int32.not_lt.mpr c_39))) ?_
      refine g_istore C [some (.ref (u 1)), some (.ref (u 2)), some (.int (nI kc)), some (.int (nI kw)), some (.int ((cx kc) - (wx kw))), some (.int ((cy kc) - (wy kw))), some (.int (2 + ab (cx kc - wx kw) + ab (cy kc - wy kw)))] dL_signal_51 (by decide) rfl rfl ?_
      refine g_sipush C 16000 dL_signal_53 (by decide +kernel) ?_
      refine g_iload C dL_signal_56 rfl ?_
      refine g_iload C dL_signal_58 rfl ?_
      refine g_imul C (dsq (cx kc) (cy kc) (wx kw) (wy kw)) dL_signal_60 (dsq2 _ _ _ _) ?_
      refine g_idiv C (sg cx cy wx wy kc kw) dL_signal_61 hds rfl ?_
      exact g_iret C hret dL_signal_62 (Nat.le_of_ble_eq_true rfl) (Nat.le_of_ble_eq_true rfl) ⟨rfl, rfl⟩
    · skip
      refine g_iload C dL_signal_42 rfl ?_
      refine g_goto C 50 dL_signal_44 (by decide) ?_
      refine g_iadd C (2 + ab (cx kc - wx kw) + ab (cy kc - wy kw)) dL_signal_50 (congrArg (fun z => 2 + ab (cx kc - wx kw) + z) (ab_pos (Int32.not_le.mp c_39))) ?_
      refine g_istore C [some (.ref (u 1)), some (.ref (u 2)), some (.int (nI kc)), some (.int (nI kw)), some (.int ((cx kc) - (wx kw))), some (.int ((cy kc) - (wy kw))), some (.int (2 + ab (cx kc - wx kw) + ab (cy kc - wy kw)))] dL_signal_51 (by decide) rfl rfl ?_
      refine g_sipush C 16000 dL_signal_53 (by decide +kernel) ?_
      refine g_iload C dL_signal_56 rfl ?_
      refine g_iload C dL_signal_58 rfl ?_
      refine g_imul C (dsq (cx kc) (cy kc) (wx kw) (wy kw)) dL_signal_60 (dsq2 _ _ _ _) ?_
      refine g_idiv C (sg cx cy wx wy kc kw) dL_signal_61 hds rfl ?_
      exact g_iret C hret dL_signal_62 (Nat.le_of_ble_eq_true rfl) (Nat.le_of_ble_eq_true rfl) ⟨rfl, rfl⟩
  · skip
    refine g_iload C dL_signal_28 rfl ?_
    refine g_goto C 36 dL_signal_30 (by decide) ?_
    refine g_iadd C (2 + ab (cx kc - wx kw)) dL_signal_36 (congrArg (fun z => 2 + z) (ab_pos (Int32.not_le.mp c_25))) ?_
    refine g_iload C dL_signal_37 rfl ?_
    refine g_if_le C 47 dL_signal_39 (by decide) (fun c_39 => ?_) (fun c_39 => ?_)
    · skip
      refine g_iload C dL_signal_47 rfl ?_
      refine g_ineg C (-((cy kc) - (wy kw))) dL_signal_49 rfl ?_
      refine g_iadd C (2 + ab (cx kc - wx kw) + ab (cy kc - wy kw)) dL_signal_50 (congrArg (fun z => 2 + ab (cx kc - wx kw) + z) (ab_neg (Int32.not_lt.mpr c_39))) ?_
      refine g_istore C [some (.ref (u 1)), some (.ref (u 2)), some (.int (nI kc)), some (.int (nI kw)), some (.int ((cx kc) - (wx kw))), some (.int ((cy kc) - (wy kw))), some (.int (2 + ab (cx kc - wx kw) + ab (cy kc - wy kw)))] dL_signal_51 (by decide) rfl rfl ?_
      refine g_sipush C 16000 dL_signal_53 (by decide +kernel) ?_
      refine g_iload C dL_signal_56 rfl ?_
      refine g_iload C dL_signal_58 rfl ?_
      refine g_imul C (dsq (cx kc) (cy kc) (wx kw) (wy kw)) dL_signal_60 (dsq2 _ _ _ _) ?_
      refine g_idiv C (sg cx cy wx wy kc kw) dL_signal_61 hds rfl ?_
      exact g_iret C hret dL_signal_62 (Nat.le_of_ble_eq_true rfl) (Nat.le_of_ble_eq_true rfl) ⟨rfl, rfl⟩
    · skip
      refine g_iload C dL_signal_42 rfl ?_
      refine g_goto C 50 dL_signal_44 (by decide) ?_
      refine g_iadd C (2 + ab (cx kc - wx kw) + ab (cy kc - wy kw)) dL_signal_50 (congrArg (fun z => 2 + ab (cx kc - wx kw) + z) (ab_pos (Int32.not_le.mp c_39))) ?_
      refine g_istore C [some (.ref (u 1)), some (.ref (u 2)), some (.int (nI kc)), some (.int (nI kw)), some (.int ((cx kc) - (wx kw))), some (.int ((cy kc) - (wy kw))), some (.int (2 + ab (cx kc - wx kw) + ab (cy kc - wy kw)))] dL_signal_51 (by decide) rfl rfl ?_
      refine g_sipush C 16000 dL_signal_53 (by decide +kernel) ?_
      refine g_iload C dL_signal_56 rfl ?_
      refine g_iload C dL_signal_58 rfl ?_
      refine g_imul C (dsq (cx kc) (cy kc) (wx kw) (wy kw)) dL_signal_60 (dsq2 _ _ _ _) ?_
      refine g_idiv C (sg cx cy wx wy kc kw) dL_signal_61 hds rfl ?_
      exact g_iret C hret dL_signal_62 (Nat.le_of_ble_eq_true rfl) (Nat.le_of_ble_eq_true rfl) ⟨rfl, rfl⟩
set_option maxHeartbeats 1000000 in
set_option maxRecDepth 100000 in
theorem t_L_load {l : Launch} {D : va_G} {cI cZ cJ cG cW : ClassId} {u : Nat → Nat} {nc nw : Nat} {tk ho ri lo mg pt bd : Int32} {cx cy ch rm on wx wy dm sv fv hd lf la : Nat → Int32} {p3 : Int32} (h4 : nw ≤ 4) : CtI l yL_load wsL_load 0 0 0 0 D (T5 cI cZ cJ cG cW) [.ref (u 0), .ref (u 2), .int p3] (wA cI u nc nw tk ho ri lo mg pt bd cx cy ch rm on wx wy dm sv fv hd lf la) (fun rv wv => rv = fld sv dm p3 nw ∧ wv = (wA cI u nc nw tk ho ri lo mg pt bd cx cy ch rm on wx wy dm sv fv hd lf la)) := by
  refine ctI_of (cc := cL_load) (maxL := 5) RL 2 [some (.ref (u 0)), some (.ref (u 2)), some (.int p3), none, none] (by decide +kernel) rfl rfl (Nat.le_of_ble_eq_true rfl) rfl (fun p_ e_ s_ m_ as_ bl_ me_ co_ C hret => ?_)
  refine g_iconst C 0 dL_load_0 (by decide +kernel) ?_
  refine g_istore_n C [some (.ref (u 0)), some (.ref (u 2)), some (.int p3), some (.int 0), none] dL_load_1 (by decide) rfl rfl ?_
  refine g_iconst C 0 dL_load_2 (by decide +kernel) ?_
  refine g_istore C [some (.ref (u 0)), some (.ref (u 2)), some (.int p3), some (.int 0), some (.int 0)] dL_load_3 (by decide) rfl rfl ?_
  refine g_loop2 0 0 (fun (i : Nat) (x : Int32) => i ≤ nw ∧ x = fld sv dm p3 i) (fun (i : Nat) (x : Int32) => (wA cI u nc nw tk ho ri lo mg pt bd cx cy ch rm on wx wy dm sv fv hd lf la)) (fun (i : Nat) (x : Int32) => [some (.ref (u 0)), some (.ref (u 2)), some (.int p3), some (.int x), some (.int (nI i))]) (fun (i : Nat) (x : Int32) => nw - i) ⟨Nat.zero_le _, rfl⟩ rfl rfl (fun i x hI ih => ?_)
  obtain ⟨h1, h2⟩ := hI
  refine g_iload C dL_load_5 rfl ?_
  refine g_aload_n C dL_load_7 rfl ?_
  refine g_iconst C 1 dL_load_8 (by decide +kernel) ?_
  refine g_iald C 0 0 rfl rfl 1 rfl (by omega) (by decide) (nI nw) rfl dL_load_9 ?_
  refine g_icmp_ge C 44 dL_load_10 (by decide) (fun c_10 => ?_) (fun c_10 => ?_)
  · skip
    have c_10 : nw ≤ i := (nI_leI (by omega) (by omega)).mp c_10
    refine g_iload_n C dL_load_44 rfl ?_
    exact g_iret C hret dL_load_45 (Nat.le_of_ble_eq_true rfl) (Nat.le_of_ble_eq_true rfl) ⟨(by rw [h2, show i = nw by omega]), rfl⟩
  · skip
    have c_10 : ¬ (nw ≤ i) := fun h9 => c_10 ((nI_leI (by omega) (by omega)).mpr h9)
    refine g_iload_n C dL_load_13 rfl ?_
    refine g_aload_n C dL_load_14 rfl ?_
    refine g_bipush C 12 dL_load_15 (by decide +kernel) ?_
    refine g_iload C dL_load_17 rfl ?_
    refine g_iadd C (nI (12 + i)) dL_load_19 (nI_k 12 i _ rfl) ?_
    refine g_iald C 2 0 rfl rfl (12 + i) rfl (by omega) (by decide) (sv i) (hA_3 (by omega)) dL_load_20 ?_
    refine g_iload_n C dL_load_21 rfl ?_
    refine g_icmp_ne C 35 dL_load_22 (by decide) (fun c_22 => ?_) (fun c_22 => ?_)
    · skip
      refine g_iconst C 0 dL_load_35 (by decide +kernel) ?_
      refine g_iadd C x dL_load_36 (Int32.add_zero _) ?_
      refine g_istore_n C [some (.ref (u 0)), some (.ref (u 2)), some (.int p3), some (.int x), some (.int (nI i))] dL_load_37 (by decide) rfl rfl ?_
      refine g_iinc C (nI (i + 1)) [some (.ref (u 0)), some (.ref (u 2)), some (.int p3), some (.int x), some (.int (nI (i + 1)))] dL_load_38 rfl (nI_1 i) (by decide) rfl rfl ?_
      refine g_goto C 5 dL_load_41 (by decide) ?_
      exact ih (i + 1) x ⟨by omega, by rw [fld, if_neg c_22, ← h2]⟩ (by omega)
    · skip
      refine g_aload_n C dL_load_25 rfl ?_
      refine g_bipush C 8 dL_load_26 (by decide +kernel) ?_
      refine g_iload C dL_load_28 rfl ?_
      refine g_iadd C (nI (8 + i)) dL_load_30 (nI_k 8 i _ rfl) ?_
      refine g_iald C 2 0 rfl rfl (8 + i) rfl (by omega) (by decide) (dm i) (hA_2 (by omega)) dL_load_31 ?_
      refine g_goto C 36 dL_load_32 (by decide) ?_
      refine g_iadd C (x + (dm i)) dL_load_36 rfl ?_
      refine g_istore_n C [some (.ref (u 0)), some (.ref (u 2)), some (.int p3), some (.int (x + (dm i))), some (.int (nI i))] dL_load_37 (by decide) rfl rfl ?_
      refine g_iinc C (nI (i + 1)) [some (.ref (u 0)), some (.ref (u 2)), some (.int p3), some (.int (x + (dm i))), some (.int (nI (i + 1)))] dL_load_38 rfl (nI_1 i) (by decide) rfl rfl ?_
      refine g_goto C 5 dL_load_41 (by decide) ?_
      exact ih (i + 1) (x + (dm i)) ⟨by omega, by rw [fld, if_pos c_22, ← h2]⟩ (by omega)
set_option maxHeartbeats 1000000 in
set_option maxRecDepth 100000 in
theorem t_L_qualities {l : Launch} {D : va_G} {cI cZ cJ cG cW : ClassId} {uq : Nat} {qf : Nat → Int32} {u : Nat → Nat} {nc nw : Nat} {tk ho ri lo mg pt bd : Int32} {cx cy ch rm on wx wy dm sv fv hd lf la : Nat → Int32}  (h4 : nc ≤ 4) (h6 : nw ≤ 4) (hr : ∀ c, c < nc → ¬ rm c = 0) (hg : ∀ c w, c < nc → w < nw → ¬ dsq (cx c) (cy c) (wx w) (wy w) = 0) (hq : ∀ c w, c < nc → w < nw → ¬ 10 + fdi ch on (fus rm sv dm nw) (sgw cx cy wx wy w) c nc = 0) (hon : ∀ c, c < nc → on c = 0 ∨ on c = 1) : CtV l yL_qualities wsL_qualities 1 26 0 0 D (T5 cI cZ cJ cG cW) [.ref (u 0), .ref (u 1), .ref (u 2), .ref uq] (wQ cI uq qf ++ (wA cI u nc nw tk ho ri lo mg pt bd cx cy ch rm on wx wy dm sv fv hd lf la)) (fun wv tv => (∃ qg : Nat → Int32, (∀ a k, a < nc → k < nw → qg (4 * a + k) = (fun k a => fqu cx cy ch on wx wy (fus rm sv dm nw) nc k a) k a) ∧ wv = (wQ cI uq qg ++ (wA cI u nc nw tk ho ri lo mg pt bd cx cy ch rm on wx wy dm sv fv hd lf la))) ∧ tv = (T5 cI cZ cJ cG cW)) := by
  refine ctV_of (cc := cL_qualities) (maxL := 8) RL 4 [some (.ref (u 0)), some (.ref (u 1)), some (.ref (u 2)), some (.ref uq), none, none, none, none] (by decide +kernel) rfl rfl (Nat.le_of_ble_eq_true rfl) rfl (fun p_ e_ s_ m_ as_ bl_ me_ co_ C hret hini => ?_)
  refine g_iconst C 0 dL_qualities_0 (by decide +kernel) ?_
  refine g_istore C [some (.ref (u 0)), some (.ref (u 1)), some (.ref (u 2)), some (.ref uq), some (.int 0), none, none, none] dL_qualities_1 (by decide) rfl rfl ?_
  refine g_loop2 0 qf (fun (i : Nat) (qg : Nat → Int32) => i ≤ nc ∧ ∀ a k, a < i → k < nw → qg (4 * a + k) = (fun k a => fqu cx cy ch on wx wy (fus rm sv dm nw) nc k a) k a) (fun (i : Nat) (qg : Nat → Int32) => (wQ cI uq qg ++ (wA cI u nc nw tk ho ri lo mg pt bd cx cy ch rm on wx wy dm sv fv hd lf la))) (fun (i : Nat) (qg : Nat → Int32) => [some (.ref (u 0)), some (.ref (u 1)), some (.ref (u 2)), some (.ref uq), some (.int (nI i)), none, none, none]) (fun (i : Nat) (qg : Nat → Int32) => nc - i) ⟨Nat.zero_le _, fun a k h => absurd h (Nat.not_lt_zero _)⟩ rfl rfl (fun i qg hI ih => ?_)
  obtain ⟨h1, h2⟩ := hI
  refine g_iload C dL_qualities_3 rfl ?_
  refine g_aload_n C dL_qualities_5 rfl ?_
  refine g_iconst C 0 dL_qualities_6 (by decide +kernel) ?_
  refine g_iald C 1 0 rfl rfl 0 rfl (by omega) (by decide) (nI nc) rfl dL_qualities_7 ?_
  refine g_icmp_ge C 154 dL_qualities_8 (by decide) (fun c_8 => ?_) (fun c_8 => ?_)
  · skip
    have c_8 : nc ≤ i := (nI_leI (by omega) (by omega)).mp c_8
    exact g_vret C hret dL_qualities_154 (Nat.le_of_ble_eq_true rfl) (Nat.le_of_ble_eq_true rfl) ⟨⟨qg, fun a k ha hk => h2 a k (by omega) hk, rfl⟩, rfl⟩
  · skip
    have c_8 : ¬ (nc ≤ i) := fun h9 => c_8 ((nI_leI (by omega) (by omega)).mpr h9)
    refine g_iconst C 0 dL_qualities_11 (by decide +kernel) ?_
    refine g_istore C [some (.ref (u 0)), some (.ref (u 1)), some (.ref (u 2)), some (.ref uq), some (.int (nI i)), some (.int 0), none, none] dL_qualities_12 (by decide) rfl rfl ?_
    refine g_loop2 0 qg (fun (j : Nat) (qh : Nat → Int32) => j ≤ nw ∧ ∀ a k, (a < i ∧ k < nw) ∨ (a = i ∧ k < j) → qh (4 * a + k) = (fun k a => fqu cx cy ch on wx wy (fus rm sv dm nw) nc k a) k a) (fun (j : Nat) (qh : Nat → Int32) => (wQ cI uq qh ++ (wA cI u nc nw tk ho ri lo mg pt bd cx cy ch rm on wx wy dm sv fv hd lf la))) (fun (j : Nat) (qh : Nat → Int32) => [some (.ref (u 0)), some (.ref (u 1)), some (.ref (u 2)), some (.ref uq), some (.int (nI i)), some (.int (nI j)), none, none]) (fun (j : Nat) (qh : Nat → Int32) => nw - j) ⟨Nat.zero_le _, fun a k h => h2 a k (by omega) (by omega)⟩ rfl rfl (fun j qh hJ jh => ?_)
    obtain ⟨d1, d2⟩ := hJ
    refine g_iload C dL_qualities_14 rfl ?_
    refine g_aload_n C dL_qualities_16 rfl ?_
    refine g_iconst C 1 dL_qualities_17 (by decide +kernel) ?_
    refine g_iald C 1 0 rfl rfl 1 rfl (by omega) (by decide) (nI nw) rfl dL_qualities_18 ?_
    refine g_icmp_ge C 148 dL_qualities_19 (by decide) (fun c_19 => ?_) (fun c_19 => ?_)
    · skip
      have c_19 : nw ≤ j := (nI_leI (by omega) (by omega)).mp c_19
      refine g_iinc C (nI (i + 1)) [some (.ref (u 0)), some (.ref (u 1)), some (.ref (u 2)), some (.ref uq), some (.int (nI (i + 1))), some (.int (nI j)), none, none] dL_qualities_148 rfl (nI_1 i) (by decide) rfl rfl ?_
      refine g_goto C 3 dL_qualities_151 (by decide) ?_
      refine g_mask [true, true, true, true, true, false, false, false] rfl ?_
      exact ih (i + 1) qh ⟨by omega, fun a k ha hk => d2 a k (by omega)⟩ (by omega)
    · skip
      have c_19 : ¬ (nw ≤ j) := fun h9 => c_19 ((nI_leI (by omega) (by omega)).mpr h9)
      refine g_bipush C 10 dL_qualities_22 (by decide +kernel) ?_
      refine g_istore C [some (.ref (u 0)), some (.ref (u 1)), some (.ref (u 2)), some (.ref uq), some (.int (nI i)), some (.int (nI j)), some (.int 10), none] dL_qualities_24 (by decide) rfl rfl ?_
      refine g_iconst C 0 dL_qualities_26 (by decide +kernel) ?_
      refine g_istore C [some (.ref (u 0)), some (.ref (u 1)), some (.ref (u 2)), some (.ref uq), some (.int (nI i)), some (.int (nI j)), some (.int 10), some (.int 0)] dL_qualities_27 (by decide) rfl rfl ?_
      refine g_loop2 0 10 (fun (t : Nat) (x : Int32) => x = 10 + fdi ch on (fus rm sv dm nw) (sgw cx cy wx wy j) i t ∧ t ≤ nc) (fun (t : Nat) (x : Int32) => (wQ cI uq qh ++ (wA cI u nc nw tk ho ri lo mg pt bd cx cy ch rm on wx wy dm sv fv hd lf la))) (fun (t : Nat) (x : Int32) => [some (.ref (u 0)), some (.ref (u 1)), some (.ref (u 2)), some (.ref uq), some (.int (nI i)), some (.int (nI j)), some (.int x), some (.int (nI t))]) (fun (t : Nat) (x : Int32) => nc - t) ⟨rfl, Nat.zero_le _⟩ rfl rfl (fun t x hT th => ?_)
      obtain ⟨e2, e1⟩ := hT
      refine g_iload C dL_qualities_29 rfl ?_
      refine g_aload_n C dL_qualities_31 rfl ?_
      refine g_iconst C 0 dL_qualities_32 (by decide +kernel) ?_
      refine g_iald C 1 0 rfl rfl 0 rfl (by omega) (by decide) (nI nc) rfl dL_qualities_33 ?_
      refine g_icmp_ge C 118 dL_qualities_34 (by decide) (fun c_34 => ?_) (fun c_34 => ?_)
      · skip
        have c_34 : nc ≤ t := (nI_leI (by omega) (by omega)).mp c_34
        refine g_aload_n C dL_qualities_118 rfl ?_
        refine g_iconst C 4 dL_qualities_119 (by decide +kernel) ?_
        refine g_iload C dL_qualities_120 rfl ?_
        refine g_imul C (nI (4 * i)) dL_qualities_122 (nI_mk 4 i _ rfl) ?_
        refine g_iload C dL_qualities_123 rfl ?_
        refine g_iadd C (nI (4 * i + j)) dL_qualities_125 (nI_k (4 * i) j _ rfl) ?_
        refine g_bipush C 100 dL_qualities_126 (by decide +kernel) ?_
        refine g_aload_n C dL_qualities_128 rfl ?_
        refine g_aload_n C dL_qualities_129 rfl ?_
        refine g_iload C dL_qualities_130 rfl ?_
        refine g_iload C dL_qualities_132 rfl ?_
        refine g_callSi C (wQ cI uq qh) (wA cI u nc nw tk ho ri lo mg pt bd cx cy ch rm on wx wy dm sv fv hd lf la) [.ref (u 1), .ref (u 2), .int (nI i), .int (nI j)] (t_L_signal (by omega) (by omega) (hg i j (by omega) (by omega))) (va_cwS 4 C.ts gL_qualities_L_signal rfl rfl rfl (by decide +kernel) ⟨Nat.le_of_ble_eq_true rfl, Nat.le_of_ble_eq_true rfl⟩) rfl rfl rfl (Nat.le_of_ble_eq_true rfl) dL_qualities_134 ⟨Nat.le_of_ble_eq_true rfl, Nat.le_of_ble_eq_true rfl⟩ (fun rv1 wv1 hp1 => ?_)
        obtain ⟨rfl, rfl⟩ := hp1
        refine g_imul C (100 * (sg cx cy wx wy i j)) dL_qualities_137 rfl ?_
        refine g_iload C dL_qualities_138 rfl ?_
        refine g_idiv C (fqu cx cy ch on wx wy (fus rm sv dm nw) nc j i) dL_qualities_140 (by rw [e2, show t = nc by omega]; exact hq i j (by omega) (by omega)) (by rw [e2, show t = nc by omega]; rfl) ?_
        refine g_iast C 0 0 rfl rfl (4 * i + j) rfl (by omega) (by decide) (wQ cI uq (upd qh (4 * i + j) (fqu cx cy ch on wx wy (fus rm sv dm nw) nc j i)) ++ (wA cI u nc nw tk ho ri lo mg pt bd cx cy ch rm on wx wy dm sv fv hd lf la)) rfl dL_qualities_141 ?_
        refine g_iinc C (nI (j + 1)) [some (.ref (u 0)), some (.ref (u 1)), some (.ref (u 2)), some (.ref uq), some (.int (nI i)), some (.int (nI (j + 1))), some (.int x), some (.int (nI t))] dL_qualities_142 rfl (nI_1 j) (by decide) rfl rfl ?_
        refine g_goto C 14 dL_qualities_145 (by decide) ?_
        refine g_mask [true, true, true, true, true, true, false, false] rfl ?_
        exact jh (j + 1) (upd qh (4 * i + j) (fqu cx cy ch on wx wy (fus rm sv dm nw) nc j i)) ⟨by omega, q_step h6 (by omega) d2 rfl⟩ (by omega)
      · skip
        have c_34 : ¬ (nc ≤ t) := fun h9 => c_34 ((nI_leI (by omega) (by omega)).mpr h9)
        refine g_iload C dL_qualities_37 rfl ?_
        refine g_iload C dL_qualities_39 rfl ?_
        refine g_iload C dL_qualities_41 rfl ?_
        refine g_icmp_eq C 108 dL_qualities_43 (by decide) (fun c_43 => ?_) (fun c_43 => ?_)
        · skip
          have c_43 : t = i := (nI_eq (by omega) (by omega)).mp c_43
          refine g_iconst C 0 dL_qualities_108 (by decide +kernel) ?_
          refine g_iadd C x dL_qualities_109 (Int32.add_zero _) ?_
          refine g_istore C [some (.ref (u 0)), some (.ref (u 1)), some (.ref (u 2)), some (.ref uq), some (.int (nI i)), some (.int (nI j)), some (.int x), some (.int (nI t))] dL_qualities_110 (by decide) rfl rfl ?_
          refine g_iinc C (nI (t + 1)) [some (.ref (u 0)), some (.ref (u 1)), some (.ref (u 2)), some (.ref uq), some (.int (nI i)), some (.int (nI j)), some (.int x), some (.int (nI (t + 1)))] dL_qualities_112 rfl (nI_1 t) (by decide) rfl rfl ?_
          refine g_goto C 29 dL_qualities_115 (by decide) ?_
          exact th (t + 1) x ⟨by rw [fdi, e2]; first | rw [if_pos c_43] | rw [if_neg c_43, if_pos (on_1 (hon t (by omega)) c_54)] | (rw [if_neg c_43]; split <;> first | rfl | rw [if_neg c_71]), by omega⟩ (by omega)
        · skip
          have c_43 : ¬ (t = i) := fun h9 => c_43 ((nI_eq (by omega) (by omega)).mpr h9)
          refine g_aload_n C dL_qualities_46 rfl ?_
          refine g_bipush C 16 dL_qualities_47 (by decide +kernel) ?_
          refine g_iload C dL_qualities_49 rfl ?_
          refine g_iadd C (nI (16 + t)) dL_qualities_51 (nI_k 16 t _ rfl) ?_
          refine g_iald C 2 0 rfl rfl (16 + t) rfl (by omega) (by decide) (on t) (gA_4 (by omega)) dL_qualities_52 ?_
          refine g_iconst C 1 dL_qualities_53 (by decide +kernel) ?_
          refine g_icmp_ne C 108 dL_qualities_54 (by decide) (fun c_54 => ?_) (fun c_54 => ?_)
          · skip
            refine g_iconst C 0 dL_qualities_108 (by decide +kernel) ?_
            refine g_iadd C x dL_qualities_109 (Int32.add_zero _) ?_
            refine g_istore C [some (.ref (u 0)), some (.ref (u 1)), some (.ref (u 2)), some (.ref uq), some (.int (nI i)), some (.int (nI j)), some (.int x), some (.int (nI t))] dL_qualities_110 (by decide) rfl rfl ?_
            refine g_iinc C (nI (t + 1)) [some (.ref (u 0)), some (.ref (u 1)), some (.ref (u 2)), some (.ref uq), some (.int (nI i)), some (.int (nI j)), some (.int x), some (.int (nI (t + 1)))] dL_qualities_112 rfl (nI_1 t) (by decide) rfl rfl ?_
            refine g_goto C 29 dL_qualities_115 (by decide) ?_
            exact th (t + 1) x ⟨by rw [fdi, e2]; first | rw [if_pos c_43] | rw [if_neg c_43, if_pos (on_1 (hon t (by omega)) c_54)] | (rw [if_neg c_43]; split <;> first | rfl | rw [if_neg c_71]), by omega⟩ (by omega)
          · skip
            refine g_aload_n C dL_qualities_57 rfl ?_
            refine g_bipush C 8 dL_qualities_58 (by decide +kernel) ?_
            refine g_iload C dL_qualities_60 rfl ?_
            refine g_iadd C (nI (8 + t)) dL_qualities_62 (nI_k 8 t _ rfl) ?_
            refine g_iald C 2 0 rfl rfl (8 + t) rfl (by omega) (by decide) (ch t) (gA_2 (by omega)) dL_qualities_63 ?_
            refine g_aload_n C dL_qualities_64 rfl ?_
            refine g_bipush C 8 dL_qualities_65 (by decide +kernel) ?_
            refine g_iload C dL_qualities_67 rfl ?_
            refine g_iadd C (nI (8 + i)) dL_qualities_69 (nI_k 8 i _ rfl) ?_
            refine g_iald C 2 0 rfl rfl (8 + i) rfl (by omega) (by decide) (ch i) (gA_2 (by omega)) dL_qualities_70 ?_
            refine g_icmp_ne C 108 dL_qualities_71 (by decide) (fun c_71 => ?_) (fun c_71 => ?_)
            · skip
              refine g_iconst C 0 dL_qualities_108 (by decide +kernel) ?_
              refine g_iadd C x dL_qualities_109 (Int32.add_zero _) ?_
              refine g_istore C [some (.ref (u 0)), some (.ref (u 1)), some (.ref (u 2)), some (.ref uq), some (.int (nI i)), some (.int (nI j)), some (.int x), some (.int (nI t))] dL_qualities_110 (by decide) rfl rfl ?_
              refine g_iinc C (nI (t + 1)) [some (.ref (u 0)), some (.ref (u 1)), some (.ref (u 2)), some (.ref uq), some (.int (nI i)), some (.int (nI j)), some (.int x), some (.int (nI (t + 1)))] dL_qualities_112 rfl (nI_1 t) (by decide) rfl rfl ?_
              refine g_goto C 29 dL_qualities_115 (by decide) ?_
              exact th (t + 1) x ⟨by rw [fdi, e2]; first | rw [if_pos c_43] | rw [if_neg c_43, if_pos (on_1 (hon t (by omega)) c_54)] | (rw [if_neg c_43]; split <;> first | rfl | rw [if_neg c_71]), by omega⟩ (by omega)
            · skip
              refine g_aload_n C dL_qualities_74 rfl ?_
              refine g_aload_n C dL_qualities_75 rfl ?_
              refine g_iload C dL_qualities_76 rfl ?_
              refine g_iload C dL_qualities_78 rfl ?_
              refine g_callSi C (wQ cI uq qh) (wA cI u nc nw tk ho ri lo mg pt bd cx cy ch rm on wx wy dm sv fv hd lf la) [.ref (u 1), .ref (u 2), .int (nI t), .int (nI j)] (t_L_signal (by omega) (by omega) (hg t j (by omega) (by omega))) (va_cwS 4 C.ts gL_qualities_L_signal rfl rfl rfl (by decide +kernel) ⟨Nat.le_of_ble_eq_true rfl, Nat.le_of_ble_eq_true rfl⟩) rfl rfl rfl (Nat.le_of_ble_eq_true rfl) dL_qualities_80 ⟨Nat.le_of_ble_eq_true rfl, Nat.le_of_ble_eq_true rfl⟩ (fun rv2 wv2 hp2 => ?_)
              obtain ⟨rfl, rfl⟩ := hp2
              refine g_bipush C 100 dL_qualities_83 (by decide +kernel) ?_
              refine g_aload_n C dL_qualities_85 rfl ?_
              refine g_aload_n C dL_qualities_86 rfl ?_
              refine g_iload C dL_qualities_87 rfl ?_
              refine g_callSi C (wQ cI uq qh) (wA cI u nc nw tk ho ri lo mg pt bd cx cy ch rm on wx wy dm sv fv hd lf la) [.ref (u 0), .ref (u 2), .int (nI t)] (t_L_load h6) (va_cwS 3 C.ts gL_qualities_L_load rfl rfl rfl (by decide +kernel) ⟨Nat.le_of_ble_eq_true rfl, Nat.le_of_ble_eq_true rfl⟩) rfl rfl rfl (Nat.le_of_ble_eq_true rfl) dL_qualities_89 ⟨Nat.le_of_ble_eq_true rfl, Nat.le_of_ble_eq_true rfl⟩ (fun rv3 wv3 hp3 => ?_)
              obtain ⟨rfl, rfl⟩ := hp3
              refine g_imul C (100 * (fld sv dm (nI t) nw)) dL_qualities_92 rfl ?_
              refine g_aload_n C dL_qualities_93 rfl ?_
              refine g_bipush C 12 dL_qualities_94 (by decide +kernel) ?_
              refine g_iload C dL_qualities_96 rfl ?_
              refine g_iadd C (nI (12 + t)) dL_qualities_98 (nI_k 12 t _ rfl) ?_
              refine g_iald C 2 0 rfl rfl (12 + t) rfl (by omega) (by decide) (rm t) (gA_3 (by omega)) dL_qualities_99 ?_
              refine g_idiv C (fus rm sv dm nw t) dL_qualities_100 (hr t (by omega)) rfl ?_
              refine g_imul C ((sg cx cy wx wy t j) * (fus rm sv dm nw t)) dL_qualities_101 rfl ?_
              refine g_bipush C 100 dL_qualities_102 (by decide +kernel) ?_
              refine g_idiv C (((sg cx cy wx wy t j) * (fus rm sv dm nw t)) / 100) dL_qualities_104 (by decide) rfl ?_
              refine g_goto C 109 dL_qualities_105 (by decide) ?_
              refine g_iadd C (x + (((sg cx cy wx wy t j) * (fus rm sv dm nw t)) / 100)) dL_qualities_109 rfl ?_
              refine g_istore C [some (.ref (u 0)), some (.ref (u 1)), some (.ref (u 2)), some (.ref uq), some (.int (nI i)), some (.int (nI j)), some (.int (x + (((sg cx cy wx wy t j) * (fus rm sv dm nw t)) / 100))), some (.int (nI t))] dL_qualities_110 (by decide) rfl rfl ?_
              refine g_iinc C (nI (t + 1)) [some (.ref (u 0)), some (.ref (u 1)), some (.ref (u 2)), some (.ref uq), some (.int (nI i)), some (.int (nI j)), some (.int (x + (((sg cx cy wx wy t j) * (fus rm sv dm nw t)) / 100))), some (.int (nI (t + 1)))] dL_qualities_112 rfl (nI_1 t) (by decide) rfl rfl ?_
              refine g_goto C 29 dL_qualities_115 (by decide) ?_
              exact th (t + 1) (x + (((sg cx cy wx wy t j) * (fus rm sv dm nw t)) / 100)) ⟨by rw [fdi, if_neg c_43, if_neg (ne_1 c_54), if_pos c_71, ← Int32.add_assoc, ← e2]; rfl, by omega⟩ (by omega)
