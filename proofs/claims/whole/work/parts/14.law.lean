/-! the law's helpers -/
theorem ct_1 {s : State} {args : Array Value} {c : Code} {own E : String} {pc a b t k : Nat} {suf : List (Nat × Nat × Nat × Nat)} (hT : c.exceptionTable.toList = tableOf ((a, b, t, k) :: suf)) (hcv : covers ⟨a, b, t, k⟩ pc = true) (hk : k ≠ 0) (hcl : (Cond.classLink own k E).before args s = true) (hca : va_Nw (.castable E E) s) : CT s args c own E pc t :=
  ⟨[], ⟨a, b, t, k⟩, tableOf suf, E, hT, (fun z hz => absurd hz (List.not_mem_nil)), hcv, hk, hcl, va_Nw.use rfl hca, rfl⟩
theorem ct_2 {s : State} {args : Array Value} {c : Code} {own E F : String} {pc a b t k a1 b1 t1 k1 : Nat} {suf : List (Nat × Nat × Nat × Nat)} (hT : c.exceptionTable.toList = tableOf ((a1, b1, t1, k1) :: (a, b, t, k) :: suf)) (hk1 : k1 ≠ 0) (hcl1 : (Cond.classLink own k1 F).before args s = true) (hnc : va_Nc E F s) (hcv : covers ⟨a, b, t, k⟩ pc = true) (hk : k ≠ 0) (hcl : (Cond.classLink own k E).before args s = true) (hca : va_Nw (.castable E E) s) : CT s args c own E pc t :=
  ⟨[⟨a1, b1, t1, k1⟩], ⟨a, b, t, k⟩, tableOf suf, E, hT, (fun z hz => by rw [List.mem_singleton] at hz; subst hz; exact Or.inr ⟨hk1, F, hcl1, hnc⟩), hcv, hk, hcl, va_Nw.use rfl hca, rfl⟩
set_option maxHeartbeats 1000000 in
set_option maxRecDepth 100000 in
theorem t_L_cell {l : Launch} (hl0 : l.stackTraces = false) {D : va_G} {cI cZ cJ cG cW : ClassId} {o : Nat} {ot : Nat → Int64} {a b d : Nat → Nat} {mg pt bd tk ho ri lo : Int32} {fv hd lf la : Nat → Int32} {r2 : Nat → Nat} {hp rl cn be : Nat → Int32} {bw : Int32} {wo : Nat → Nat → Int32} {r : Nat → Nat} {nc nw : Nat} {cx cy ch rm on wx wy dm sv mu : Nat → Int32} {qq : Nat → Nat → Int32} {p1 p2 p3 p4 : Int32} (h5 : nc ≤ 5) : CxI l yL_cell wsL_cell 8 137 9 54 D (T5 cI cZ cJ cG cW) [.ref (d 0), .int p1, .int p2, .int p3, .int p4, .ref o] (wO cJ o ot ++ ((wCo cI a b d mg pt bd tk ho ri lo fv hd lf la ++ wSo cI cW a b r2 hp rl cn be bw wo) ++ wL cI cZ cG a r nc nw cx cy ch rm on wx wy dm sv mu qq)) (fun rv wv => (rv = 0 ∧ (inC p1 p2 p3 p4 ∧ nc < 5) ∧ wv = (wO cJ o (vp_updL ot 0 (Int32.toInt64 (nI nc))) ++ ((wCo cI a b d mg pt bd tk ho ri lo fv hd lf la ++ wSo cI cW a b r2 hp rl cn be bw wo) ++ wL cI cZ cG a r (nc + 1) nw (upd cx nc p1) (upd cy nc p2) (upd ch nc p3) (upd rm nc p4) (upd on nc 1) wx wy dm sv mu qq))) ∨ (rv = 1 ∧ ¬ inC p1 p2 p3 p4 ∧ wv = (wO cJ o ot ++ ((wCo cI a b d mg pt bd tk ho ri lo fv hd lf la ++ wSo cI cW a b r2 hp rl cn be bw wo) ++ wL cI cZ cG a r nc nw cx cy ch rm on wx wy dm sv mu qq))) ∨ (rv = 2 ∧ (inC p1 p2 p3 p4 ∧ ¬ nc < 5) ∧ wv = (wO cJ o ot ++ ((wCo cI a b d mg pt bd tk ho ri lo fv hd lf la ++ wSo cI cW a b r2 hp rl cn be bw wo) ++ wL cI cZ cG a r nc nw cx cy ch rm on wx wy dm sv mu qq)))) (fun Ev => False) := by
  refine cxI_ofH (cc := cL_cell) (maxL := 7) RL 1 [some (.ref (d 0)), some (.int p1), some (.int p2), some (.int p3), some (.int p4), some (.ref o), none] (by decide +kernel) rfl rfl (Nat.le_of_ble_eq_true rfl) rfl (fun p_ e_ s_ m_ as_ bl_ me_ co_ C hret hE hX => ?_)
  refine g_aload C dL_cell_0 rfl ?_
  refine g_iconst C 0 dL_cell_2 (by decide +kernel) ?_
  refine g_aload_n C dL_cell_3 rfl ?_
  refine g_iload_n C dL_cell_4 rfl ?_
  refine g_iload_n C dL_cell_5 rfl ?_
  refine g_iload_n C dL_cell_6 rfl ?_
  refine g_iload C dL_cell_7 rfl ?_
  refine gx_catchi C hX (wO cJ o ot) ((wCo cI a b d mg pt bd tk ho ri lo fv hd lf la ++ wSo cI cW a b r2 hp rl cn be bw wo) ++ wL cI cZ cG a r nc nw cx cy ch rm on wx wy dm sv mu qq) [.int p1, .int p2, .int p3, .int p4] (t_X2_cell hl0 h5) rfl rfl (cwV 4 C.ts gL_cell_X2_cell rfl rfl rfl (by decide +kernel) ⟨Nat.le_of_ble_eq_true rfl, Nat.le_of_ble_eq_true rfl⟩) rfl rfl rfl (Nat.le_of_ble_eq_true rfl) dL_cell_9 ⟨Nat.le_of_ble_eq_true rfl, Nat.le_of_ble_eq_true rfl⟩ (fun E1 hx1 => ?_) (fun rv1 wv1 hp1 => ?_)
  · skip
    obtain ⟨hc1, rfl⟩ | ⟨hc2, hc3, rfl⟩ := hx1
    · refine ⟨17, (ct_1 hE (by decide) (by decide) (C.ts (.classLink RL 13 "java/lang/IllegalArgumentException") (by decide +kernel)) hX.1.1.1), fun q9 => ?_⟩
      refine g_astore C [some (.ref (d 0)), some (.int p1), some (.int p2), some (.int p3), some (.int p4), some (.ref o), some (.ref q9)] dL_cell_17 (by decide) rfl rfl ?_
      refine g_iconst C 1 dL_cell_19 (by decide +kernel) ?_
      exact gx_I (g_iret C hret dL_cell_20 (Nat.le_of_ble_eq_true rfl) (Nat.le_of_ble_eq_true rfl) (Or.inr (Or.inl ⟨rfl, hc1, rfl⟩)))
    · refine ⟨21, (ct_2 hE (by decide) (C.ts (.classLink RL 13 "java/lang/IllegalArgumentException") (by decide +kernel)) hX.1.2.2.1.1 (by decide) (by decide) (C.ts (.classLink RL 15 "java/lang/IllegalStateException") (by decide +kernel)) hX.1.1.2.1), fun q9 => ?_⟩
      refine g_astore C [some (.ref (d 0)), some (.int p1), some (.int p2), some (.int p3), some (.int p4), some (.ref o), some (.ref q9)] dL_cell_21 (by decide) rfl rfl ?_
      refine g_iconst C 2 dL_cell_23 (by decide +kernel) ?_
      exact gx_I (g_iret C hret dL_cell_24 (Nat.le_of_ble_eq_true rfl) (Nat.le_of_ble_eq_true rfl) (Or.inr (Or.inr ⟨rfl, ⟨hc2, hc3⟩, rfl⟩)))
  · skip
    obtain ⟨hok, rfl, rfl⟩ := hp1
    refine g_i2l C (Int32.toInt64 (nI nc)) dL_cell_12 rfl ?_
    refine g_last C 0 2 rfl rfl 0 rfl (by omega) (by decide) (wO cJ o (vp_updL ot 0 (Int32.toInt64 (nI nc))) ++ ((wCo cI a b d mg pt bd tk ho ri lo fv hd lf la ++ wSo cI cW a b r2 hp rl cn be bw wo) ++ wL cI cZ cG a r (nc + 1) nw (upd cx nc p1) (upd cy nc p2) (upd ch nc p3) (upd rm nc p4) (upd on nc 1) wx wy dm sv mu qq)) rfl dL_cell_13 ?_
    refine g_goto C 25 dL_cell_14 (by decide) ?_
    refine g_iconst C 0 dL_cell_25 (by decide +kernel) ?_
    exact gx_I (g_iret C hret dL_cell_26 (Nat.le_of_ble_eq_true rfl) (Nat.le_of_ble_eq_true rfl) (Or.inl ⟨rfl, hok, rfl⟩))
set_option maxHeartbeats 1000000 in
set_option maxRecDepth 100000 in
theorem t_L_turn {l : Launch} (hl0 : l.stackTraces = false) {D : va_G} {cI cZ cJ cG cW : ClassId} {o : Nat} {ot : Nat → Int64} {a b d : Nat → Nat} {mg pt bd tk ho ri lo : Int32} {fv hd lf la : Nat → Int32} {r2 : Nat → Nat} {hp rl cn be : Nat → Int32} {bw : Int32} {wo : Nat → Nat → Int32} {r : Nat → Nat} {nc nw : Nat} {cx cy ch rm on wx wy dm sv mu : Nat → Int32} {qq : Nat → Nat → Int32} {p1 : Int32} (h5 : nc ≤ 5) (h6 : nw ≤ 6) : CxI l yL_turn wsL_turn 8 132 2 12 D (T5 cI cZ cJ cG cW) [.ref (d 0), .int p1, .ref o] (wO cJ o ot ++ ((wCo cI a b d mg pt bd tk ho ri lo fv hd lf la ++ wSo cI cW a b r2 hp rl cn be bw wo) ++ wL cI cZ cG a r nc nw cx cy ch rm on wx wy dm sv mu qq)) (fun rv wv => (rv = 0 ∧ IC nc p1 ∧ wv = (wO cJ o (vp_updL ot 0 (if ftn (on p1.toNatClampNeg) = 0 then 0 else 1)) ++ ((wCo cI a b d mg pt bd tk ho ri lo ((if on p1.toNatClampNeg = 0 then (sv, fv, hd) else frw p1 (sv, fv, hd) nw).2.1) ((if on p1.toNatClampNeg = 0 then (sv, fv, hd) else frw p1 (sv, fv, hd) nw).2.2) lf la ++ wSo cI cW a b r2 hp rl cn be bw wo) ++ wL cI cZ cG a r nc nw cx cy ch rm (upd on p1.toNatClampNeg (ftn (on p1.toNatClampNeg))) wx wy dm ((if on p1.toNatClampNeg = 0 then (sv, fv, hd) else frw p1 (sv, fv, hd) nw).1) mu qq))) ∨ (rv = 1 ∧ ¬ IC nc p1 ∧ wv = (wO cJ o ot ++ ((wCo cI a b d mg pt bd tk ho ri lo fv hd lf la ++ wSo cI cW a b r2 hp rl cn be bw wo) ++ wL cI cZ cG a r nc nw cx cy ch rm on wx wy dm sv mu qq)))) (fun Ev => False) := by
  refine cxI_ofH (cc := cL_turn) (maxL := 4) RL 1 [some (.ref (d 0)), some (.int p1), some (.ref o), none] (by decide +kernel) rfl rfl (Nat.le_of_ble_eq_true rfl) rfl (fun p_ e_ s_ m_ as_ bl_ me_ co_ C hret hE hX => ?_)
  refine g_aload_n C dL_turn_0 rfl ?_
  refine g_iconst C 0 dL_turn_1 (by decide +kernel) ?_
  refine g_aload_n C dL_turn_2 rfl ?_
  refine g_iload_n C dL_turn_3 rfl ?_
  refine gx_catchi C hX (wO cJ o ot) ((wCo cI a b d mg pt bd tk ho ri lo fv hd lf la ++ wSo cI cW a b r2 hp rl cn be bw wo) ++ wL cI cZ cG a r nc nw cx cy ch rm on wx wy dm sv mu qq) [.int p1] (t_X2_turn hl0 h5 h6) rfl rfl (cwV 1 C.ts gL_turn_X2_turn rfl rfl rfl (by decide +kernel) ⟨Nat.le_of_ble_eq_true rfl, Nat.le_of_ble_eq_true rfl⟩) rfl rfl rfl (Nat.le_of_ble_eq_true rfl) dL_turn_4 ⟨Nat.le_of_ble_eq_true rfl, Nat.le_of_ble_eq_true rfl⟩ (fun E1 hx1 => ?_) (fun rv1 wv1 hp1 => ?_)
  · skip
    obtain ⟨hc1, rfl⟩ := hx1
    · refine ⟨19, (ct_1 hE (by decide) (by decide) (C.ts (.classLink RL 21 "java/lang/IndexOutOfBoundsException") (by decide +kernel)) hX.1.1.2.2), fun q9 => ?_⟩
      refine g_astore_n C [some (.ref (d 0)), some (.int p1), some (.ref o), some (.ref q9)] dL_turn_19 (by decide) rfl rfl ?_
      refine g_iconst C 1 dL_turn_20 (by decide +kernel) ?_
      exact gx_I (g_iret C hret dL_turn_21 (Nat.le_of_ble_eq_true rfl) (Nat.le_of_ble_eq_true rfl) (Or.inr ⟨rfl, hc1, rfl⟩))
  · skip
    obtain ⟨hok, rfl, rfl⟩ := hp1
    refine g_if_eq C 14 dL_turn_7 (by decide) (fun c_7 => ?_) (fun c_7 => ?_)
    · skip
      refine g_lconst C 0 dL_turn_14 (by decide +kernel) ?_
      refine g_last C 0 2 rfl rfl 0 rfl (by omega) (by decide) (wO cJ o (vp_updL ot 0 0) ++ ((wCo cI a b d mg pt bd tk ho ri lo ((if on p1.toNatClampNeg = 0 then (sv, fv, hd) else frw p1 (sv, fv, hd) nw).2.1) ((if on p1.toNatClampNeg = 0 then (sv, fv, hd) else frw p1 (sv, fv, hd) nw).2.2) lf la ++ wSo cI cW a b r2 hp rl cn be bw wo) ++ wL cI cZ cG a r nc nw cx cy ch rm (upd on p1.toNatClampNeg (ftn (on p1.toNatClampNeg))) wx wy dm ((if on p1.toNatClampNeg = 0 then (sv, fv, hd) else frw p1 (sv, fv, hd) nw).1) mu qq)) rfl dL_turn_15 ?_
      refine g_goto C 22 dL_turn_16 (by decide) ?_
      refine g_iconst C 0 dL_turn_22 (by decide +kernel) ?_
      exact gx_I (g_iret C hret dL_turn_23 (Nat.le_of_ble_eq_true rfl) (Nat.le_of_ble_eq_true rfl) (Or.inl ⟨rfl, hok, by rw [if_pos c_7]⟩))
    · skip
      refine g_lconst C 1 dL_turn_10 (by decide +kernel) ?_
      refine g_goto C 15 dL_turn_11 (by decide) ?_
      refine g_last C 0 2 rfl rfl 0 rfl (by omega) (by decide) (wO cJ o (vp_updL ot 0 1) ++ ((wCo cI a b d mg pt bd tk ho ri lo ((if on p1.toNatClampNeg = 0 then (sv, fv, hd) else frw p1 (sv, fv, hd) nw).2.1) ((if on p1.toNatClampNeg = 0 then (sv, fv, hd) else frw p1 (sv, fv, hd) nw).2.2) lf la ++ wSo cI cW a b r2 hp rl cn be bw wo) ++ wL cI cZ cG a r nc nw cx cy ch rm (upd on p1.toNatClampNeg (ftn (on p1.toNatClampNeg))) wx wy dm ((if on p1.toNatClampNeg = 0 then (sv, fv, hd) else frw p1 (sv, fv, hd) nw).1) mu qq)) rfl dL_turn_15 ?_
      refine g_goto C 22 dL_turn_16 (by decide) ?_
      refine g_iconst C 0 dL_turn_22 (by decide +kernel) ?_
      exact gx_I (g_iret C hret dL_turn_23 (Nat.le_of_ble_eq_true rfl) (Nat.le_of_ble_eq_true rfl) (Or.inl ⟨rfl, hok, by rw [if_neg c_7]⟩))
set_option maxHeartbeats 1000000 in
set_option maxRecDepth 100000 in
theorem t_L_tune {l : Launch} (hl0 : l.stackTraces = false) {D : va_G} {cI cZ cJ cG cW : ClassId} {o : Nat} {ot : Nat → Int64} {a b d : Nat → Nat} {mg pt bd tk ho ri lo : Int32} {fv hd lf la : Nat → Int32} {r2 : Nat → Nat} {hp rl cn be : Nat → Int32} {bw : Int32} {wo : Nat → Nat → Int32} {r : Nat → Nat} {nc nw : Nat} {cx cy ch rm on wx wy dm sv mu : Nat → Int32} {qq : Nat → Nat → Int32} {p1 p2 : Int32} (h5 : nc ≤ 5) : CxI l yL_tune wsL_tune 8 136 4 24 D (T5 cI cZ cJ cG cW) [.ref (d 0), .int p1, .int p2, .ref o] (wO cJ o ot ++ ((wCo cI a b d mg pt bd tk ho ri lo fv hd lf la ++ wSo cI cW a b r2 hp rl cn be bw wo) ++ wL cI cZ cG a r nc nw cx cy ch rm on wx wy dm sv mu qq)) (fun rv wv => (rv = 0 ∧ (IC nc p1 ∧ (0 ≤ p2 ∧ p2 ≤ 2)) ∧ wv = (wO cJ o (vp_updL ot 0 (Int32.toInt64 (ch p1.toNatClampNeg))) ++ ((wCo cI a b d mg pt bd tk ho ri lo fv hd lf la ++ wSo cI cW a b r2 hp rl cn be bw wo) ++ wL cI cZ cG a r nc nw cx cy (upd ch p1.toNatClampNeg p2) rm on wx wy dm sv mu qq))) ∨ (rv = 1 ∧ ¬ IC nc p1 ∧ wv = (wO cJ o ot ++ ((wCo cI a b d mg pt bd tk ho ri lo fv hd lf la ++ wSo cI cW a b r2 hp rl cn be bw wo) ++ wL cI cZ cG a r nc nw cx cy ch rm on wx wy dm sv mu qq))) ∨ (rv = 2 ∧ (IC nc p1 ∧ ¬ (0 ≤ p2 ∧ p2 ≤ 2)) ∧ wv = (wO cJ o ot ++ ((wCo cI a b d mg pt bd tk ho ri lo fv hd lf la ++ wSo cI cW a b r2 hp rl cn be bw wo) ++ wL cI cZ cG a r nc nw cx cy ch rm on wx wy dm sv mu qq)))) (fun Ev => False) := by
  refine cxI_ofH (cc := cL_tune) (maxL := 5) RL 1 [some (.ref (d 0)), some (.int p1), some (.int p2), some (.ref o), none] (by decide +kernel) rfl rfl (Nat.le_of_ble_eq_true rfl) rfl (fun p_ e_ s_ m_ as_ bl_ me_ co_ C hret hE hX => ?_)
  refine g_aload_n C dL_tune_0 rfl ?_
  refine g_iconst C 0 dL_tune_1 (by decide +kernel) ?_
  refine g_aload_n C dL_tune_2 rfl ?_
  refine g_iload_n C dL_tune_3 rfl ?_
  refine g_iload_n C dL_tune_4 rfl ?_
  refine gx_catchi C hX (wO cJ o ot) ((wCo cI a b d mg pt bd tk ho ri lo fv hd lf la ++ wSo cI cW a b r2 hp rl cn be bw wo) ++ wL cI cZ cG a r nc nw cx cy ch rm on wx wy dm sv mu qq) [.int p1, .int p2] (t_X2_tune hl0 h5) rfl rfl (cwV 2 C.ts gL_tune_X2_tune rfl rfl rfl (by decide +kernel) ⟨Nat.le_of_ble_eq_true rfl, Nat.le_of_ble_eq_true rfl⟩) rfl rfl rfl (Nat.le_of_ble_eq_true rfl) dL_tune_5 ⟨Nat.le_of_ble_eq_true rfl, Nat.le_of_ble_eq_true rfl⟩ (fun E1 hx1 => ?_) (fun rv1 wv1 hp1 => ?_)
  · skip
    obtain ⟨hc1, rfl⟩ | ⟨hc2, hc3, rfl⟩ := hx1
    · refine ⟨13, (ct_1 hE (by decide) (by decide) (C.ts (.classLink RL 21 "java/lang/IndexOutOfBoundsException") (by decide +kernel)) hX.1.1.2.2), fun q9 => ?_⟩
      refine g_astore C [some (.ref (d 0)), some (.int p1), some (.int p2), some (.ref o), some (.ref q9)] dL_tune_13 (by decide) rfl rfl ?_
      refine g_iconst C 1 dL_tune_15 (by decide +kernel) ?_
      exact gx_I (g_iret C hret dL_tune_16 (Nat.le_of_ble_eq_true rfl) (Nat.le_of_ble_eq_true rfl) (Or.inr (Or.inl ⟨rfl, hc1, rfl⟩)))
    · refine ⟨17, (ct_2 hE (by decide) (C.ts (.classLink RL 21 "java/lang/IndexOutOfBoundsException") (by decide +kernel)) hX.1.2.2.1.2 (by decide) (by decide) (C.ts (.classLink RL 13 "java/lang/IllegalArgumentException") (by decide +kernel)) hX.1.1.1), fun q9 => ?_⟩
      refine g_astore C [some (.ref (d 0)), some (.int p1), some (.int p2), some (.ref o), some (.ref q9)] dL_tune_17 (by decide) rfl rfl ?_
      refine g_iconst C 2 dL_tune_19 (by decide +kernel) ?_
      exact gx_I (g_iret C hret dL_tune_20 (Nat.le_of_ble_eq_true rfl) (Nat.le_of_ble_eq_true rfl) (Or.inr (Or.inr ⟨rfl, ⟨hc2, hc3⟩, rfl⟩)))
  · skip
    obtain ⟨hok, rfl, rfl⟩ := hp1
    refine g_i2l C (Int32.toInt64 (ch p1.toNatClampNeg)) dL_tune_8 rfl ?_
    refine g_last C 0 2 rfl rfl 0 rfl (by omega) (by decide) (wO cJ o (vp_updL ot 0 (Int32.toInt64 (ch p1.toNatClampNeg))) ++ ((wCo cI a b d mg pt bd tk ho ri lo fv hd lf la ++ wSo cI cW a b r2 hp rl cn be bw wo) ++ wL cI cZ cG a r nc nw cx cy (upd ch p1.toNatClampNeg p2) rm on wx wy dm sv mu qq)) rfl dL_tune_9 ?_
    refine g_goto C 21 dL_tune_10 (by decide) ?_
    refine g_iconst C 0 dL_tune_21 (by decide +kernel) ?_
    exact gx_I (g_iret C hret dL_tune_22 (Nat.le_of_ble_eq_true rfl) (Nat.le_of_ble_eq_true rfl) (Or.inl ⟨rfl, hok, rfl⟩))
set_option maxHeartbeats 1000000 in
set_option maxRecDepth 100000 in
theorem t_L_walker {l : Launch} (hl0 : l.stackTraces = false) {D : va_G} {cI cZ cJ cG cW : ClassId} {o : Nat} {ot : Nat → Int64} {a b d : Nat → Nat} {mg pt bd tk ho ri lo : Int32} {fv hd lf la : Nat → Int32} {r2 : Nat → Nat} {hp rl cn be : Nat → Int32} {bw : Int32} {wo : Nat → Nat → Int32} {r : Nat → Nat} {nc nw : Nat} {cx cy ch rm on wx wy dm sv mu : Nat → Int32} {qq : Nat → Nat → Int32} {p1 p2 p3 : Int32} (h6 : nw ≤ 6) : CxI l yL_walker wsL_walker 8 137 7 42 D (T5 cI cZ cJ cG cW) [.ref (d 0), .int p1, .int p2, .int p3, .ref o] (wO cJ o ot ++ ((wCo cI a b d mg pt bd tk ho ri lo fv hd lf la ++ wSo cI cW a b r2 hp rl cn be bw wo) ++ wL cI cZ cG a r nc nw cx cy ch rm on wx wy dm sv mu qq)) (fun rv wv => (rv = 0 ∧ (inW p1 p2 p3 ∧ nw < 6) ∧ wv = (wO cJ o (vp_updL ot 0 (Int32.toInt64 (nI nw))) ++ ((wCo cI a b d mg pt bd tk ho ri lo (upd fv nw (-1)) (upd hd nw 0) (upd lf nw (-1)) la ++ wSo cI cW a b r2 hp rl cn be bw wo) ++ wL cI cZ cG a r nc (nw + 1) cx cy ch rm on (upd wx nw p1) (upd wy nw p2) (upd dm nw p3) (upd sv nw (-1)) mu qq))) ∨ (rv = 1 ∧ ¬ inW p1 p2 p3 ∧ wv = (wO cJ o ot ++ ((wCo cI a b d mg pt bd tk ho ri lo fv hd lf la ++ wSo cI cW a b r2 hp rl cn be bw wo) ++ wL cI cZ cG a r nc nw cx cy ch rm on wx wy dm sv mu qq))) ∨ (rv = 2 ∧ (inW p1 p2 p3 ∧ ¬ nw < 6) ∧ wv = (wO cJ o ot ++ ((wCo cI a b d mg pt bd tk ho ri lo fv hd lf la ++ wSo cI cW a b r2 hp rl cn be bw wo) ++ wL cI cZ cG a r nc nw cx cy ch rm on wx wy dm sv mu qq)))) (fun Ev => False) := by
  refine cxI_ofH (cc := cL_walker) (maxL := 6) RL 1 [some (.ref (d 0)), some (.int p1), some (.int p2), some (.int p3), some (.ref o), none] (by decide +kernel) rfl rfl (Nat.le_of_ble_eq_true rfl) rfl (fun p_ e_ s_ m_ as_ bl_ me_ co_ C hret hE hX => ?_)
  refine g_aload C dL_walker_0 rfl ?_
  refine g_iconst C 0 dL_walker_2 (by decide +kernel) ?_
  refine g_aload_n C dL_walker_3 rfl ?_
  refine g_iload_n C dL_walker_4 rfl ?_
  refine g_iload_n C dL_walker_5 rfl ?_
  refine g_iload_n C dL_walker_6 rfl ?_
  refine gx_catchi C hX (wO cJ o ot) ((wCo cI a b d mg pt bd tk ho ri lo fv hd lf la ++ wSo cI cW a b r2 hp rl cn be bw wo) ++ wL cI cZ cG a r nc nw cx cy ch rm on wx wy dm sv mu qq) [.int p1, .int p2, .int p3] (t_X2_walker hl0 h6) rfl rfl (cwV 3 C.ts gL_walker_X2_walker rfl rfl rfl (by decide +kernel) ⟨Nat.le_of_ble_eq_true rfl, Nat.le_of_ble_eq_true rfl⟩) rfl rfl rfl (Nat.le_of_ble_eq_true rfl) dL_walker_7 ⟨Nat.le_of_ble_eq_true rfl, Nat.le_of_ble_eq_true rfl⟩ (fun E1 hx1 => ?_) (fun rv1 wv1 hp1 => ?_)
  · skip
    obtain ⟨hc1, rfl⟩ | ⟨hc2, hc3, rfl⟩ := hx1
    · refine ⟨15, (ct_1 hE (by decide) (by decide) (C.ts (.classLink RL 13 "java/lang/IllegalArgumentException") (by decide +kernel)) hX.1.1.1), fun q9 => ?_⟩
      refine g_astore C [some (.ref (d 0)), some (.int p1), some (.int p2), some (.int p3), some (.ref o), some (.ref q9)] dL_walker_15 (by decide) rfl rfl ?_
      refine g_iconst C 1 dL_walker_17 (by decide +kernel) ?_
      exact gx_I (g_iret C hret dL_walker_18 (Nat.le_of_ble_eq_true rfl) (Nat.le_of_ble_eq_true rfl) (Or.inr (Or.inl ⟨rfl, hc1, rfl⟩)))
    · refine ⟨19, (ct_2 hE (by decide) (C.ts (.classLink RL 13 "java/lang/IllegalArgumentException") (by decide +kernel)) hX.1.2.2.1.1 (by decide) (by decide) (C.ts (.classLink RL 15 "java/lang/IllegalStateException") (by decide +kernel)) hX.1.1.2.1), fun q9 => ?_⟩
      refine g_astore C [some (.ref (d 0)), some (.int p1), some (.int p2), some (.int p3), some (.ref o), some (.ref q9)] dL_walker_19 (by decide) rfl rfl ?_
      refine g_iconst C 2 dL_walker_21 (by decide +kernel) ?_
      exact gx_I (g_iret C hret dL_walker_22 (Nat.le_of_ble_eq_true rfl) (Nat.le_of_ble_eq_true rfl) (Or.inr (Or.inr ⟨rfl, ⟨hc2, hc3⟩, rfl⟩)))
  · skip
    obtain ⟨hok, rfl, rfl⟩ := hp1
    refine g_i2l C (Int32.toInt64 (nI nw)) dL_walker_10 rfl ?_
    refine g_last C 0 2 rfl rfl 0 rfl (by omega) (by decide) (wO cJ o (vp_updL ot 0 (Int32.toInt64 (nI nw))) ++ ((wCo cI a b d mg pt bd tk ho ri lo (upd fv nw (-1)) (upd hd nw 0) (upd lf nw (-1)) la ++ wSo cI cW a b r2 hp rl cn be bw wo) ++ wL cI cZ cG a r nc (nw + 1) cx cy ch rm on (upd wx nw p1) (upd wy nw p2) (upd dm nw p3) (upd sv nw (-1)) mu qq)) rfl dL_walker_11 ?_
    refine g_goto C 23 dL_walker_12 (by decide) ?_
    refine g_iconst C 0 dL_walker_23 (by decide +kernel) ?_
    exact gx_I (g_iret C hret dL_walker_24 (Nat.le_of_ble_eq_true rfl) (Nat.le_of_ble_eq_true rfl) (Or.inl ⟨rfl, hok, rfl⟩))
set_option maxHeartbeats 1000000 in
set_option maxRecDepth 100000 in
theorem t_L_move {l : Launch} (hl0 : l.stackTraces = false) {D : va_G} {cI cZ cJ cG cW : ClassId} {o : Nat} {ot : Nat → Int64} {a b d : Nat → Nat} {mg pt bd tk ho ri lo : Int32} {fv hd lf la : Nat → Int32} {r2 : Nat → Nat} {hp rl cn be : Nat → Int32} {bw : Int32} {wo : Nat → Nat → Int32} {r : Nat → Nat} {nc nw : Nat} {cx cy ch rm on wx wy dm sv mu : Nat → Int32} {qq : Nat → Nat → Int32} {p1 p2 p3 : Int32} (h6 : nw ≤ 6) : CxI l yL_move wsL_move 8 140 6 36 D (T5 cI cZ cJ cG cW) [.ref (d 0), .int p1, .int p2, .int p3] (wO cJ o ot ++ ((wCo cI a b d mg pt bd tk ho ri lo fv hd lf la ++ wSo cI cW a b r2 hp rl cn be bw wo) ++ wL cI cZ cG a r nc nw cx cy ch rm on wx wy dm sv mu qq)) (fun rv wv => (rv = 0 ∧ (IC nw p1 ∧ rng (mvx wx p1 p2) 0 63 ∧ rng (mvx wy p1 p3) 0 63) ∧ wv = (wO cJ o ot ++ ((wCo cI a b d mg pt bd tk ho ri lo fv hd lf la ++ wSo cI cW a b r2 hp rl cn be bw wo) ++ wL cI cZ cG a r nc nw cx cy ch rm on (upd wx p1.toNatClampNeg (mvx wx p1 p2).toInt32) (upd wy p1.toNatClampNeg (mvx wy p1 p3).toInt32) dm sv mu qq))) ∨ (rv = 1 ∧ ¬ IC nw p1 ∧ wv = (wO cJ o ot ++ ((wCo cI a b d mg pt bd tk ho ri lo fv hd lf la ++ wSo cI cW a b r2 hp rl cn be bw wo) ++ wL cI cZ cG a r nc nw cx cy ch rm on wx wy dm sv mu qq))) ∨ (rv = 2 ∧ (IC nw p1 ∧ ¬ (rng (mvx wx p1 p2) 0 63 ∧ rng (mvx wy p1 p3) 0 63)) ∧ wv = (wO cJ o ot ++ ((wCo cI a b d mg pt bd tk ho ri lo fv hd lf la ++ wSo cI cW a b r2 hp rl cn be bw wo) ++ wL cI cZ cG a r nc nw cx cy ch rm on wx wy dm sv mu qq)))) (fun Ev => False) := by
  refine cxI_ofH (cc := cL_move) (maxL := 5) RL 1 [some (.ref (d 0)), some (.int p1), some (.int p2), some (.int p3), none] (by decide +kernel) rfl rfl (Nat.le_of_ble_eq_true rfl) rfl (fun p_ e_ s_ m_ as_ bl_ me_ co_ C hret hE hX => ?_)
  refine g_aload_n C dL_move_0 rfl ?_
  refine g_iload_n C dL_move_1 rfl ?_
  refine g_iload_n C dL_move_2 rfl ?_
  refine g_iload_n C dL_move_3 rfl ?_
  refine gx_catchv C hX (wO cJ o ot) ((wCo cI a b d mg pt bd tk ho ri lo fv hd lf la ++ wSo cI cW a b r2 hp rl cn be bw wo) ++ wL cI cZ cG a r nc nw cx cy ch rm on wx wy dm sv mu qq) [.int p1, .int p2, .int p3] (t_X2_move hl0 h6) rfl rfl (cwV 3 C.ts gL_move_X2_move rfl rfl rfl (by decide +kernel) ⟨Nat.le_of_ble_eq_true rfl, Nat.le_of_ble_eq_true rfl⟩) rfl rfl rfl (Nat.le_of_ble_eq_true rfl) dL_move_4 ⟨Nat.le_of_ble_eq_true rfl, Nat.le_of_ble_eq_true rfl⟩ (fun E1 hx1 => ?_) (fun wv1 tv1 hp1 => ?_)
  · skip
    obtain ⟨hc1, rfl⟩ | ⟨hc2, hc3, rfl⟩ := hx1
    · refine ⟨10, (ct_1 hE (by decide) (by decide) (C.ts (.classLink RL 21 "java/lang/IndexOutOfBoundsException") (by decide +kernel)) hX.1.1.2.2), fun q9 => ?_⟩
      refine g_astore C [some (.ref (d 0)), some (.int p1), some (.int p2), some (.int p3), some (.ref q9)] dL_move_10 (by decide) rfl rfl ?_
      refine g_iconst C 1 dL_move_12 (by decide +kernel) ?_
      exact gx_I (g_iret C hret dL_move_13 (Nat.le_of_ble_eq_true rfl) (Nat.le_of_ble_eq_true rfl) (Or.inr (Or.inl ⟨rfl, hc1, rfl⟩)))
    · refine ⟨14, (ct_2 hE (by decide) (C.ts (.classLink RL 21 "java/lang/IndexOutOfBoundsException") (by decide +kernel)) hX.1.2.2.1.2 (by decide) (by decide) (C.ts (.classLink RL 13 "java/lang/IllegalArgumentException") (by decide +kernel)) hX.1.1.1), fun q9 => ?_⟩
      refine g_astore C [some (.ref (d 0)), some (.int p1), some (.int p2), some (.int p3), some (.ref q9)] dL_move_14 (by decide) rfl rfl ?_
      refine g_iconst C 2 dL_move_16 (by decide +kernel) ?_
      exact gx_I (g_iret C hret dL_move_17 (Nat.le_of_ble_eq_true rfl) (Nat.le_of_ble_eq_true rfl) (Or.inr (Or.inr ⟨rfl, ⟨hc2, hc3⟩, rfl⟩)))
  · skip
    obtain ⟨hok, rfl, rfl⟩ := hp1
    refine g_goto C 18 dL_move_7 (by decide) ?_
    refine g_iconst C 0 dL_move_18 (by decide +kernel) ?_
    exact gx_I (g_iret C hret dL_move_19 (Nat.le_of_ble_eq_true rfl) (Nat.le_of_ble_eq_true rfl) (Or.inl ⟨rfl, hok, rfl⟩))
set_option maxHeartbeats 1000000 in
set_option maxRecDepth 100000 in
theorem t_L_margin {l : Launch} (hl0 : l.stackTraces = false) {D : va_G} {cI cZ cJ cG cW : ClassId} {o : Nat} {ot : Nat → Int64} {a b d : Nat → Nat} {mg pt bd tk ho ri lo : Int32} {fv hd lf la : Nat → Int32} {r2 : Nat → Nat} {hp rl cn be : Nat → Int32} {bw : Int32} {wo : Nat → Nat → Int32} {r : Nat → Nat} {nc nw : Nat} {cx cy ch rm on wx wy dm sv mu : Nat → Int32} {qq : Nat → Nat → Int32} {p1 : Int32}  : CxI l yL_margin wsL_margin 8 135 2 12 D (T5 cI cZ cJ cG cW) [.ref (d 0), .int p1, .ref o] (wO cJ o ot ++ ((wCo cI a b d mg pt bd tk ho ri lo fv hd lf la ++ wSo cI cW a b r2 hp rl cn be bw wo) ++ wL cI cZ cG a r nc nw cx cy ch rm on wx wy dm sv mu qq)) (fun rv wv => (rv = 0 ∧ (0 ≤ p1 ∧ p1 ≤ 1000) ∧ wv = (wO cJ o (vp_updL ot 0 (Int32.toInt64 mg)) ++ ((wCo cI a b d p1 pt bd tk ho ri lo fv hd lf la ++ wSo cI cW a b r2 hp rl cn be bw wo) ++ wL cI cZ cG a r nc nw cx cy ch rm on wx wy dm sv mu qq))) ∨ (rv = 1 ∧ ¬ ((0 ≤ p1 ∧ p1 ≤ 1000)) ∧ wv = (wO cJ o ot ++ ((wCo cI a b d mg pt bd tk ho ri lo fv hd lf la ++ wSo cI cW a b r2 hp rl cn be bw wo) ++ wL cI cZ cG a r nc nw cx cy ch rm on wx wy dm sv mu qq)))) (fun Ev => False) := by
  refine cxI_ofH (cc := cL_margin) (maxL := 4) RL 1 [some (.ref (d 0)), some (.int p1), some (.ref o), none] (by decide +kernel) rfl rfl (Nat.le_of_ble_eq_true rfl) rfl (fun p_ e_ s_ m_ as_ bl_ me_ co_ C hret hE hX => ?_)
  refine g_aload_n C dL_margin_0 rfl ?_
  refine g_iconst C 0 dL_margin_1 (by decide +kernel) ?_
  refine g_aload_n C dL_margin_2 rfl ?_
  refine g_iload_n C dL_margin_3 rfl ?_
  refine gx_catchi C hX (wO cJ o ot) ((wCo cI a b d mg pt bd tk ho ri lo fv hd lf la ++ wSo cI cW a b r2 hp rl cn be bw wo) ++ wL cI cZ cG a r nc nw cx cy ch rm on wx wy dm sv mu qq) [.int p1] (t_X2_margin hl0) rfl rfl (cwV 1 C.ts gL_margin_X2_margin rfl rfl rfl (by decide +kernel) ⟨Nat.le_of_ble_eq_true rfl, Nat.le_of_ble_eq_true rfl⟩) rfl rfl rfl (Nat.le_of_ble_eq_true rfl) dL_margin_4 ⟨Nat.le_of_ble_eq_true rfl, Nat.le_of_ble_eq_true rfl⟩ (fun E1 hx1 => ?_) (fun rv1 wv1 hp1 => ?_)
  · skip
    obtain ⟨hc1, rfl⟩ := hx1
    · refine ⟨12, (ct_1 hE (by decide) (by decide) (C.ts (.classLink RL 13 "java/lang/IllegalArgumentException") (by decide +kernel)) hX.1.1.1), fun q9 => ?_⟩
      refine g_astore_n C [some (.ref (d 0)), some (.int p1), some (.ref o), some (.ref q9)] dL_margin_12 (by decide) rfl rfl ?_
      refine g_iconst C 1 dL_margin_13 (by decide +kernel) ?_
      exact gx_I (g_iret C hret dL_margin_14 (Nat.le_of_ble_eq_true rfl) (Nat.le_of_ble_eq_true rfl) (Or.inr ⟨rfl, hc1, rfl⟩))
  · skip
    obtain ⟨hok, hr9, rfl⟩ := hp1
    have hr9 := hr9.symm
    subst hr9
    refine g_i2l C (Int32.toInt64 mg) dL_margin_7 rfl ?_
    refine g_last C 0 2 rfl rfl 0 rfl (by omega) (by decide) (wO cJ o (vp_updL ot 0 (Int32.toInt64 mg)) ++ ((wCo cI a b d p1 pt bd tk ho ri lo fv hd lf la ++ wSo cI cW a b r2 hp rl cn be bw wo) ++ wL cI cZ cG a r nc nw cx cy ch rm on wx wy dm sv mu qq)) rfl dL_margin_8 ?_
    refine g_goto C 15 dL_margin_9 (by decide) ?_
    refine g_iconst C 0 dL_margin_15 (by decide +kernel) ?_
    exact gx_I (g_iret C hret dL_margin_16 (Nat.le_of_ble_eq_true rfl) (Nat.le_of_ble_eq_true rfl) (Or.inl ⟨rfl, hok, rfl⟩))
set_option maxHeartbeats 1000000 in
set_option maxRecDepth 100000 in
theorem t_L_patience {l : Launch} (hl0 : l.stackTraces = false) {D : va_G} {cI cZ cJ cG cW : ClassId} {o : Nat} {ot : Nat → Int64} {a b d : Nat → Nat} {mg pt bd tk ho ri lo : Int32} {fv hd lf la : Nat → Int32} {r2 : Nat → Nat} {hp rl cn be : Nat → Int32} {bw : Int32} {wo : Nat → Nat → Int32} {r : Nat → Nat} {nc nw : Nat} {cx cy ch rm on wx wy dm sv mu : Nat → Int32} {qq : Nat → Nat → Int32} {p1 : Int32}  : CxI l yL_patience wsL_patience 8 135 2 12 D (T5 cI cZ cJ cG cW) [.ref (d 0), .int p1, .ref o] (wO cJ o ot ++ ((wCo cI a b d mg pt bd tk ho ri lo fv hd lf la ++ wSo cI cW a b r2 hp rl cn be bw wo) ++ wL cI cZ cG a r nc nw cx cy ch rm on wx wy dm sv mu qq)) (fun rv wv => (rv = 0 ∧ (1 ≤ p1 ∧ p1 ≤ 10) ∧ wv = (wO cJ o (vp_updL ot 0 (Int32.toInt64 pt)) ++ ((wCo cI a b d mg p1 bd tk ho ri lo fv hd lf la ++ wSo cI cW a b r2 hp rl cn be bw wo) ++ wL cI cZ cG a r nc nw cx cy ch rm on wx wy dm sv mu qq))) ∨ (rv = 1 ∧ ¬ ((1 ≤ p1 ∧ p1 ≤ 10)) ∧ wv = (wO cJ o ot ++ ((wCo cI a b d mg pt bd tk ho ri lo fv hd lf la ++ wSo cI cW a b r2 hp rl cn be bw wo) ++ wL cI cZ cG a r nc nw cx cy ch rm on wx wy dm sv mu qq)))) (fun Ev => False) := by
  refine cxI_ofH (cc := cL_patience) (maxL := 4) RL 1 [some (.ref (d 0)), some (.int p1), some (.ref o), none] (by decide +kernel) rfl rfl (Nat.le_of_ble_eq_true rfl) rfl (fun p_ e_ s_ m_ as_ bl_ me_ co_ C hret hE hX => ?_)
  refine g_aload_n C dL_patience_0 rfl ?_
  refine g_iconst C 0 dL_patience_1 (by decide +kernel) ?_
  refine g_aload_n C dL_patience_2 rfl ?_
  refine g_iload_n C dL_patience_3 rfl ?_
  refine gx_catchi C hX (wO cJ o ot) ((wCo cI a b d mg pt bd tk ho ri lo fv hd lf la ++ wSo cI cW a b r2 hp rl cn be bw wo) ++ wL cI cZ cG a r nc nw cx cy ch rm on wx wy dm sv mu qq) [.int p1] (t_X2_patience hl0) rfl rfl (cwV 1 C.ts gL_patience_X2_patience rfl rfl rfl (by decide +kernel) ⟨Nat.le_of_ble_eq_true rfl, Nat.le_of_ble_eq_true rfl⟩) rfl rfl rfl (Nat.le_of_ble_eq_true rfl) dL_patience_4 ⟨Nat.le_of_ble_eq_true rfl, Nat.le_of_ble_eq_true rfl⟩ (fun E1 hx1 => ?_) (fun rv1 wv1 hp1 => ?_)
  · skip
    obtain ⟨hc1, rfl⟩ := hx1
    · refine ⟨12, (ct_1 hE (by decide) (by decide) (C.ts (.classLink RL 13 "java/lang/IllegalArgumentException") (by decide +kernel)) hX.1.1.1), fun q9 => ?_⟩
      refine g_astore_n C [some (.ref (d 0)), some (.int p1), some (.ref o), some (.ref q9)] dL_patience_12 (by decide) rfl rfl ?_
      refine g_iconst C 1 dL_patience_13 (by decide +kernel) ?_
      exact gx_I (g_iret C hret dL_patience_14 (Nat.le_of_ble_eq_true rfl) (Nat.le_of_ble_eq_true rfl) (Or.inr ⟨rfl, hc1, rfl⟩))
  · skip
    obtain ⟨hok, hr9, rfl⟩ := hp1
    have hr9 := hr9.symm
    subst hr9
    refine g_i2l C (Int32.toInt64 pt) dL_patience_7 rfl ?_
    refine g_last C 0 2 rfl rfl 0 rfl (by omega) (by decide) (wO cJ o (vp_updL ot 0 (Int32.toInt64 pt)) ++ ((wCo cI a b d mg p1 bd tk ho ri lo fv hd lf la ++ wSo cI cW a b r2 hp rl cn be bw wo) ++ wL cI cZ cG a r nc nw cx cy ch rm on wx wy dm sv mu qq)) rfl dL_patience_8 ?_
    refine g_goto C 15 dL_patience_9 (by decide) ?_
    refine g_iconst C 0 dL_patience_15 (by decide +kernel) ?_
    exact gx_I (g_iret C hret dL_patience_16 (Nat.le_of_ble_eq_true rfl) (Nat.le_of_ble_eq_true rfl) (Or.inl ⟨rfl, hok, rfl⟩))
set_option maxHeartbeats 1000000 in
set_option maxRecDepth 100000 in
theorem t_L_bound {l : Launch} (hl0 : l.stackTraces = false) {D : va_G} {cI cZ cJ cG cW : ClassId} {o : Nat} {ot : Nat → Int64} {a b d : Nat → Nat} {mg pt bd tk ho ri lo : Int32} {fv hd lf la : Nat → Int32} {r2 : Nat → Nat} {hp rl cn be : Nat → Int32} {bw : Int32} {wo : Nat → Nat → Int32} {r : Nat → Nat} {nc nw : Nat} {cx cy ch rm on wx wy dm sv mu : Nat → Int32} {qq : Nat → Nat → Int32} {p1 : Int32}  : CxI l yL_bound wsL_bound 8 135 2 12 D (T5 cI cZ cJ cG cW) [.ref (d 0), .int p1, .ref o] (wO cJ o ot ++ ((wCo cI a b d mg pt bd tk ho ri lo fv hd lf la ++ wSo cI cW a b r2 hp rl cn be bw wo) ++ wL cI cZ cG a r nc nw cx cy ch rm on wx wy dm sv mu qq)) (fun rv wv => (rv = 0 ∧ (1 ≤ p1 ∧ p1 ≤ 10000) ∧ wv = (wO cJ o (vp_updL ot 0 (Int32.toInt64 bd)) ++ ((wCo cI a b d mg pt p1 tk ho ri lo fv hd lf la ++ wSo cI cW a b r2 hp rl cn be bw wo) ++ wL cI cZ cG a r nc nw cx cy ch rm on wx wy dm sv mu qq))) ∨ (rv = 1 ∧ ¬ ((1 ≤ p1 ∧ p1 ≤ 10000)) ∧ wv = (wO cJ o ot ++ ((wCo cI a b d mg pt bd tk ho ri lo fv hd lf la ++ wSo cI cW a b r2 hp rl cn be bw wo) ++ wL cI cZ cG a r nc nw cx cy ch rm on wx wy dm sv mu qq)))) (fun Ev => False) := by
  refine cxI_ofH (cc := cL_bound) (maxL := 4) RL 1 [some (.ref (d 0)), some (.int p1), some (.ref o), none] (by decide +kernel) rfl rfl (Nat.le_of_ble_eq_true rfl) rfl (fun p_ e_ s_ m_ as_ bl_ me_ co_ C hret hE hX => ?_)
  refine g_aload_n C dL_bound_0 rfl ?_
  refine g_iconst C 0 dL_bound_1 (by decide +kernel) ?_
  refine g_aload_n C dL_bound_2 rfl ?_
  refine g_iload_n C dL_bound_3 rfl ?_
  refine gx_catchi C hX (wO cJ o ot) ((wCo cI a b d mg pt bd tk ho ri lo fv hd lf la ++ wSo cI cW a b r2 hp rl cn be bw wo) ++ wL cI cZ cG a r nc nw cx cy ch rm on wx wy dm sv mu qq) [.int p1] (t_X2_bound hl0) rfl rfl (cwV 1 C.ts gL_bound_X2_bound rfl rfl rfl (by decide +kernel) ⟨Nat.le_of_ble_eq_true rfl, Nat.le_of_ble_eq_true rfl⟩) rfl rfl rfl (Nat.le_of_ble_eq_true rfl) dL_bound_4 ⟨Nat.le_of_ble_eq_true rfl, Nat.le_of_ble_eq_true rfl⟩ (fun E1 hx1 => ?_) (fun rv1 wv1 hp1 => ?_)
  · skip
    obtain ⟨hc1, rfl⟩ := hx1
    · refine ⟨12, (ct_1 hE (by decide) (by decide) (C.ts (.classLink RL 13 "java/lang/IllegalArgumentException") (by decide +kernel)) hX.1.1.1), fun q9 => ?_⟩
      refine g_astore_n C [some (.ref (d 0)), some (.int p1), some (.ref o), some (.ref q9)] dL_bound_12 (by decide) rfl rfl ?_
      refine g_iconst C 1 dL_bound_13 (by decide +kernel) ?_
      exact gx_I (g_iret C hret dL_bound_14 (Nat.le_of_ble_eq_true rfl) (Nat.le_of_ble_eq_true rfl) (Or.inr ⟨rfl, hc1, rfl⟩))
  · skip
    obtain ⟨hok, hr9, rfl⟩ := hp1
    have hr9 := hr9.symm
    subst hr9
    refine g_i2l C (Int32.toInt64 bd) dL_bound_7 rfl ?_
    refine g_last C 0 2 rfl rfl 0 rfl (by omega) (by decide) (wO cJ o (vp_updL ot 0 (Int32.toInt64 bd)) ++ ((wCo cI a b d mg pt p1 tk ho ri lo fv hd lf la ++ wSo cI cW a b r2 hp rl cn be bw wo) ++ wL cI cZ cG a r nc nw cx cy ch rm on wx wy dm sv mu qq)) rfl dL_bound_8 ?_
    refine g_goto C 15 dL_bound_9 (by decide) ?_
    refine g_iconst C 0 dL_bound_15 (by decide +kernel) ?_
    exact gx_I (g_iret C hret dL_bound_16 (Nat.le_of_ble_eq_true rfl) (Nat.le_of_ble_eq_true rfl) (Or.inl ⟨rfl, hok, rfl⟩))
set_option maxHeartbeats 1000000 in
set_option maxRecDepth 100000 in
theorem t_L_tick {l : Launch} (hl0 : l.stackTraces = false) {D : va_G} {cI cZ cJ cG cW : ClassId} {o : Nat} {ot : Nat → Int64} {a b d : Nat → Nat} {mg pt bd tk ho ri lo : Int32} {fv hd lf la : Nat → Int32} {r2 : Nat → Nat} {hp rl cn be : Nat → Int32} {bw : Int32} {wo : Nat → Nat → Int32} {r : Nat → Nat} {nc nw : Nat} {cx cy ch rm on wx wy dm sv mu : Nat → Int32} {qq : Nat → Nat → Int32} {p1 : Int32} (h5 : nc ≤ 5) (h6 : nw ≤ 6) (hr : ∀ c, c < nc → ¬ rm c ≤ 0) (hg : ∀ c w, c < nc → w < nw → ¬ dsq (cx c) (cy c) (wx w) (wy w) = 0) (hQ : GQ nc nw cx cy ch on wx wy rm dm) (hsv : ∀ j, j < nw → SV nc (sv j)) : CxI l yL_tick wsL_tick 8 154 2 12 D (T5 cI cZ cJ cG cW) [.ref (d 0), .int p1, .ref o] (wO cJ o ot ++ ((wCo cI a b d mg pt bd tk ho ri lo fv hd lf la ++ wSo cI cW a b r2 hp rl cn be bw wo) ++ wL cI cZ cG a r nc nw cx cy ch rm on wx wy dm sv mu qq)) (fun rv wv => (rv = 0 ∧ (1 ≤ p1 ∧ p1 ≤ 20) ∧ wv = (wO cJ o (vp_updL ot 0 (Int32.toInt64 ((fti cx cy ch on wx wy rm dm nc nw mg pt bd (tk, mu, qq, sv, fv, hd, lf, la, ho, ri, lo) p1.toNatClampNeg).2.2.2.2.2.2.2.2.1 - ho))) ++ ((wCo cI a b d mg pt bd ((fti cx cy ch on wx wy rm dm nc nw mg pt bd (tk, mu, qq, sv, fv, hd, lf, la, ho, ri, lo) p1.toNatClampNeg).1) ((fti cx cy ch on wx wy rm dm nc nw mg pt bd (tk, mu, qq, sv, fv, hd, lf, la, ho, ri, lo) p1.toNatClampNeg).2.2.2.2.2.2.2.2.1) ((fti cx cy ch on wx wy rm dm nc nw mg pt bd (tk, mu, qq, sv, fv, hd, lf, la, ho, ri, lo) p1.toNatClampNeg).2.2.2.2.2.2.2.2.2.1) ((fti cx cy ch on wx wy rm dm nc nw mg pt bd (tk, mu, qq, sv, fv, hd, lf, la, ho, ri, lo) p1.toNatClampNeg).2.2.2.2.2.2.2.2.2.2) ((fti cx cy ch on wx wy rm dm nc nw mg pt bd (tk, mu, qq, sv, fv, hd, lf, la, ho, ri, lo) p1.toNatClampNeg).2.2.2.2.1) ((fti cx cy ch on wx wy rm dm nc nw mg pt bd (tk, mu, qq, sv, fv, hd, lf, la, ho, ri, lo) p1.toNatClampNeg).2.2.2.2.2.1) ((fti cx cy ch on wx wy rm dm nc nw mg pt bd (tk, mu, qq, sv, fv, hd, lf, la, ho, ri, lo) p1.toNatClampNeg).2.2.2.2.2.2.1) ((fti cx cy ch on wx wy rm dm nc nw mg pt bd (tk, mu, qq, sv, fv, hd, lf, la, ho, ri, lo) p1.toNatClampNeg).2.2.2.2.2.2.2.1) ++ wSo cI cW a b r2 hp rl cn be bw wo) ++ wL cI cZ cG a r nc nw cx cy ch rm on wx wy dm ((fti cx cy ch on wx wy rm dm nc nw mg pt bd (tk, mu, qq, sv, fv, hd, lf, la, ho, ri, lo) p1.toNatClampNeg).2.2.2.1) ((fti cx cy ch on wx wy rm dm nc nw mg pt bd (tk, mu, qq, sv, fv, hd, lf, la, ho, ri, lo) p1.toNatClampNeg).2.1) ((fti cx cy ch on wx wy rm dm nc nw mg pt bd (tk, mu, qq, sv, fv, hd, lf, la, ho, ri, lo) p1.toNatClampNeg).2.2.1)))) ∨ (rv = 1 ∧ ¬ ((1 ≤ p1 ∧ p1 ≤ 20)) ∧ wv = (wO cJ o ot ++ ((wCo cI a b d mg pt bd tk ho ri lo fv hd lf la ++ wSo cI cW a b r2 hp rl cn be bw wo) ++ wL cI cZ cG a r nc nw cx cy ch rm on wx wy dm sv mu qq)))) (fun Ev => False) := by
  refine cxI_ofH (cc := cL_tick) (maxL := 4) RL 1 [some (.ref (d 0)), some (.int p1), some (.ref o), none] (by decide +kernel) rfl rfl (Nat.le_of_ble_eq_true rfl) rfl (fun p_ e_ s_ m_ as_ bl_ me_ co_ C hret hE hX => ?_)
  refine g_aload_n C dL_tick_0 rfl ?_
  refine g_iconst C 0 dL_tick_1 (by decide +kernel) ?_
  refine g_aload_n C dL_tick_2 rfl ?_
  refine g_iload_n C dL_tick_3 rfl ?_
  refine gx_catchi C hX (wO cJ o ot) ((wCo cI a b d mg pt bd tk ho ri lo fv hd lf la ++ wSo cI cW a b r2 hp rl cn be bw wo) ++ wL cI cZ cG a r nc nw cx cy ch rm on wx wy dm sv mu qq) [.int p1] (t_X2_tick hl0 h5 h6 hr hg hQ hsv) rfl rfl (cwV 1 C.ts gL_tick_X2_tick rfl rfl rfl (by decide +kernel) ⟨Nat.le_of_ble_eq_true rfl, Nat.le_of_ble_eq_true rfl⟩) rfl rfl rfl (Nat.le_of_ble_eq_true rfl) dL_tick_4 ⟨Nat.le_of_ble_eq_true rfl, Nat.le_of_ble_eq_true rfl⟩ (fun E1 hx1 => ?_) (fun rv1 wv1 hp1 => ?_)
  · skip
    obtain ⟨hc1, rfl⟩ := hx1
    · refine ⟨12, (ct_1 hE (by decide) (by decide) (C.ts (.classLink RL 13 "java/lang/IllegalArgumentException") (by decide +kernel)) hX.1.1.1), fun q9 => ?_⟩
      refine g_astore_n C [some (.ref (d 0)), some (.int p1), some (.ref o), some (.ref q9)] dL_tick_12 (by decide) rfl rfl ?_
      refine g_iconst C 1 dL_tick_13 (by decide +kernel) ?_
      exact gx_I (g_iret C hret dL_tick_14 (Nat.le_of_ble_eq_true rfl) (Nat.le_of_ble_eq_true rfl) (Or.inr ⟨rfl, hc1, rfl⟩))
  · skip
    obtain ⟨hok, rfl, rfl⟩ := hp1
    refine g_i2l C (Int32.toInt64 ((fti cx cy ch on wx wy rm dm nc nw mg pt bd (tk, mu, qq, sv, fv, hd, lf, la, ho, ri, lo) p1.toNatClampNeg).2.2.2.2.2.2.2.2.1 - ho)) dL_tick_7 rfl ?_
    refine g_last C 0 2 rfl rfl 0 rfl (by omega) (by decide) (wO cJ o (vp_updL ot 0 (Int32.toInt64 ((fti cx cy ch on wx wy rm dm nc nw mg pt bd (tk, mu, qq, sv, fv, hd, lf, la, ho, ri, lo) p1.toNatClampNeg).2.2.2.2.2.2.2.2.1 - ho))) ++ ((wCo cI a b d mg pt bd ((fti cx cy ch on wx wy rm dm nc nw mg pt bd (tk, mu, qq, sv, fv, hd, lf, la, ho, ri, lo) p1.toNatClampNeg).1) ((fti cx cy ch on wx wy rm dm nc nw mg pt bd (tk, mu, qq, sv, fv, hd, lf, la, ho, ri, lo) p1.toNatClampNeg).2.2.2.2.2.2.2.2.1) ((fti cx cy ch on wx wy rm dm nc nw mg pt bd (tk, mu, qq, sv, fv, hd, lf, la, ho, ri, lo) p1.toNatClampNeg).2.2.2.2.2.2.2.2.2.1) ((fti cx cy ch on wx wy rm dm nc nw mg pt bd (tk, mu, qq, sv, fv, hd, lf, la, ho, ri, lo) p1.toNatClampNeg).2.2.2.2.2.2.2.2.2.2) ((fti cx cy ch on wx wy rm dm nc nw mg pt bd (tk, mu, qq, sv, fv, hd, lf, la, ho, ri, lo) p1.toNatClampNeg).2.2.2.2.1) ((fti cx cy ch on wx wy rm dm nc nw mg pt bd (tk, mu, qq, sv, fv, hd, lf, la, ho, ri, lo) p1.toNatClampNeg).2.2.2.2.2.1) ((fti cx cy ch on wx wy rm dm nc nw mg pt bd (tk, mu, qq, sv, fv, hd, lf, la, ho, ri, lo) p1.toNatClampNeg).2.2.2.2.2.2.1) ((fti cx cy ch on wx wy rm dm nc nw mg pt bd (tk, mu, qq, sv, fv, hd, lf, la, ho, ri, lo) p1.toNatClampNeg).2.2.2.2.2.2.2.1) ++ wSo cI cW a b r2 hp rl cn be bw wo) ++ wL cI cZ cG a r nc nw cx cy ch rm on wx wy dm ((fti cx cy ch on wx wy rm dm nc nw mg pt bd (tk, mu, qq, sv, fv, hd, lf, la, ho, ri, lo) p1.toNatClampNeg).2.2.2.1) ((fti cx cy ch on wx wy rm dm nc nw mg pt bd (tk, mu, qq, sv, fv, hd, lf, la, ho, ri, lo) p1.toNatClampNeg).2.1) ((fti cx cy ch on wx wy rm dm nc nw mg pt bd (tk, mu, qq, sv, fv, hd, lf, la, ho, ri, lo) p1.toNatClampNeg).2.2.1))) rfl dL_tick_8 ?_
    refine g_goto C 15 dL_tick_9 (by decide) ?_
    refine g_iconst C 0 dL_tick_15 (by decide +kernel) ?_
    exact gx_I (g_iret C hret dL_tick_16 (Nat.le_of_ble_eq_true rfl) (Nat.le_of_ble_eq_true rfl) (Or.inl ⟨rfl, hok, rfl⟩))
set_option maxHeartbeats 1000000 in
set_option maxRecDepth 100000 in
theorem t_L_signal {l : Launch} (hl0 : l.stackTraces = false) {D : va_G} {cI cZ cJ cG cW : ClassId} {o : Nat} {ot : Nat → Int64} {a b d : Nat → Nat} {mg pt bd tk ho ri lo : Int32} {fv hd lf la : Nat → Int32} {r2 : Nat → Nat} {hp rl cn be : Nat → Int32} {bw : Int32} {wo : Nat → Nat → Int32} {r : Nat → Nat} {nc nw : Nat} {cx cy ch rm on wx wy dm sv mu : Nat → Int32} {qq : Nat → Nat → Int32} {p1 p2 : Int32} (h5 : nc ≤ 5) (h6 : nw ≤ 6) (hg : ∀ c w, c < nc → w < nw → ¬ dsq (cx c) (cy c) (wx w) (wy w) = 0) : CxI l yL_signal wsL_signal 8 133 4 24 D (T5 cI cZ cJ cG cW) [.ref (d 0), .int p1, .int p2, .ref o] (wO cJ o ot ++ ((wCo cI a b d mg pt bd tk ho ri lo fv hd lf la ++ wSo cI cW a b r2 hp rl cn be bw wo) ++ wL cI cZ cG a r nc nw cx cy ch rm on wx wy dm sv mu qq)) (fun rv wv => (rv = 0 ∧ (IC nc p1 ∧ IC nw p2) ∧ wv = (wO cJ o (vp_updL ot 0 (Int32.toInt64 (sg cx cy wx wy p1.toNatClampNeg p2.toNatClampNeg))) ++ ((wCo cI a b d mg pt bd tk ho ri lo fv hd lf la ++ wSo cI cW a b r2 hp rl cn be bw wo) ++ wL cI cZ cG a r nc nw cx cy ch rm on wx wy dm sv mu qq))) ∨ (rv = 1 ∧ ¬ ((IC nc p1 ∧ IC nw p2)) ∧ wv = (wO cJ o ot ++ ((wCo cI a b d mg pt bd tk ho ri lo fv hd lf la ++ wSo cI cW a b r2 hp rl cn be bw wo) ++ wL cI cZ cG a r nc nw cx cy ch rm on wx wy dm sv mu qq)))) (fun Ev => False) := by
  refine cxI_ofH (cc := cL_signal) (maxL := 5) RL 1 [some (.ref (d 0)), some (.int p1), some (.int p2), some (.ref o), none] (by decide +kernel) rfl rfl (Nat.le_of_ble_eq_true rfl) rfl (fun p_ e_ s_ m_ as_ bl_ me_ co_ C hret hE hX => ?_)
  refine g_aload_n C dL_signal_0 rfl ?_
  refine g_iconst C 0 dL_signal_1 (by decide +kernel) ?_
  refine g_aload_n C dL_signal_2 rfl ?_
  refine g_iload_n C dL_signal_3 rfl ?_
  refine g_iload_n C dL_signal_4 rfl ?_
  refine gx_catchi C hX (wO cJ o ot) ((wCo cI a b d mg pt bd tk ho ri lo fv hd lf la ++ wSo cI cW a b r2 hp rl cn be bw wo) ++ wL cI cZ cG a r nc nw cx cy ch rm on wx wy dm sv mu qq) [.int p1, .int p2] (t_X2_signal hl0 h5 h6 hg) rfl rfl (cwV 2 C.ts gL_signal_X2_signal rfl rfl rfl (by decide +kernel) ⟨Nat.le_of_ble_eq_true rfl, Nat.le_of_ble_eq_true rfl⟩) rfl rfl rfl (Nat.le_of_ble_eq_true rfl) dL_signal_5 ⟨Nat.le_of_ble_eq_true rfl, Nat.le_of_ble_eq_true rfl⟩ (fun E1 hx1 => ?_) (fun rv1 wv1 hp1 => ?_)
  · skip
    obtain ⟨hc1, rfl⟩ := hx1
    · refine ⟨13, (ct_1 hE (by decide) (by decide) (C.ts (.classLink RL 21 "java/lang/IndexOutOfBoundsException") (by decide +kernel)) hX.1.1.2.2), fun q9 => ?_⟩
      refine g_astore C [some (.ref (d 0)), some (.int p1), some (.int p2), some (.ref o), some (.ref q9)] dL_signal_13 (by decide) rfl rfl ?_
      refine g_iconst C 1 dL_signal_15 (by decide +kernel) ?_
      exact gx_I (g_iret C hret dL_signal_16 (Nat.le_of_ble_eq_true rfl) (Nat.le_of_ble_eq_true rfl) (Or.inr ⟨rfl, hc1, rfl⟩))
  · skip
    obtain ⟨hok, rfl, rfl⟩ := hp1
    refine g_i2l C (Int32.toInt64 (sg cx cy wx wy p1.toNatClampNeg p2.toNatClampNeg)) dL_signal_8 rfl ?_
    refine g_last C 0 2 rfl rfl 0 rfl (by omega) (by decide) (wO cJ o (vp_updL ot 0 (Int32.toInt64 (sg cx cy wx wy p1.toNatClampNeg p2.toNatClampNeg))) ++ ((wCo cI a b d mg pt bd tk ho ri lo fv hd lf la ++ wSo cI cW a b r2 hp rl cn be bw wo) ++ wL cI cZ cG a r nc nw cx cy ch rm on wx wy dm sv mu qq)) rfl dL_signal_9 ?_
    refine g_goto C 17 dL_signal_10 (by decide) ?_
    refine g_iconst C 0 dL_signal_17 (by decide +kernel) ?_
    exact gx_I (g_iret C hret dL_signal_18 (Nat.le_of_ble_eq_true rfl) (Nat.le_of_ble_eq_true rfl) (Or.inl ⟨rfl, hok, rfl⟩))
set_option maxHeartbeats 1000000 in
set_option maxRecDepth 100000 in
theorem t_L_quality {l : Launch} (hl0 : l.stackTraces = false) {D : va_G} {cI cZ cJ cG cW : ClassId} {o : Nat} {ot : Nat → Int64} {a b d : Nat → Nat} {mg pt bd tk ho ri lo : Int32} {fv hd lf la : Nat → Int32} {r2 : Nat → Nat} {hp rl cn be : Nat → Int32} {bw : Int32} {wo : Nat → Nat → Int32} {r : Nat → Nat} {nc nw : Nat} {cx cy ch rm on wx wy dm sv mu : Nat → Int32} {qq : Nat → Nat → Int32} {p1 p2 : Int32} (h5 : nc ≤ 5) (h6 : nw ≤ 6) (hr : ∀ c, c < nc → ¬ rm c ≤ 0) (hg : ∀ c w, c < nc → w < nw → ¬ dsq (cx c) (cy c) (wx w) (wy w) = 0) (hq : ∀ c w, c < nc → w < nw → ¬ 10 + fdi ch on (fil nc (fus rm sv dm nw) mu) (sgw cx cy wx wy w) c nc = 0) : CxI l yL_quality wsL_quality 8 133 4 24 D (T5 cI cZ cJ cG cW) [.ref (d 0), .int p1, .int p2, .ref o] (wO cJ o ot ++ ((wCo cI a b d mg pt bd tk ho ri lo fv hd lf la ++ wSo cI cW a b r2 hp rl cn be bw wo) ++ wL cI cZ cG a r nc nw cx cy ch rm on wx wy dm sv mu qq)) (fun rv wv => (rv = 0 ∧ (IC nc p1 ∧ IC nw p2) ∧ wv = (wO cJ o (vp_updL ot 0 (Int32.toInt64 (fqu cx cy ch on wx wy (fil nc (fus rm sv dm nw) mu) nc p2.toNatClampNeg p1.toNatClampNeg))) ++ ((wCo cI a b d mg pt bd tk ho ri lo fv hd lf la ++ wSo cI cW a b r2 hp rl cn be bw wo) ++ wL cI cZ cG a r nc nw cx cy ch rm on wx wy dm sv (fil nc (fus rm sv dm nw) mu) (fil2 nw nc (fun w c => fqu cx cy ch on wx wy (fil nc (fus rm sv dm nw) mu) nc w c) qq)))) ∨ (rv = 1 ∧ ¬ ((IC nc p1 ∧ IC nw p2)) ∧ wv = (wO cJ o ot ++ ((wCo cI a b d mg pt bd tk ho ri lo fv hd lf la ++ wSo cI cW a b r2 hp rl cn be bw wo) ++ wL cI cZ cG a r nc nw cx cy ch rm on wx wy dm sv mu qq)))) (fun Ev => False) := by
  refine cxI_ofH (cc := cL_quality) (maxL := 5) RL 1 [some (.ref (d 0)), some (.int p1), some (.int p2), some (.ref o), none] (by decide +kernel) rfl rfl (Nat.le_of_ble_eq_true rfl) rfl (fun p_ e_ s_ m_ as_ bl_ me_ co_ C hret hE hX => ?_)
  refine g_aload_n C dL_quality_0 rfl ?_
  refine g_iconst C 0 dL_quality_1 (by decide +kernel) ?_
  refine g_aload_n C dL_quality_2 rfl ?_
  refine g_iload_n C dL_quality_3 rfl ?_
  refine g_iload_n C dL_quality_4 rfl ?_
  refine gx_catchi C hX (wO cJ o ot) ((wCo cI a b d mg pt bd tk ho ri lo fv hd lf la ++ wSo cI cW a b r2 hp rl cn be bw wo) ++ wL cI cZ cG a r nc nw cx cy ch rm on wx wy dm sv mu qq) [.int p1, .int p2] (t_X2_quality hl0 h5 h6 hr hg hq) rfl rfl (cwV 2 C.ts gL_quality_X2_quality rfl rfl rfl (by decide +kernel) ⟨Nat.le_of_ble_eq_true rfl, Nat.le_of_ble_eq_true rfl⟩) rfl rfl rfl (Nat.le_of_ble_eq_true rfl) dL_quality_5 ⟨Nat.le_of_ble_eq_true rfl, Nat.le_of_ble_eq_true rfl⟩ (fun E1 hx1 => ?_) (fun rv1 wv1 hp1 => ?_)
  · skip
    obtain ⟨hc1, rfl⟩ := hx1
    · refine ⟨13, (ct_1 hE (by decide) (by decide) (C.ts (.classLink RL 21 "java/lang/IndexOutOfBoundsException") (by decide +kernel)) hX.1.1.2.2), fun q9 => ?_⟩
      refine g_astore C [some (.ref (d 0)), some (.int p1), some (.int p2), some (.ref o), some (.ref q9)] dL_quality_13 (by decide) rfl rfl ?_
      refine g_iconst C 1 dL_quality_15 (by decide +kernel) ?_
      exact gx_I (g_iret C hret dL_quality_16 (Nat.le_of_ble_eq_true rfl) (Nat.le_of_ble_eq_true rfl) (Or.inr ⟨rfl, hc1, rfl⟩))
  · skip
    obtain ⟨hok, rfl, rfl⟩ := hp1
    refine g_i2l C (Int32.toInt64 (fqu cx cy ch on wx wy (fil nc (fus rm sv dm nw) mu) nc p2.toNatClampNeg p1.toNatClampNeg)) dL_quality_8 rfl ?_
    refine g_last C 0 2 rfl rfl 0 rfl (by omega) (by decide) (wO cJ o (vp_updL ot 0 (Int32.toInt64 (fqu cx cy ch on wx wy (fil nc (fus rm sv dm nw) mu) nc p2.toNatClampNeg p1.toNatClampNeg))) ++ ((wCo cI a b d mg pt bd tk ho ri lo fv hd lf la ++ wSo cI cW a b r2 hp rl cn be bw wo) ++ wL cI cZ cG a r nc nw cx cy ch rm on wx wy dm sv (fil nc (fus rm sv dm nw) mu) (fil2 nw nc (fun w c => fqu cx cy ch on wx wy (fil nc (fus rm sv dm nw) mu) nc w c) qq))) rfl dL_quality_9 ?_
    refine g_goto C 17 dL_quality_10 (by decide) ?_
    refine g_iconst C 0 dL_quality_17 (by decide +kernel) ?_
    exact gx_I (g_iret C hret dL_quality_18 (Nat.le_of_ble_eq_true rfl) (Nat.le_of_ble_eq_true rfl) (Or.inl ⟨rfl, hok, rfl⟩))
set_option maxHeartbeats 1000000 in
set_option maxRecDepth 100000 in
theorem t_L_load {l : Launch} (hl0 : l.stackTraces = false) {D : va_G} {cI cZ cJ cG cW : ClassId} {o : Nat} {ot : Nat → Int64} {a b d : Nat → Nat} {mg pt bd tk ho ri lo : Int32} {fv hd lf la : Nat → Int32} {r2 : Nat → Nat} {hp rl cn be : Nat → Int32} {bw : Int32} {wo : Nat → Nat → Int32} {r : Nat → Nat} {nc nw : Nat} {cx cy ch rm on wx wy dm sv mu : Nat → Int32} {qq : Nat → Nat → Int32} {p1 : Int32} (h5 : nc ≤ 5) (h6 : nw ≤ 6) : CxI l yL_load wsL_load 8 132 2 12 D (T5 cI cZ cJ cG cW) [.ref (d 0), .int p1, .ref o] (wO cJ o ot ++ ((wCo cI a b d mg pt bd tk ho ri lo fv hd lf la ++ wSo cI cW a b r2 hp rl cn be bw wo) ++ wL cI cZ cG a r nc nw cx cy ch rm on wx wy dm sv mu qq)) (fun rv wv => (rv = 0 ∧ IC nc p1 ∧ wv = (wO cJ o (vp_updL ot 0 (Int32.toInt64 (fld sv dm p1 nw))) ++ ((wCo cI a b d mg pt bd tk ho ri lo fv hd lf la ++ wSo cI cW a b r2 hp rl cn be bw wo) ++ wL cI cZ cG a r nc nw cx cy ch rm on wx wy dm sv mu qq))) ∨ (rv = 1 ∧ ¬ (IC nc p1) ∧ wv = (wO cJ o ot ++ ((wCo cI a b d mg pt bd tk ho ri lo fv hd lf la ++ wSo cI cW a b r2 hp rl cn be bw wo) ++ wL cI cZ cG a r nc nw cx cy ch rm on wx wy dm sv mu qq)))) (fun Ev => False) := by
  refine cxI_ofH (cc := cL_load) (maxL := 4) RL 1 [some (.ref (d 0)), some (.int p1), some (.ref o), none] (by decide +kernel) rfl rfl (Nat.le_of_ble_eq_true rfl) rfl (fun p_ e_ s_ m_ as_ bl_ me_ co_ C hret hE hX => ?_)
  refine g_aload_n C dL_load_0 rfl ?_
  refine g_iconst C 0 dL_load_1 (by decide +kernel) ?_
  refine g_aload_n C dL_load_2 rfl ?_
  refine g_iload_n C dL_load_3 rfl ?_
  refine gx_catchi C hX (wO cJ o ot) ((wCo cI a b d mg pt bd tk ho ri lo fv hd lf la ++ wSo cI cW a b r2 hp rl cn be bw wo) ++ wL cI cZ cG a r nc nw cx cy ch rm on wx wy dm sv mu qq) [.int p1] (t_X2_load hl0 h5 h6) rfl rfl (cwV 1 C.ts gL_load_X2_load rfl rfl rfl (by decide +kernel) ⟨Nat.le_of_ble_eq_true rfl, Nat.le_of_ble_eq_true rfl⟩) rfl rfl rfl (Nat.le_of_ble_eq_true rfl) dL_load_4 ⟨Nat.le_of_ble_eq_true rfl, Nat.le_of_ble_eq_true rfl⟩ (fun E1 hx1 => ?_) (fun rv1 wv1 hp1 => ?_)
  · skip
    obtain ⟨hc1, rfl⟩ := hx1
    · refine ⟨12, (ct_1 hE (by decide) (by decide) (C.ts (.classLink RL 21 "java/lang/IndexOutOfBoundsException") (by decide +kernel)) hX.1.1.2.2), fun q9 => ?_⟩
      refine g_astore_n C [some (.ref (d 0)), some (.int p1), some (.ref o), some (.ref q9)] dL_load_12 (by decide) rfl rfl ?_
      refine g_iconst C 1 dL_load_13 (by decide +kernel) ?_
      exact gx_I (g_iret C hret dL_load_14 (Nat.le_of_ble_eq_true rfl) (Nat.le_of_ble_eq_true rfl) (Or.inr ⟨rfl, hc1, rfl⟩))
  · skip
    obtain ⟨hok, rfl, rfl⟩ := hp1
    refine g_i2l C (Int32.toInt64 (fld sv dm p1 nw)) dL_load_7 rfl ?_
    refine g_last C 0 2 rfl rfl 0 rfl (by omega) (by decide) (wO cJ o (vp_updL ot 0 (Int32.toInt64 (fld sv dm p1 nw))) ++ ((wCo cI a b d mg pt bd tk ho ri lo fv hd lf la ++ wSo cI cW a b r2 hp rl cn be bw wo) ++ wL cI cZ cG a r nc nw cx cy ch rm on wx wy dm sv mu qq)) rfl dL_load_8 ?_
    refine g_goto C 15 dL_load_9 (by decide) ?_
    refine g_iconst C 0 dL_load_15 (by decide +kernel) ?_
    exact gx_I (g_iret C hret dL_load_16 (Nat.le_of_ble_eq_true rfl) (Nat.le_of_ble_eq_true rfl) (Or.inl ⟨rfl, hok, rfl⟩))
set_option maxHeartbeats 1000000 in
set_option maxRecDepth 100000 in
theorem t_L_use {l : Launch} (hl0 : l.stackTraces = false) {D : va_G} {cI cZ cJ cG cW : ClassId} {o : Nat} {ot : Nat → Int64} {a b d : Nat → Nat} {mg pt bd tk ho ri lo : Int32} {fv hd lf la : Nat → Int32} {r2 : Nat → Nat} {hp rl cn be : Nat → Int32} {bw : Int32} {wo : Nat → Nat → Int32} {r : Nat → Nat} {nc nw : Nat} {cx cy ch rm on wx wy dm sv mu : Nat → Int32} {qq : Nat → Nat → Int32} {p1 : Int32} (h5 : nc ≤ 5) (h6 : nw ≤ 6) (hr : ∀ c, c < nc → ¬ rm c ≤ 0) : CxI l yL_use wsL_use 8 132 2 12 D (T5 cI cZ cJ cG cW) [.ref (d 0), .int p1, .ref o] (wO cJ o ot ++ ((wCo cI a b d mg pt bd tk ho ri lo fv hd lf la ++ wSo cI cW a b r2 hp rl cn be bw wo) ++ wL cI cZ cG a r nc nw cx cy ch rm on wx wy dm sv mu qq)) (fun rv wv => (rv = 0 ∧ IC nc p1 ∧ wv = (wO cJ o (vp_updL ot 0 (Int32.toInt64 (fus rm sv dm nw p1.toNatClampNeg))) ++ ((wCo cI a b d mg pt bd tk ho ri lo fv hd lf la ++ wSo cI cW a b r2 hp rl cn be bw wo) ++ wL cI cZ cG a r nc nw cx cy ch rm on wx wy dm sv mu qq))) ∨ (rv = 1 ∧ ¬ (IC nc p1) ∧ wv = (wO cJ o ot ++ ((wCo cI a b d mg pt bd tk ho ri lo fv hd lf la ++ wSo cI cW a b r2 hp rl cn be bw wo) ++ wL cI cZ cG a r nc nw cx cy ch rm on wx wy dm sv mu qq)))) (fun Ev => False) := by
  refine cxI_ofH (cc := cL_use) (maxL := 4) RL 1 [some (.ref (d 0)), some (.int p1), some (.ref o), none] (by decide +kernel) rfl rfl (Nat.le_of_ble_eq_true rfl) rfl (fun p_ e_ s_ m_ as_ bl_ me_ co_ C hret hE hX => ?_)
  refine g_aload_n C dL_use_0 rfl ?_
  refine g_iconst C 0 dL_use_1 (by decide +kernel) ?_
  refine g_aload_n C dL_use_2 rfl ?_
  refine g_iload_n C dL_use_3 rfl ?_
  refine gx_catchi C hX (wO cJ o ot) ((wCo cI a b d mg pt bd tk ho ri lo fv hd lf la ++ wSo cI cW a b r2 hp rl cn be bw wo) ++ wL cI cZ cG a r nc nw cx cy ch rm on wx wy dm sv mu qq) [.int p1] (t_X2_use hl0 h5 h6 hr) rfl rfl (cwV 1 C.ts gL_use_X2_use rfl rfl rfl (by decide +kernel) ⟨Nat.le_of_ble_eq_true rfl, Nat.le_of_ble_eq_true rfl⟩) rfl rfl rfl (Nat.le_of_ble_eq_true rfl) dL_use_4 ⟨Nat.le_of_ble_eq_true rfl, Nat.le_of_ble_eq_true rfl⟩ (fun E1 hx1 => ?_) (fun rv1 wv1 hp1 => ?_)
  · skip
    obtain ⟨hc1, rfl⟩ := hx1
    · refine ⟨12, (ct_1 hE (by decide) (by decide) (C.ts (.classLink RL 21 "java/lang/IndexOutOfBoundsException") (by decide +kernel)) hX.1.1.2.2), fun q9 => ?_⟩
      refine g_astore_n C [some (.ref (d 0)), some (.int p1), some (.ref o), some (.ref q9)] dL_use_12 (by decide) rfl rfl ?_
      refine g_iconst C 1 dL_use_13 (by decide +kernel) ?_
      exact gx_I (g_iret C hret dL_use_14 (Nat.le_of_ble_eq_true rfl) (Nat.le_of_ble_eq_true rfl) (Or.inr ⟨rfl, hc1, rfl⟩))
  · skip
    obtain ⟨hok, rfl, rfl⟩ := hp1
    refine g_i2l C (Int32.toInt64 (fus rm sv dm nw p1.toNatClampNeg)) dL_use_7 rfl ?_
    refine g_last C 0 2 rfl rfl 0 rfl (by omega) (by decide) (wO cJ o (vp_updL ot 0 (Int32.toInt64 (fus rm sv dm nw p1.toNatClampNeg))) ++ ((wCo cI a b d mg pt bd tk ho ri lo fv hd lf la ++ wSo cI cW a b r2 hp rl cn be bw wo) ++ wL cI cZ cG a r nc nw cx cy ch rm on wx wy dm sv mu qq)) rfl dL_use_8 ?_
    refine g_goto C 15 dL_use_9 (by decide) ?_
    refine g_iconst C 0 dL_use_15 (by decide +kernel) ?_
    exact gx_I (g_iret C hret dL_use_16 (Nat.le_of_ble_eq_true rfl) (Nat.le_of_ble_eq_true rfl) (Or.inl ⟨rfl, hok, rfl⟩))
set_option maxHeartbeats 1000000 in
set_option maxRecDepth 100000 in
theorem t_L_servedBy {l : Launch} (hl0 : l.stackTraces = false) {D : va_G} {cI cZ cJ cG cW : ClassId} {o : Nat} {ot : Nat → Int64} {a b d : Nat → Nat} {mg pt bd tk ho ri lo : Int32} {fv hd lf la : Nat → Int32} {r2 : Nat → Nat} {hp rl cn be : Nat → Int32} {bw : Int32} {wo : Nat → Nat → Int32} {r : Nat → Nat} {nc nw : Nat} {cx cy ch rm on wx wy dm sv mu : Nat → Int32} {qq : Nat → Nat → Int32} {p1 : Int32} (h5 : nc ≤ 5) (h6 : nw ≤ 6) : CxI l yL_servedBy wsL_servedBy 8 132 2 12 D (T5 cI cZ cJ cG cW) [.ref (d 0), .int p1, .ref o] (wO cJ o ot ++ ((wCo cI a b d mg pt bd tk ho ri lo fv hd lf la ++ wSo cI cW a b r2 hp rl cn be bw wo) ++ wL cI cZ cG a r nc nw cx cy ch rm on wx wy dm sv mu qq)) (fun rv wv => (rv = 0 ∧ IC nw p1 ∧ wv = (wO cJ o (vp_updL ot 0 (Int32.toInt64 (sv p1.toNatClampNeg))) ++ ((wCo cI a b d mg pt bd tk ho ri lo fv hd lf la ++ wSo cI cW a b r2 hp rl cn be bw wo) ++ wL cI cZ cG a r nc nw cx cy ch rm on wx wy dm sv mu qq))) ∨ (rv = 1 ∧ ¬ (IC nw p1) ∧ wv = (wO cJ o ot ++ ((wCo cI a b d mg pt bd tk ho ri lo fv hd lf la ++ wSo cI cW a b r2 hp rl cn be bw wo) ++ wL cI cZ cG a r nc nw cx cy ch rm on wx wy dm sv mu qq)))) (fun Ev => False) := by
  refine cxI_ofH (cc := cL_servedBy) (maxL := 4) RL 1 [some (.ref (d 0)), some (.int p1), some (.ref o), none] (by decide +kernel) rfl rfl (Nat.le_of_ble_eq_true rfl) rfl (fun p_ e_ s_ m_ as_ bl_ me_ co_ C hret hE hX => ?_)
  refine g_aload_n C dL_servedBy_0 rfl ?_
  refine g_iconst C 0 dL_servedBy_1 (by decide +kernel) ?_
  refine g_aload_n C dL_servedBy_2 rfl ?_
  refine g_iload_n C dL_servedBy_3 rfl ?_
  refine gx_catchi C hX (wO cJ o ot) ((wCo cI a b d mg pt bd tk ho ri lo fv hd lf la ++ wSo cI cW a b r2 hp rl cn be bw wo) ++ wL cI cZ cG a r nc nw cx cy ch rm on wx wy dm sv mu qq) [.int p1] (t_X2_servedBy hl0 h5 h6) rfl rfl (cwV 1 C.ts gL_servedBy_X2_servedBy rfl rfl rfl (by decide +kernel) ⟨Nat.le_of_ble_eq_true rfl, Nat.le_of_ble_eq_true rfl⟩) rfl rfl rfl (Nat.le_of_ble_eq_true rfl) dL_servedBy_4 ⟨Nat.le_of_ble_eq_true rfl, Nat.le_of_ble_eq_true rfl⟩ (fun E1 hx1 => ?_) (fun rv1 wv1 hp1 => ?_)
  · skip
    obtain ⟨hc1, rfl⟩ := hx1
    · refine ⟨12, (ct_1 hE (by decide) (by decide) (C.ts (.classLink RL 21 "java/lang/IndexOutOfBoundsException") (by decide +kernel)) hX.1.1.2.2), fun q9 => ?_⟩
      refine g_astore_n C [some (.ref (d 0)), some (.int p1), some (.ref o), some (.ref q9)] dL_servedBy_12 (by decide) rfl rfl ?_
      refine g_iconst C 1 dL_servedBy_13 (by decide +kernel) ?_
      exact gx_I (g_iret C hret dL_servedBy_14 (Nat.le_of_ble_eq_true rfl) (Nat.le_of_ble_eq_true rfl) (Or.inr ⟨rfl, hc1, rfl⟩))
  · skip
    obtain ⟨hok, rfl, rfl⟩ := hp1
    refine g_i2l C (Int32.toInt64 (sv p1.toNatClampNeg)) dL_servedBy_7 rfl ?_
    refine g_last C 0 2 rfl rfl 0 rfl (by omega) (by decide) (wO cJ o (vp_updL ot 0 (Int32.toInt64 (sv p1.toNatClampNeg))) ++ ((wCo cI a b d mg pt bd tk ho ri lo fv hd lf la ++ wSo cI cW a b r2 hp rl cn be bw wo) ++ wL cI cZ cG a r nc nw cx cy ch rm on wx wy dm sv mu qq)) rfl dL_servedBy_8 ?_
    refine g_goto C 15 dL_servedBy_9 (by decide) ?_
    refine g_iconst C 0 dL_servedBy_15 (by decide +kernel) ?_
    exact gx_I (g_iret C hret dL_servedBy_16 (Nat.le_of_ble_eq_true rfl) (Nat.le_of_ble_eq_true rfl) (Or.inl ⟨rfl, hok, rfl⟩))
set_option maxHeartbeats 1000000 in
set_option maxRecDepth 100000 in
theorem t_L_favourite {l : Launch} (hl0 : l.stackTraces = false) {D : va_G} {cI cZ cJ cG cW : ClassId} {o : Nat} {ot : Nat → Int64} {a b d : Nat → Nat} {mg pt bd tk ho ri lo : Int32} {fv hd lf la : Nat → Int32} {r2 : Nat → Nat} {hp rl cn be : Nat → Int32} {bw : Int32} {wo : Nat → Nat → Int32} {r : Nat → Nat} {nc nw : Nat} {cx cy ch rm on wx wy dm sv mu : Nat → Int32} {qq : Nat → Nat → Int32} {p1 : Int32} (h5 : nc ≤ 5) (h6 : nw ≤ 6) : CxI l yL_favourite wsL_favourite 8 132 2 12 D (T5 cI cZ cJ cG cW) [.ref (d 0), .int p1, .ref o] (wO cJ o ot ++ ((wCo cI a b d mg pt bd tk ho ri lo fv hd lf la ++ wSo cI cW a b r2 hp rl cn be bw wo) ++ wL cI cZ cG a r nc nw cx cy ch rm on wx wy dm sv mu qq)) (fun rv wv => (rv = 0 ∧ IC nw p1 ∧ wv = (wO cJ o (vp_updL ot 0 (Int32.toInt64 (fv p1.toNatClampNeg))) ++ ((wCo cI a b d mg pt bd tk ho ri lo fv hd lf la ++ wSo cI cW a b r2 hp rl cn be bw wo) ++ wL cI cZ cG a r nc nw cx cy ch rm on wx wy dm sv mu qq))) ∨ (rv = 1 ∧ ¬ (IC nw p1) ∧ wv = (wO cJ o ot ++ ((wCo cI a b d mg pt bd tk ho ri lo fv hd lf la ++ wSo cI cW a b r2 hp rl cn be bw wo) ++ wL cI cZ cG a r nc nw cx cy ch rm on wx wy dm sv mu qq)))) (fun Ev => False) := by
  refine cxI_ofH (cc := cL_favourite) (maxL := 4) RL 1 [some (.ref (d 0)), some (.int p1), some (.ref o), none] (by decide +kernel) rfl rfl (Nat.le_of_ble_eq_true rfl) rfl (fun p_ e_ s_ m_ as_ bl_ me_ co_ C hret hE hX => ?_)
  refine g_aload_n C dL_favourite_0 rfl ?_
  refine g_iconst C 0 dL_favourite_1 (by decide +kernel) ?_
  refine g_aload_n C dL_favourite_2 rfl ?_
  refine g_iload_n C dL_favourite_3 rfl ?_
  refine gx_catchi C hX (wO cJ o ot) ((wCo cI a b d mg pt bd tk ho ri lo fv hd lf la ++ wSo cI cW a b r2 hp rl cn be bw wo) ++ wL cI cZ cG a r nc nw cx cy ch rm on wx wy dm sv mu qq) [.int p1] (t_X2_favourite hl0 h5 h6) rfl rfl (cwV 1 C.ts gL_favourite_X2_favourite rfl rfl rfl (by decide +kernel) ⟨Nat.le_of_ble_eq_true rfl, Nat.le_of_ble_eq_true rfl⟩) rfl rfl rfl (Nat.le_of_ble_eq_true rfl) dL_favourite_4 ⟨Nat.le_of_ble_eq_true rfl, Nat.le_of_ble_eq_true rfl⟩ (fun E1 hx1 => ?_) (fun rv1 wv1 hp1 => ?_)
  · skip
    obtain ⟨hc1, rfl⟩ := hx1
    · refine ⟨12, (ct_1 hE (by decide) (by decide) (C.ts (.classLink RL 21 "java/lang/IndexOutOfBoundsException") (by decide +kernel)) hX.1.1.2.2), fun q9 => ?_⟩
      refine g_astore_n C [some (.ref (d 0)), some (.int p1), some (.ref o), some (.ref q9)] dL_favourite_12 (by decide) rfl rfl ?_
      refine g_iconst C 1 dL_favourite_13 (by decide +kernel) ?_
      exact gx_I (g_iret C hret dL_favourite_14 (Nat.le_of_ble_eq_true rfl) (Nat.le_of_ble_eq_true rfl) (Or.inr ⟨rfl, hc1, rfl⟩))
  · skip
    obtain ⟨hok, rfl, rfl⟩ := hp1
    refine g_i2l C (Int32.toInt64 (fv p1.toNatClampNeg)) dL_favourite_7 rfl ?_
    refine g_last C 0 2 rfl rfl 0 rfl (by omega) (by decide) (wO cJ o (vp_updL ot 0 (Int32.toInt64 (fv p1.toNatClampNeg))) ++ ((wCo cI a b d mg pt bd tk ho ri lo fv hd lf la ++ wSo cI cW a b r2 hp rl cn be bw wo) ++ wL cI cZ cG a r nc nw cx cy ch rm on wx wy dm sv mu qq)) rfl dL_favourite_8 ?_
    refine g_goto C 15 dL_favourite_9 (by decide) ?_
    refine g_iconst C 0 dL_favourite_15 (by decide +kernel) ?_
    exact gx_I (g_iret C hret dL_favourite_16 (Nat.le_of_ble_eq_true rfl) (Nat.le_of_ble_eq_true rfl) (Or.inl ⟨rfl, hok, rfl⟩))
set_option maxHeartbeats 1000000 in
set_option maxRecDepth 100000 in
theorem t_L_heldFor {l : Launch} (hl0 : l.stackTraces = false) {D : va_G} {cI cZ cJ cG cW : ClassId} {o : Nat} {ot : Nat → Int64} {a b d : Nat → Nat} {mg pt bd tk ho ri lo : Int32} {fv hd lf la : Nat → Int32} {r2 : Nat → Nat} {hp rl cn be : Nat → Int32} {bw : Int32} {wo : Nat → Nat → Int32} {r : Nat → Nat} {nc nw : Nat} {cx cy ch rm on wx wy dm sv mu : Nat → Int32} {qq : Nat → Nat → Int32} {p1 : Int32} (h5 : nc ≤ 5) (h6 : nw ≤ 6) : CxI l yL_heldFor wsL_heldFor 8 132 2 12 D (T5 cI cZ cJ cG cW) [.ref (d 0), .int p1, .ref o] (wO cJ o ot ++ ((wCo cI a b d mg pt bd tk ho ri lo fv hd lf la ++ wSo cI cW a b r2 hp rl cn be bw wo) ++ wL cI cZ cG a r nc nw cx cy ch rm on wx wy dm sv mu qq)) (fun rv wv => (rv = 0 ∧ IC nw p1 ∧ wv = (wO cJ o (vp_updL ot 0 (Int32.toInt64 (hd p1.toNatClampNeg))) ++ ((wCo cI a b d mg pt bd tk ho ri lo fv hd lf la ++ wSo cI cW a b r2 hp rl cn be bw wo) ++ wL cI cZ cG a r nc nw cx cy ch rm on wx wy dm sv mu qq))) ∨ (rv = 1 ∧ ¬ (IC nw p1) ∧ wv = (wO cJ o ot ++ ((wCo cI a b d mg pt bd tk ho ri lo fv hd lf la ++ wSo cI cW a b r2 hp rl cn be bw wo) ++ wL cI cZ cG a r nc nw cx cy ch rm on wx wy dm sv mu qq)))) (fun Ev => False) := by
  refine cxI_ofH (cc := cL_heldFor) (maxL := 4) RL 1 [some (.ref (d 0)), some (.int p1), some (.ref o), none] (by decide +kernel) rfl rfl (Nat.le_of_ble_eq_true rfl) rfl (fun p_ e_ s_ m_ as_ bl_ me_ co_ C hret hE hX => ?_)
  refine g_aload_n C dL_heldFor_0 rfl ?_
  refine g_iconst C 0 dL_heldFor_1 (by decide +kernel) ?_
  refine g_aload_n C dL_heldFor_2 rfl ?_
  refine g_iload_n C dL_heldFor_3 rfl ?_
  refine gx_catchi C hX (wO cJ o ot) ((wCo cI a b d mg pt bd tk ho ri lo fv hd lf la ++ wSo cI cW a b r2 hp rl cn be bw wo) ++ wL cI cZ cG a r nc nw cx cy ch rm on wx wy dm sv mu qq) [.int p1] (t_X2_heldFor hl0 h5 h6) rfl rfl (cwV 1 C.ts gL_heldFor_X2_heldFor rfl rfl rfl (by decide +kernel) ⟨Nat.le_of_ble_eq_true rfl, Nat.le_of_ble_eq_true rfl⟩) rfl rfl rfl (Nat.le_of_ble_eq_true rfl) dL_heldFor_4 ⟨Nat.le_of_ble_eq_true rfl, Nat.le_of_ble_eq_true rfl⟩ (fun E1 hx1 => ?_) (fun rv1 wv1 hp1 => ?_)
  · skip
    obtain ⟨hc1, rfl⟩ := hx1
    · refine ⟨12, (ct_1 hE (by decide) (by decide) (C.ts (.classLink RL 21 "java/lang/IndexOutOfBoundsException") (by decide +kernel)) hX.1.1.2.2), fun q9 => ?_⟩
      refine g_astore_n C [some (.ref (d 0)), some (.int p1), some (.ref o), some (.ref q9)] dL_heldFor_12 (by decide) rfl rfl ?_
      refine g_iconst C 1 dL_heldFor_13 (by decide +kernel) ?_
      exact gx_I (g_iret C hret dL_heldFor_14 (Nat.le_of_ble_eq_true rfl) (Nat.le_of_ble_eq_true rfl) (Or.inr ⟨rfl, hc1, rfl⟩))
  · skip
    obtain ⟨hok, rfl, rfl⟩ := hp1
    refine g_i2l C (Int32.toInt64 (hd p1.toNatClampNeg)) dL_heldFor_7 rfl ?_
    refine g_last C 0 2 rfl rfl 0 rfl (by omega) (by decide) (wO cJ o (vp_updL ot 0 (Int32.toInt64 (hd p1.toNatClampNeg))) ++ ((wCo cI a b d mg pt bd tk ho ri lo fv hd lf la ++ wSo cI cW a b r2 hp rl cn be bw wo) ++ wL cI cZ cG a r nc nw cx cy ch rm on wx wy dm sv mu qq)) rfl dL_heldFor_8 ?_
    refine g_goto C 15 dL_heldFor_9 (by decide) ?_
    refine g_iconst C 0 dL_heldFor_15 (by decide +kernel) ?_
    exact gx_I (g_iret C hret dL_heldFor_16 (Nat.le_of_ble_eq_true rfl) (Nat.le_of_ble_eq_true rfl) (Or.inl ⟨rfl, hok, rfl⟩))
set_option maxHeartbeats 1000000 in
set_option maxRecDepth 100000 in
theorem t_L_bestCell {l : Launch} (hl0 : l.stackTraces = false) {D : va_G} {cI cZ cJ cG cW : ClassId} {o : Nat} {ot : Nat → Int64} {a b d : Nat → Nat} {mg pt bd tk ho ri lo : Int32} {fv hd lf la : Nat → Int32} {r2 : Nat → Nat} {hp rl cn be : Nat → Int32} {bw : Int32} {wo : Nat → Nat → Int32} {r : Nat → Nat} {nc nw : Nat} {cx cy ch rm on wx wy dm sv mu : Nat → Int32} {qq : Nat → Nat → Int32} {p1 : Int32} (h5 : nc ≤ 5) (h6 : nw ≤ 6) (hr : ∀ c, c < nc → ¬ rm c ≤ 0) (hg : ∀ c w, c < nc → w < nw → ¬ dsq (cx c) (cy c) (wx w) (wy w) = 0) (hq : ∀ c w, c < nc → w < nw → ¬ 10 + fdi ch on (fil nc (fus rm sv dm nw) mu) (sgw cx cy wx wy w) c nc = 0) : CxI l yL_bestCell wsL_bestCell 13 552 2 12 D (T5 cI cZ cJ cG cW) [.ref (d 0), .int p1, .ref o] (wO cJ o ot ++ ((wCo cI a b d mg pt bd tk ho ri lo fv hd lf la ++ wSo cI cW a b r2 hp rl cn be bw wo) ++ wL cI cZ cG a r nc nw cx cy ch rm on wx wy dm sv mu qq)) (fun rv wv => (∃ (z : S4) (P : Nat → Int32) (Y : Nat → Nat → Int32), rv = 0 ∧ IC nw p1 ∧ wv = (wO cJ o (vp_updL ot 0 (Int32.toInt64 (z.2.2.1 p1.toNatClampNeg))) ++ ((wCo cI a b d mg pt bd tk ho ri lo fv hd lf la ++ wSo cI cW a b r2 P z.1 z.2.1 z.2.2.1 z.2.2.2 Y) ++ wL cI cZ cG a r nc nw cx cy ch rm on wx wy dm sv (fil nc (fus rm sv dm nw) mu) (fil2 nw nc (fun w c => fqu cx cy ch on wx wy (fil nc (fus rm sv dm nw) mu) nc w c) qq))) ∧ GW nc nw rm on dm (fil2 nw nc (fun w c => fqu cx cy ch on wx wy (fil nc (fus rm sv dm nw) mu) nc w c) qq) bd 1000000 0 1 rl cn be P Y z) ∨ (rv = 1 ∧ ¬ (IC nw p1) ∧ wv = (wO cJ o ot ++ ((wCo cI a b d mg pt bd tk ho ri lo fv hd lf la ++ wSo cI cW a b r2 hp rl cn be bw wo) ++ wL cI cZ cG a r nc nw cx cy ch rm on wx wy dm sv mu qq)))) (fun Ev => False) := by
  refine cxI_ofH (cc := cL_bestCell) (maxL := 4) RL 1 [some (.ref (d 0)), some (.int p1), some (.ref o), none] (by decide +kernel) rfl rfl (Nat.le_of_ble_eq_true rfl) rfl (fun p_ e_ s_ m_ as_ bl_ me_ co_ C hret hE hX => ?_)
  refine g_aload_n C dL_bestCell_0 rfl ?_
  refine g_iconst C 0 dL_bestCell_1 (by decide +kernel) ?_
  refine g_aload_n C dL_bestCell_2 rfl ?_
  refine g_iload_n C dL_bestCell_3 rfl ?_
  refine gx_catchi C hX (wO cJ o ot) ((wCo cI a b d mg pt bd tk ho ri lo fv hd lf la ++ wSo cI cW a b r2 hp rl cn be bw wo) ++ wL cI cZ cG a r nc nw cx cy ch rm on wx wy dm sv mu qq) [.int p1] (t_X2_bestCell hl0 h5 h6 hr hg hq) rfl rfl (cwV 1 C.ts gL_bestCell_X2_bestCell rfl rfl rfl (by decide +kernel) ⟨Nat.le_of_ble_eq_true rfl, Nat.le_of_ble_eq_true rfl⟩) rfl rfl rfl (Nat.le_of_ble_eq_true rfl) dL_bestCell_4 ⟨Nat.le_of_ble_eq_true rfl, Nat.le_of_ble_eq_true rfl⟩ (fun E1 hx1 => ?_) (fun rv1 wv1 hp1 => ?_)
  · skip
    obtain ⟨hc1, rfl⟩ := hx1
    · refine ⟨12, (ct_1 hE (by decide) (by decide) (C.ts (.classLink RL 21 "java/lang/IndexOutOfBoundsException") (by decide +kernel)) hX.1.1.2.2), fun q9 => ?_⟩
      refine g_astore_n C [some (.ref (d 0)), some (.int p1), some (.ref o), some (.ref q9)] dL_bestCell_12 (by decide) rfl rfl ?_
      refine g_iconst C 1 dL_bestCell_13 (by decide +kernel) ?_
      exact gx_I (g_iret C hret dL_bestCell_14 (Nat.le_of_ble_eq_true rfl) (Nat.le_of_ble_eq_true rfl) (Or.inr ⟨rfl, hc1, rfl⟩))
  · skip
    obtain ⟨hok, z, P, Y, rfl, rfl, hz⟩ := hp1
    refine g_i2l C (Int32.toInt64 (z.2.2.1 p1.toNatClampNeg)) dL_bestCell_7 rfl ?_
    refine g_last C 0 2 rfl rfl 0 rfl (by omega) (by decide) (wO cJ o (vp_updL ot 0 (Int32.toInt64 (z.2.2.1 p1.toNatClampNeg))) ++ ((wCo cI a b d mg pt bd tk ho ri lo fv hd lf la ++ wSo cI cW a b r2 P z.1 z.2.1 z.2.2.1 z.2.2.2 Y) ++ wL cI cZ cG a r nc nw cx cy ch rm on wx wy dm sv (fil nc (fus rm sv dm nw) mu) (fil2 nw nc (fun w c => fqu cx cy ch on wx wy (fil nc (fus rm sv dm nw) mu) nc w c) qq))) rfl dL_bestCell_8 ?_
    refine g_goto C 15 dL_bestCell_9 (by decide) ?_
    refine g_iconst C 0 dL_bestCell_15 (by decide +kernel) ?_
    exact gx_I (g_iret C hret dL_bestCell_16 (Nat.le_of_ble_eq_true rfl) (Nat.le_of_ble_eq_true rfl) (Or.inl ⟨z, P, Y, rfl, hok, rfl, hz⟩))
