/-! the law's helpers with handlers -/
theorem ct_1 {s : State} {args : Array Value} {c : Code} {own E : String} {pc a b t k : Nat} {suf : List (Nat × Nat × Nat × Nat)} (hT : c.exceptionTable.toList = tableOf ((a, b, t, k) :: suf)) (hcv : covers ⟨a, b, t, k⟩ pc = true) (hk : k ≠ 0) (hcl : (Cond.classLink own k E).before args s = true) (hca : va_Nw (.castable E E) s) : CT s args c own E pc t :=
  ⟨[], ⟨a, b, t, k⟩, tableOf suf, E, hT, (fun z hz => absurd hz (List.not_mem_nil)), hcv, hk, hcl, va_Nw.use rfl hca, rfl⟩
theorem ct_2 {s : State} {args : Array Value} {c : Code} {own E F : String} {pc a b t k a1 b1 t1 k1 : Nat} {suf : List (Nat × Nat × Nat × Nat)} (hT : c.exceptionTable.toList = tableOf ((a1, b1, t1, k1) :: (a, b, t, k) :: suf)) (hk1 : k1 ≠ 0) (hcl1 : (Cond.classLink own k1 F).before args s = true) (hnc : va_Nc E F s) (hcv : covers ⟨a, b, t, k⟩ pc = true) (hk : k ≠ 0) (hcl : (Cond.classLink own k E).before args s = true) (hca : va_Nw (.castable E E) s) : CT s args c own E pc t :=
  ⟨[⟨a1, b1, t1, k1⟩], ⟨a, b, t, k⟩, tableOf suf, E, hT, (fun z hz => by rw [List.mem_singleton] at hz; subst hz; exact Or.inr ⟨hk1, F, hcl1, hnc⟩), hcv, hk, hcl, va_Nw.use rfl hca, rfl⟩
theorem ftn_1 {x : Int32} (h : ¬ ftn x = 0) : 1 = ftn x := by
  unfold ftn at h ⊢
  by_cases q : x = 0
  · rw [if_pos q]
  · rw [if_neg q] at h; exact absurd rfl h
set_option maxHeartbeats 1000000 in
set_option maxRecDepth 100000 in
theorem t_L_built {l : Launch} (hl0 : l.stackTraces = false) {D : va_G} {cI cZ cJ cG cW : ClassId} {a b d : Nat → Nat} {mg pt bd tk ho ri lo : Int32} {fv hd lf la : Nat → Int32} {r2 : Nat → Nat} {hp rl cn be : Nat → Int32} {bw : Int32} {wo : Nat → Nat → Int32} {r : Nat → Nat} {nc nw : Nat} {cx cy ch rm on wx wy dm sv mu : Nat → Int32} {qq : Nat → Nat → Int32} {p1 p2 p3 p4 : Int32} (h5 : nc ≤ 5) : CxI l yL_built wsL_built 8 137 9 54 D (T5 cI cZ cJ cG cW) [.ref (d 0), .int p1, .int p2, .int p3, .int p4] ((wCo cI a b d mg pt bd tk ho ri lo fv hd lf la ++ wSo cI cW a b r2 hp rl cn be bw wo) ++ wL cI cZ cG a r nc nw cx cy ch rm on wx wy dm sv mu qq) (fun rv wv => (rv = nI nc ∧ (inC p1 p2 p3 p4 ∧ nc < 5) ∧ wv = ((wCo cI a b d mg pt bd tk ho ri lo fv hd lf la ++ wSo cI cW a b r2 hp rl cn be bw wo) ++ wL cI cZ cG a r (nc + 1) nw (upd cx nc p1) (upd cy nc p2) (upd ch nc p3) (upd rm nc p4) (upd on nc 1) wx wy dm sv mu qq)) ∨ (rv = (-101) ∧ ¬ inC p1 p2 p3 p4 ∧ wv = ((wCo cI a b d mg pt bd tk ho ri lo fv hd lf la ++ wSo cI cW a b r2 hp rl cn be bw wo) ++ wL cI cZ cG a r nc nw cx cy ch rm on wx wy dm sv mu qq)) ∨ (rv = (-102) ∧ (inC p1 p2 p3 p4 ∧ ¬ nc < 5) ∧ wv = ((wCo cI a b d mg pt bd tk ho ri lo fv hd lf la ++ wSo cI cW a b r2 hp rl cn be bw wo) ++ wL cI cZ cG a r nc nw cx cy ch rm on wx wy dm sv mu qq))) (fun Ev => False) := by
  refine cxI_ofH (cc := cL_built) (maxL := 6) RL 1 [some (.ref (d 0)), some (.int p1), some (.int p2), some (.int p3), some (.int p4), none] (by decide +kernel) rfl rfl (Nat.le_of_ble_eq_true rfl) rfl (fun p_ e_ s_ m_ as_ bl_ me_ co_ C hret hE hX => ?_)
  refine g_aload_n C dL_built_0 rfl ?_
  refine g_iload_n C dL_built_1 rfl ?_
  refine g_iload_n C dL_built_2 rfl ?_
  refine g_iload_n C dL_built_3 rfl ?_
  refine g_iload C dL_built_4 rfl ?_
  refine gx_catchi C hX [] ((wCo cI a b d mg pt bd tk ho ri lo fv hd lf la ++ wSo cI cW a b r2 hp rl cn be bw wo) ++ wL cI cZ cG a r nc nw cx cy ch rm on wx wy dm sv mu qq) [.int p1, .int p2, .int p3, .int p4] (t_X2_cell hl0 h5) rfl rfl (cwV 4 C.ts gL_built_X2_cell rfl rfl rfl (by decide +kernel) ⟨Nat.le_of_ble_eq_true rfl, Nat.le_of_ble_eq_true rfl⟩) rfl rfl rfl (Nat.le_of_ble_eq_true rfl) dL_built_6 ⟨Nat.le_of_ble_eq_true rfl, Nat.le_of_ble_eq_true rfl⟩ (fun E1 hx1 => ?_) (fun rv1 wv1 hp1 => ?_)
  · skip
    obtain ⟨hc1, rfl⟩ | ⟨hc2, hc3, rfl⟩ := hx1
    · refine ⟨10, (ct_1 hE (by decide) (by decide) (C.ts (.classLink RL 29 "java/lang/IllegalArgumentException") (by decide +kernel)) hX.1.1.1), fun q9 => ?_⟩
      refine g_w (ws' := ((wCo cI a b d mg pt bd tk ho ri lo fv hd lf la ++ wSo cI cW a b r2 hp rl cn be bw wo) ++ wL cI cZ cG a r nc nw cx cy ch rm on wx wy dm sv mu qq)) rfl ?_
      refine g_astore C [some (.ref (d 0)), some (.int p1), some (.int p2), some (.int p3), some (.int p4), some (.ref q9)] dL_built_10 (by decide) rfl rfl ?_
      refine g_bipush C (-101) dL_built_12 (by decide +kernel) ?_
      exact gx_I (g_iret C hret dL_built_14 (Nat.le_of_ble_eq_true rfl) (Nat.le_of_ble_eq_true rfl) (Or.inr (Or.inl ⟨rfl, hc1, rfl⟩)))
    · refine ⟨15, (ct_2 hE (by decide) (C.ts (.classLink RL 29 "java/lang/IllegalArgumentException") (by decide +kernel)) hX.1.2.2.1.1 (by decide) (by decide) (C.ts (.classLink RL 31 "java/lang/IllegalStateException") (by decide +kernel)) hX.1.1.2.1), fun q9 => ?_⟩
      refine g_w (ws' := ((wCo cI a b d mg pt bd tk ho ri lo fv hd lf la ++ wSo cI cW a b r2 hp rl cn be bw wo) ++ wL cI cZ cG a r nc nw cx cy ch rm on wx wy dm sv mu qq)) rfl ?_
      refine g_astore C [some (.ref (d 0)), some (.int p1), some (.int p2), some (.int p3), some (.int p4), some (.ref q9)] dL_built_15 (by decide) rfl rfl ?_
      refine g_bipush C (-102) dL_built_17 (by decide +kernel) ?_
      exact gx_I (g_iret C hret dL_built_19 (Nat.le_of_ble_eq_true rfl) (Nat.le_of_ble_eq_true rfl) (Or.inr (Or.inr ⟨rfl, ⟨hc2, hc3⟩, rfl⟩)))
  · skip
    obtain ⟨hok, rfl, rfl⟩ := hp1
    exact gx_I (g_iret C hret dL_built_9 (Nat.le_of_ble_eq_true rfl) (Nat.le_of_ble_eq_true rfl) (Or.inl ⟨rfl, hok, rfl⟩))
set_option maxHeartbeats 1000000 in
set_option maxRecDepth 100000 in
theorem t_L_came {l : Launch} (hl0 : l.stackTraces = false) {D : va_G} {cI cZ cJ cG cW : ClassId} {a b d : Nat → Nat} {mg pt bd tk ho ri lo : Int32} {fv hd lf la : Nat → Int32} {r2 : Nat → Nat} {hp rl cn be : Nat → Int32} {bw : Int32} {wo : Nat → Nat → Int32} {r : Nat → Nat} {nc nw : Nat} {cx cy ch rm on wx wy dm sv mu : Nat → Int32} {qq : Nat → Nat → Int32} {p1 p2 p3 : Int32} (h6 : nw ≤ 6) : CxI l yL_came wsL_came 8 137 7 42 D (T5 cI cZ cJ cG cW) [.ref (d 0), .int p1, .int p2, .int p3] ((wCo cI a b d mg pt bd tk ho ri lo fv hd lf la ++ wSo cI cW a b r2 hp rl cn be bw wo) ++ wL cI cZ cG a r nc nw cx cy ch rm on wx wy dm sv mu qq) (fun rv wv => (rv = nI nw ∧ (inW p1 p2 p3 ∧ nw < 6) ∧ wv = ((wCo cI a b d mg pt bd tk ho ri lo (upd fv nw (-1)) (upd hd nw 0) (upd lf nw (-1)) la ++ wSo cI cW a b r2 hp rl cn be bw wo) ++ wL cI cZ cG a r nc (nw + 1) cx cy ch rm on (upd wx nw p1) (upd wy nw p2) (upd dm nw p3) (upd sv nw (-1)) mu qq)) ∨ (rv = (-101) ∧ ¬ inW p1 p2 p3 ∧ wv = ((wCo cI a b d mg pt bd tk ho ri lo fv hd lf la ++ wSo cI cW a b r2 hp rl cn be bw wo) ++ wL cI cZ cG a r nc nw cx cy ch rm on wx wy dm sv mu qq)) ∨ (rv = (-102) ∧ (inW p1 p2 p3 ∧ ¬ nw < 6) ∧ wv = ((wCo cI a b d mg pt bd tk ho ri lo fv hd lf la ++ wSo cI cW a b r2 hp rl cn be bw wo) ++ wL cI cZ cG a r nc nw cx cy ch rm on wx wy dm sv mu qq))) (fun Ev => False) := by
  refine cxI_ofH (cc := cL_came) (maxL := 5) RL 1 [some (.ref (d 0)), some (.int p1), some (.int p2), some (.int p3), none] (by decide +kernel) rfl rfl (Nat.le_of_ble_eq_true rfl) rfl (fun p_ e_ s_ m_ as_ bl_ me_ co_ C hret hE hX => ?_)
  refine g_aload_n C dL_came_0 rfl ?_
  refine g_iload_n C dL_came_1 rfl ?_
  refine g_iload_n C dL_came_2 rfl ?_
  refine g_iload_n C dL_came_3 rfl ?_
  refine gx_catchi C hX [] ((wCo cI a b d mg pt bd tk ho ri lo fv hd lf la ++ wSo cI cW a b r2 hp rl cn be bw wo) ++ wL cI cZ cG a r nc nw cx cy ch rm on wx wy dm sv mu qq) [.int p1, .int p2, .int p3] (t_X2_walker hl0 h6) rfl rfl (cwV 3 C.ts gL_came_X2_walker rfl rfl rfl (by decide +kernel) ⟨Nat.le_of_ble_eq_true rfl, Nat.le_of_ble_eq_true rfl⟩) rfl rfl rfl (Nat.le_of_ble_eq_true rfl) dL_came_4 ⟨Nat.le_of_ble_eq_true rfl, Nat.le_of_ble_eq_true rfl⟩ (fun E1 hx1 => ?_) (fun rv1 wv1 hp1 => ?_)
  · skip
    obtain ⟨hc1, rfl⟩ | ⟨hc2, hc3, rfl⟩ := hx1
    · refine ⟨8, (ct_1 hE (by decide) (by decide) (C.ts (.classLink RL 29 "java/lang/IllegalArgumentException") (by decide +kernel)) hX.1.1.1), fun q9 => ?_⟩
      refine g_w (ws' := ((wCo cI a b d mg pt bd tk ho ri lo fv hd lf la ++ wSo cI cW a b r2 hp rl cn be bw wo) ++ wL cI cZ cG a r nc nw cx cy ch rm on wx wy dm sv mu qq)) rfl ?_
      refine g_astore C [some (.ref (d 0)), some (.int p1), some (.int p2), some (.int p3), some (.ref q9)] dL_came_8 (by decide) rfl rfl ?_
      refine g_bipush C (-101) dL_came_10 (by decide +kernel) ?_
      exact gx_I (g_iret C hret dL_came_12 (Nat.le_of_ble_eq_true rfl) (Nat.le_of_ble_eq_true rfl) (Or.inr (Or.inl ⟨rfl, hc1, rfl⟩)))
    · refine ⟨13, (ct_2 hE (by decide) (C.ts (.classLink RL 29 "java/lang/IllegalArgumentException") (by decide +kernel)) hX.1.2.2.1.1 (by decide) (by decide) (C.ts (.classLink RL 31 "java/lang/IllegalStateException") (by decide +kernel)) hX.1.1.2.1), fun q9 => ?_⟩
      refine g_w (ws' := ((wCo cI a b d mg pt bd tk ho ri lo fv hd lf la ++ wSo cI cW a b r2 hp rl cn be bw wo) ++ wL cI cZ cG a r nc nw cx cy ch rm on wx wy dm sv mu qq)) rfl ?_
      refine g_astore C [some (.ref (d 0)), some (.int p1), some (.int p2), some (.int p3), some (.ref q9)] dL_came_13 (by decide) rfl rfl ?_
      refine g_bipush C (-102) dL_came_15 (by decide +kernel) ?_
      exact gx_I (g_iret C hret dL_came_17 (Nat.le_of_ble_eq_true rfl) (Nat.le_of_ble_eq_true rfl) (Or.inr (Or.inr ⟨rfl, ⟨hc2, hc3⟩, rfl⟩)))
  · skip
    obtain ⟨hok, rfl, rfl⟩ := hp1
    exact gx_I (g_iret C hret dL_came_7 (Nat.le_of_ble_eq_true rfl) (Nat.le_of_ble_eq_true rfl) (Or.inl ⟨rfl, hok, rfl⟩))
set_option maxHeartbeats 1000000 in
set_option maxRecDepth 100000 in
theorem t_L_turned {l : Launch} (hl0 : l.stackTraces = false) {D : va_G} {cI cZ cJ cG cW : ClassId} {a b d : Nat → Nat} {mg pt bd tk ho ri lo : Int32} {fv hd lf la : Nat → Int32} {r2 : Nat → Nat} {hp rl cn be : Nat → Int32} {bw : Int32} {wo : Nat → Nat → Int32} {r : Nat → Nat} {nc nw : Nat} {cx cy ch rm on wx wy dm sv mu : Nat → Int32} {qq : Nat → Nat → Int32} {p1 : Int32} (h5 : nc ≤ 5) (h6 : nw ≤ 6) : CxI l yL_turned wsL_turned 8 132 2 12 D (T5 cI cZ cJ cG cW) [.ref (d 0), .int p1] ((wCo cI a b d mg pt bd tk ho ri lo fv hd lf la ++ wSo cI cW a b r2 hp rl cn be bw wo) ++ wL cI cZ cG a r nc nw cx cy ch rm on wx wy dm sv mu qq) (fun rv wv => (rv = ftn (on p1.toNatClampNeg) ∧ IC nc p1 ∧ wv = ((wCo cI a b d mg pt bd tk ho ri lo ((if on p1.toNatClampNeg = 0 then (sv, fv, hd) else frw p1 (sv, fv, hd) nw).2.1) ((if on p1.toNatClampNeg = 0 then (sv, fv, hd) else frw p1 (sv, fv, hd) nw).2.2) lf la ++ wSo cI cW a b r2 hp rl cn be bw wo) ++ wL cI cZ cG a r nc nw cx cy ch rm (upd on p1.toNatClampNeg (ftn (on p1.toNatClampNeg))) wx wy dm ((if on p1.toNatClampNeg = 0 then (sv, fv, hd) else frw p1 (sv, fv, hd) nw).1) mu qq)) ∨ (rv = (-101) ∧ ¬ IC nc p1 ∧ wv = ((wCo cI a b d mg pt bd tk ho ri lo fv hd lf la ++ wSo cI cW a b r2 hp rl cn be bw wo) ++ wL cI cZ cG a r nc nw cx cy ch rm on wx wy dm sv mu qq))) (fun Ev => False) := by
  refine cxI_ofH (cc := cL_turned) (maxL := 3) RL 1 [some (.ref (d 0)), some (.int p1), none] (by decide +kernel) rfl rfl (Nat.le_of_ble_eq_true rfl) rfl (fun p_ e_ s_ m_ as_ bl_ me_ co_ C hret hE hX => ?_)
  refine g_aload_n C dL_turned_0 rfl ?_
  refine g_iload_n C dL_turned_1 rfl ?_
  refine gx_catchi C hX [] ((wCo cI a b d mg pt bd tk ho ri lo fv hd lf la ++ wSo cI cW a b r2 hp rl cn be bw wo) ++ wL cI cZ cG a r nc nw cx cy ch rm on wx wy dm sv mu qq) [.int p1] (t_X2_turn hl0 h5 h6) rfl rfl (cwV 1 C.ts gL_turned_X2_turn rfl rfl rfl (by decide +kernel) ⟨Nat.le_of_ble_eq_true rfl, Nat.le_of_ble_eq_true rfl⟩) rfl rfl rfl (Nat.le_of_ble_eq_true rfl) dL_turned_2 ⟨Nat.le_of_ble_eq_true rfl, Nat.le_of_ble_eq_true rfl⟩ (fun E1 hx1 => ?_) (fun rv1 wv1 hp1 => ?_)
  · skip
    obtain ⟨hc1, rfl⟩ := hx1
    · refine ⟨14, (ct_1 hE (by decide) (by decide) (C.ts (.classLink RL 41 "java/lang/IndexOutOfBoundsException") (by decide +kernel)) hX.1.1.2.2), fun q9 => ?_⟩
      refine g_w (ws' := ((wCo cI a b d mg pt bd tk ho ri lo fv hd lf la ++ wSo cI cW a b r2 hp rl cn be bw wo) ++ wL cI cZ cG a r nc nw cx cy ch rm on wx wy dm sv mu qq)) rfl ?_
      refine g_astore_n C [some (.ref (d 0)), some (.int p1), some (.ref q9)] dL_turned_14 (by decide) rfl rfl ?_
      refine g_bipush C (-101) dL_turned_15 (by decide +kernel) ?_
      exact gx_I (g_iret C hret dL_turned_17 (Nat.le_of_ble_eq_true rfl) (Nat.le_of_ble_eq_true rfl) (Or.inr ⟨rfl, hc1, rfl⟩))
  · skip
    obtain ⟨hok, rfl, rfl⟩ := hp1
    refine g_if_eq C 12 dL_turned_5 (by decide) (fun c_5 => ?_) (fun c_5 => ?_)
    · skip
      refine g_iconst C 0 dL_turned_12 (by decide +kernel) ?_
      exact gx_I (g_iret C hret dL_turned_13 (Nat.le_of_ble_eq_true rfl) (Nat.le_of_ble_eq_true rfl) (Or.inl ⟨c_5.symm, hok, rfl⟩))
    · skip
      refine g_iconst C 1 dL_turned_8 (by decide +kernel) ?_
      refine g_goto C 13 dL_turned_9 (by decide) ?_
      exact gx_I (g_iret C hret dL_turned_13 (Nat.le_of_ble_eq_true rfl) (Nat.le_of_ble_eq_true rfl) (Or.inl ⟨ftn_1 c_5, hok, rfl⟩))
set_option maxHeartbeats 1000000 in
set_option maxRecDepth 100000 in
theorem t_L_tuned {l : Launch} (hl0 : l.stackTraces = false) {D : va_G} {cI cZ cJ cG cW : ClassId} {a b d : Nat → Nat} {mg pt bd tk ho ri lo : Int32} {fv hd lf la : Nat → Int32} {r2 : Nat → Nat} {hp rl cn be : Nat → Int32} {bw : Int32} {wo : Nat → Nat → Int32} {r : Nat → Nat} {nc nw : Nat} {cx cy ch rm on wx wy dm sv mu : Nat → Int32} {qq : Nat → Nat → Int32} {p1 p2 : Int32} (h5 : nc ≤ 5) : CxI l yL_tuned wsL_tuned 8 136 4 24 D (T5 cI cZ cJ cG cW) [.ref (d 0), .int p1, .int p2] ((wCo cI a b d mg pt bd tk ho ri lo fv hd lf la ++ wSo cI cW a b r2 hp rl cn be bw wo) ++ wL cI cZ cG a r nc nw cx cy ch rm on wx wy dm sv mu qq) (fun rv wv => (rv = ch p1.toNatClampNeg ∧ (IC nc p1 ∧ (0 ≤ p2 ∧ p2 ≤ 2)) ∧ wv = ((wCo cI a b d mg pt bd tk ho ri lo fv hd lf la ++ wSo cI cW a b r2 hp rl cn be bw wo) ++ wL cI cZ cG a r nc nw cx cy (upd ch p1.toNatClampNeg p2) rm on wx wy dm sv mu qq)) ∨ (rv = (-101) ∧ ¬ IC nc p1 ∧ wv = ((wCo cI a b d mg pt bd tk ho ri lo fv hd lf la ++ wSo cI cW a b r2 hp rl cn be bw wo) ++ wL cI cZ cG a r nc nw cx cy ch rm on wx wy dm sv mu qq)) ∨ (rv = (-102) ∧ (IC nc p1 ∧ ¬ (0 ≤ p2 ∧ p2 ≤ 2)) ∧ wv = ((wCo cI a b d mg pt bd tk ho ri lo fv hd lf la ++ wSo cI cW a b r2 hp rl cn be bw wo) ++ wL cI cZ cG a r nc nw cx cy ch rm on wx wy dm sv mu qq))) (fun Ev => False) := by
  refine cxI_ofH (cc := cL_tuned) (maxL := 4) RL 1 [some (.ref (d 0)), some (.int p1), some (.int p2), none] (by decide +kernel) rfl rfl (Nat.le_of_ble_eq_true rfl) rfl (fun p_ e_ s_ m_ as_ bl_ me_ co_ C hret hE hX => ?_)
  refine g_aload_n C dL_tuned_0 rfl ?_
  refine g_iload_n C dL_tuned_1 rfl ?_
  refine g_iload_n C dL_tuned_2 rfl ?_
  refine gx_catchi C hX [] ((wCo cI a b d mg pt bd tk ho ri lo fv hd lf la ++ wSo cI cW a b r2 hp rl cn be bw wo) ++ wL cI cZ cG a r nc nw cx cy ch rm on wx wy dm sv mu qq) [.int p1, .int p2] (t_X2_tune hl0 h5) rfl rfl (cwV 2 C.ts gL_tuned_X2_tune rfl rfl rfl (by decide +kernel) ⟨Nat.le_of_ble_eq_true rfl, Nat.le_of_ble_eq_true rfl⟩) rfl rfl rfl (Nat.le_of_ble_eq_true rfl) dL_tuned_3 ⟨Nat.le_of_ble_eq_true rfl, Nat.le_of_ble_eq_true rfl⟩ (fun E1 hx1 => ?_) (fun rv1 wv1 hp1 => ?_)
  · skip
    obtain ⟨hc1, rfl⟩ | ⟨hc2, hc3, rfl⟩ := hx1
    · refine ⟨7, (ct_1 hE (by decide) (by decide) (C.ts (.classLink RL 41 "java/lang/IndexOutOfBoundsException") (by decide +kernel)) hX.1.1.2.2), fun q9 => ?_⟩
      refine g_w (ws' := ((wCo cI a b d mg pt bd tk ho ri lo fv hd lf la ++ wSo cI cW a b r2 hp rl cn be bw wo) ++ wL cI cZ cG a r nc nw cx cy ch rm on wx wy dm sv mu qq)) rfl ?_
      refine g_astore_n C [some (.ref (d 0)), some (.int p1), some (.int p2), some (.ref q9)] dL_tuned_7 (by decide) rfl rfl ?_
      refine g_bipush C (-101) dL_tuned_8 (by decide +kernel) ?_
      exact gx_I (g_iret C hret dL_tuned_10 (Nat.le_of_ble_eq_true rfl) (Nat.le_of_ble_eq_true rfl) (Or.inr (Or.inl ⟨rfl, hc1, rfl⟩)))
    · refine ⟨11, (ct_2 hE (by decide) (C.ts (.classLink RL 41 "java/lang/IndexOutOfBoundsException") (by decide +kernel)) hX.1.2.2.1.2 (by decide) (by decide) (C.ts (.classLink RL 29 "java/lang/IllegalArgumentException") (by decide +kernel)) hX.1.1.1), fun q9 => ?_⟩
      refine g_w (ws' := ((wCo cI a b d mg pt bd tk ho ri lo fv hd lf la ++ wSo cI cW a b r2 hp rl cn be bw wo) ++ wL cI cZ cG a r nc nw cx cy ch rm on wx wy dm sv mu qq)) rfl ?_
      refine g_astore_n C [some (.ref (d 0)), some (.int p1), some (.int p2), some (.ref q9)] dL_tuned_11 (by decide) rfl rfl ?_
      refine g_bipush C (-102) dL_tuned_12 (by decide +kernel) ?_
      exact gx_I (g_iret C hret dL_tuned_14 (Nat.le_of_ble_eq_true rfl) (Nat.le_of_ble_eq_true rfl) (Or.inr (Or.inr ⟨rfl, ⟨hc2, hc3⟩, rfl⟩)))
  · skip
    obtain ⟨hok, rfl, rfl⟩ := hp1
    exact gx_I (g_iret C hret dL_tuned_6 (Nat.le_of_ble_eq_true rfl) (Nat.le_of_ble_eq_true rfl) (Or.inl ⟨rfl, hok, rfl⟩))
set_option maxHeartbeats 1000000 in
set_option maxRecDepth 100000 in
theorem t_L_moved {l : Launch} (hl0 : l.stackTraces = false) {D : va_G} {cI cZ cJ cG cW : ClassId} {a b d : Nat → Nat} {mg pt bd tk ho ri lo : Int32} {fv hd lf la : Nat → Int32} {r2 : Nat → Nat} {hp rl cn be : Nat → Int32} {bw : Int32} {wo : Nat → Nat → Int32} {r : Nat → Nat} {nc nw : Nat} {cx cy ch rm on wx wy dm sv mu : Nat → Int32} {qq : Nat → Nat → Int32} {p1 p2 p3 : Int32} (h6 : nw ≤ 6) : CxI l yL_moved wsL_moved 8 140 6 36 D (T5 cI cZ cJ cG cW) [.ref (d 0), .int p1, .int p2, .int p3] ((wCo cI a b d mg pt bd tk ho ri lo fv hd lf la ++ wSo cI cW a b r2 hp rl cn be bw wo) ++ wL cI cZ cG a r nc nw cx cy ch rm on wx wy dm sv mu qq) (fun rv wv => (rv = 0 ∧ (IC nw p1 ∧ rng (mvx wx p1 p2) 0 63 ∧ rng (mvx wy p1 p3) 0 63) ∧ wv = ((wCo cI a b d mg pt bd tk ho ri lo fv hd lf la ++ wSo cI cW a b r2 hp rl cn be bw wo) ++ wL cI cZ cG a r nc nw cx cy ch rm on (upd wx p1.toNatClampNeg (mvx wx p1 p2).toInt32) (upd wy p1.toNatClampNeg (mvx wy p1 p3).toInt32) dm sv mu qq)) ∨ (rv = (-101) ∧ ¬ IC nw p1 ∧ wv = ((wCo cI a b d mg pt bd tk ho ri lo fv hd lf la ++ wSo cI cW a b r2 hp rl cn be bw wo) ++ wL cI cZ cG a r nc nw cx cy ch rm on wx wy dm sv mu qq)) ∨ (rv = (-102) ∧ (IC nw p1 ∧ ¬ (rng (mvx wx p1 p2) 0 63 ∧ rng (mvx wy p1 p3) 0 63)) ∧ wv = ((wCo cI a b d mg pt bd tk ho ri lo fv hd lf la ++ wSo cI cW a b r2 hp rl cn be bw wo) ++ wL cI cZ cG a r nc nw cx cy ch rm on wx wy dm sv mu qq))) (fun Ev => False) := by
  refine cxI_ofH (cc := cL_moved) (maxL := 5) RL 1 [some (.ref (d 0)), some (.int p1), some (.int p2), some (.int p3), none] (by decide +kernel) rfl rfl (Nat.le_of_ble_eq_true rfl) rfl (fun p_ e_ s_ m_ as_ bl_ me_ co_ C hret hE hX => ?_)
  refine g_aload_n C dL_moved_0 rfl ?_
  refine g_iload_n C dL_moved_1 rfl ?_
  refine g_iload_n C dL_moved_2 rfl ?_
  refine g_iload_n C dL_moved_3 rfl ?_
  refine gx_catchv C hX [] ((wCo cI a b d mg pt bd tk ho ri lo fv hd lf la ++ wSo cI cW a b r2 hp rl cn be bw wo) ++ wL cI cZ cG a r nc nw cx cy ch rm on wx wy dm sv mu qq) [.int p1, .int p2, .int p3] (t_X2_move hl0 h6) rfl rfl (cwV 3 C.ts gL_moved_X2_move rfl rfl rfl (by decide +kernel) ⟨Nat.le_of_ble_eq_true rfl, Nat.le_of_ble_eq_true rfl⟩) rfl rfl rfl (Nat.le_of_ble_eq_true rfl) dL_moved_4 ⟨Nat.le_of_ble_eq_true rfl, Nat.le_of_ble_eq_true rfl⟩ (fun E1 hx1 => ?_) (fun wv1 tv1 hp1 => ?_)
  · skip
    obtain ⟨hc1, rfl⟩ | ⟨hc2, hc3, rfl⟩ := hx1
    · refine ⟨9, (ct_1 hE (by decide) (by decide) (C.ts (.classLink RL 41 "java/lang/IndexOutOfBoundsException") (by decide +kernel)) hX.1.1.2.2), fun q9 => ?_⟩
      refine g_w (ws' := ((wCo cI a b d mg pt bd tk ho ri lo fv hd lf la ++ wSo cI cW a b r2 hp rl cn be bw wo) ++ wL cI cZ cG a r nc nw cx cy ch rm on wx wy dm sv mu qq)) rfl ?_
      refine g_astore C [some (.ref (d 0)), some (.int p1), some (.int p2), some (.int p3), some (.ref q9)] dL_moved_9 (by decide) rfl rfl ?_
      refine g_bipush C (-101) dL_moved_11 (by decide +kernel) ?_
      exact gx_I (g_iret C hret dL_moved_13 (Nat.le_of_ble_eq_true rfl) (Nat.le_of_ble_eq_true rfl) (Or.inr (Or.inl ⟨rfl, hc1, rfl⟩)))
    · refine ⟨14, (ct_2 hE (by decide) (C.ts (.classLink RL 41 "java/lang/IndexOutOfBoundsException") (by decide +kernel)) hX.1.2.2.1.2 (by decide) (by decide) (C.ts (.classLink RL 29 "java/lang/IllegalArgumentException") (by decide +kernel)) hX.1.1.1), fun q9 => ?_⟩
      refine g_w (ws' := ((wCo cI a b d mg pt bd tk ho ri lo fv hd lf la ++ wSo cI cW a b r2 hp rl cn be bw wo) ++ wL cI cZ cG a r nc nw cx cy ch rm on wx wy dm sv mu qq)) rfl ?_
      refine g_astore C [some (.ref (d 0)), some (.int p1), some (.int p2), some (.int p3), some (.ref q9)] dL_moved_14 (by decide) rfl rfl ?_
      refine g_bipush C (-102) dL_moved_16 (by decide +kernel) ?_
      exact gx_I (g_iret C hret dL_moved_18 (Nat.le_of_ble_eq_true rfl) (Nat.le_of_ble_eq_true rfl) (Or.inr (Or.inr ⟨rfl, ⟨hc2, hc3⟩, rfl⟩)))
  · skip
    obtain ⟨hok, rfl, rfl⟩ := hp1
    refine g_iconst C 0 dL_moved_7 (by decide +kernel) ?_
    exact gx_I (g_iret C hret dL_moved_8 (Nat.le_of_ble_eq_true rfl) (Nat.le_of_ble_eq_true rfl) (Or.inl ⟨rfl, hok, rfl⟩))
set_option maxHeartbeats 1000000 in
set_option maxRecDepth 100000 in
theorem t_L_set_0 {l : Launch} (hl0 : l.stackTraces = false) {D : va_G} {cI cZ cJ cG cW : ClassId} {a b d : Nat → Nat} {mg pt bd tk ho ri lo : Int32} {fv hd lf la : Nat → Int32} {r2 : Nat → Nat} {hp rl cn be : Nat → Int32} {bw : Int32} {wo : Nat → Nat → Int32} {r : Nat → Nat} {nc nw : Nat} {cx cy ch rm on wx wy dm sv mu : Nat → Int32} {qq : Nat → Nat → Int32} {p1 : Int32}  : CxI l yL_set wsL_set 8 135 2 12 D (T5 cI cZ cJ cG cW) [.ref (d 0), .int 0, .int p1] ((wCo cI a b d mg pt bd tk ho ri lo fv hd lf la ++ wSo cI cW a b r2 hp rl cn be bw wo) ++ wL cI cZ cG a r nc nw cx cy ch rm on wx wy dm sv mu qq) (fun rv wv => (rv = mg ∧ (0 ≤ p1 ∧ p1 ≤ 1000) ∧ wv = ((wCo cI a b d p1 pt bd tk ho ri lo fv hd lf la ++ wSo cI cW a b r2 hp rl cn be bw wo) ++ wL cI cZ cG a r nc nw cx cy ch rm on wx wy dm sv mu qq)) ∨ (rv = (-101) ∧ ¬ ((0 ≤ p1 ∧ p1 ≤ 1000)) ∧ wv = ((wCo cI a b d mg pt bd tk ho ri lo fv hd lf la ++ wSo cI cW a b r2 hp rl cn be bw wo) ++ wL cI cZ cG a r nc nw cx cy ch rm on wx wy dm sv mu qq))) (fun Ev => False) := by
  refine cxI_ofH (cc := cL_set) (maxL := 4) RL 1 [some (.ref (d 0)), some (.int 0), some (.int p1), none] (by decide +kernel) rfl rfl (Nat.le_of_ble_eq_true rfl) rfl (fun p_ e_ s_ m_ as_ bl_ me_ co_ C hret hE hX => ?_)
  refine g_iload_n C dL_set_0 rfl ?_
  refine g_if_ne C 12 dL_set_1 (by decide) (fun c9 => absurd rfl c9) (fun _ => ?_)
  refine g_aload_n C dL_set_4 rfl ?_
  refine g_iload_n C dL_set_5 rfl ?_
  refine gx_catchi C hX [] ((wCo cI a b d mg pt bd tk ho ri lo fv hd lf la ++ wSo cI cW a b r2 hp rl cn be bw wo) ++ wL cI cZ cG a r nc nw cx cy ch rm on wx wy dm sv mu qq) [.int p1] (t_X2_margin hl0) rfl rfl (cwV 1 C.ts gL_set_X2_margin rfl rfl rfl (by decide +kernel) ⟨Nat.le_of_ble_eq_true rfl, Nat.le_of_ble_eq_true rfl⟩) rfl rfl rfl (Nat.le_of_ble_eq_true rfl) dL_set_6 ⟨Nat.le_of_ble_eq_true rfl, Nat.le_of_ble_eq_true rfl⟩ (fun E1 hx1 => ?_) (fun rv1 wv1 hp1 => ?_)
  · skip
    obtain ⟨hc1, rfl⟩ := hx1
    · refine ⟨44, (ct_1 hE (by decide) (by decide) (C.ts (.classLink RL 29 "java/lang/IllegalArgumentException") (by decide +kernel)) hX.1.1.1), fun q9 => ?_⟩
      refine g_w (ws' := ((wCo cI a b d mg pt bd tk ho ri lo fv hd lf la ++ wSo cI cW a b r2 hp rl cn be bw wo) ++ wL cI cZ cG a r nc nw cx cy ch rm on wx wy dm sv mu qq)) rfl ?_
      refine g_astore_n C [some (.ref (d 0)), some (.int 0), some (.int p1), some (.ref q9)] dL_set_44 (by decide) rfl rfl ?_
      refine g_bipush C (-101) dL_set_45 (by decide +kernel) ?_
      exact gx_I (g_iret C hret dL_set_47 (Nat.le_of_ble_eq_true rfl) (Nat.le_of_ble_eq_true rfl) (Or.inr ⟨rfl, hc1, rfl⟩))
  · skip
    obtain ⟨hok, hr9, rfl⟩ := hp1
    have hr9 := hr9.symm
    subst hr9
    refine g_goto C 43 dL_set_9 (by decide) ?_
    exact gx_I (g_iret C hret dL_set_43 (Nat.le_of_ble_eq_true rfl) (Nat.le_of_ble_eq_true rfl) (Or.inl ⟨rfl, hok, rfl⟩))
set_option maxHeartbeats 1000000 in
set_option maxRecDepth 100000 in
theorem t_L_set_1 {l : Launch} (hl0 : l.stackTraces = false) {D : va_G} {cI cZ cJ cG cW : ClassId} {a b d : Nat → Nat} {mg pt bd tk ho ri lo : Int32} {fv hd lf la : Nat → Int32} {r2 : Nat → Nat} {hp rl cn be : Nat → Int32} {bw : Int32} {wo : Nat → Nat → Int32} {r : Nat → Nat} {nc nw : Nat} {cx cy ch rm on wx wy dm sv mu : Nat → Int32} {qq : Nat → Nat → Int32} {p1 : Int32}  : CxI l yL_set wsL_set 8 135 2 12 D (T5 cI cZ cJ cG cW) [.ref (d 0), .int 1, .int p1] ((wCo cI a b d mg pt bd tk ho ri lo fv hd lf la ++ wSo cI cW a b r2 hp rl cn be bw wo) ++ wL cI cZ cG a r nc nw cx cy ch rm on wx wy dm sv mu qq) (fun rv wv => (rv = pt ∧ (1 ≤ p1 ∧ p1 ≤ 10) ∧ wv = ((wCo cI a b d mg p1 bd tk ho ri lo fv hd lf la ++ wSo cI cW a b r2 hp rl cn be bw wo) ++ wL cI cZ cG a r nc nw cx cy ch rm on wx wy dm sv mu qq)) ∨ (rv = (-101) ∧ ¬ ((1 ≤ p1 ∧ p1 ≤ 10)) ∧ wv = ((wCo cI a b d mg pt bd tk ho ri lo fv hd lf la ++ wSo cI cW a b r2 hp rl cn be bw wo) ++ wL cI cZ cG a r nc nw cx cy ch rm on wx wy dm sv mu qq))) (fun Ev => False) := by
  refine cxI_ofH (cc := cL_set) (maxL := 4) RL 1 [some (.ref (d 0)), some (.int 1), some (.int p1), none] (by decide +kernel) rfl rfl (Nat.le_of_ble_eq_true rfl) rfl (fun p_ e_ s_ m_ as_ bl_ me_ co_ C hret hE hX => ?_)
  refine g_iload_n C dL_set_0 rfl ?_
  refine g_if_ne C 12 dL_set_1 (by decide) (fun _ => ?_) (fun c9 => absurd c9 (by decide))
  refine g_iload_n C dL_set_12 rfl ?_
  refine g_iconst C 1 dL_set_13 (by decide +kernel) ?_
  refine g_icmp_ne C 25 dL_set_14 (by decide) (fun c9 => absurd rfl c9) (fun _ => ?_)
  refine g_aload_n C dL_set_17 rfl ?_
  refine g_iload_n C dL_set_18 rfl ?_
  refine gx_catchi C hX [] ((wCo cI a b d mg pt bd tk ho ri lo fv hd lf la ++ wSo cI cW a b r2 hp rl cn be bw wo) ++ wL cI cZ cG a r nc nw cx cy ch rm on wx wy dm sv mu qq) [.int p1] (t_X2_patience hl0) rfl rfl (cwV 1 C.ts gL_set_X2_patience rfl rfl rfl (by decide +kernel) ⟨Nat.le_of_ble_eq_true rfl, Nat.le_of_ble_eq_true rfl⟩) rfl rfl rfl (Nat.le_of_ble_eq_true rfl) dL_set_19 ⟨Nat.le_of_ble_eq_true rfl, Nat.le_of_ble_eq_true rfl⟩ (fun E1 hx1 => ?_) (fun rv1 wv1 hp1 => ?_)
  · skip
    obtain ⟨hc1, rfl⟩ := hx1
    · refine ⟨44, (ct_1 hE (by decide) (by decide) (C.ts (.classLink RL 29 "java/lang/IllegalArgumentException") (by decide +kernel)) hX.1.1.1), fun q9 => ?_⟩
      refine g_w (ws' := ((wCo cI a b d mg pt bd tk ho ri lo fv hd lf la ++ wSo cI cW a b r2 hp rl cn be bw wo) ++ wL cI cZ cG a r nc nw cx cy ch rm on wx wy dm sv mu qq)) rfl ?_
      refine g_astore_n C [some (.ref (d 0)), some (.int 1), some (.int p1), some (.ref q9)] dL_set_44 (by decide) rfl rfl ?_
      refine g_bipush C (-101) dL_set_45 (by decide +kernel) ?_
      exact gx_I (g_iret C hret dL_set_47 (Nat.le_of_ble_eq_true rfl) (Nat.le_of_ble_eq_true rfl) (Or.inr ⟨rfl, hc1, rfl⟩))
  · skip
    obtain ⟨hok, hr9, rfl⟩ := hp1
    have hr9 := hr9.symm
    subst hr9
    refine g_goto C 43 dL_set_22 (by decide) ?_
    exact gx_I (g_iret C hret dL_set_43 (Nat.le_of_ble_eq_true rfl) (Nat.le_of_ble_eq_true rfl) (Or.inl ⟨rfl, hok, rfl⟩))
set_option maxHeartbeats 1000000 in
set_option maxRecDepth 100000 in
theorem t_L_set_2 {l : Launch} (hl0 : l.stackTraces = false) {D : va_G} {cI cZ cJ cG cW : ClassId} {a b d : Nat → Nat} {mg pt bd tk ho ri lo : Int32} {fv hd lf la : Nat → Int32} {r2 : Nat → Nat} {hp rl cn be : Nat → Int32} {bw : Int32} {wo : Nat → Nat → Int32} {r : Nat → Nat} {nc nw : Nat} {cx cy ch rm on wx wy dm sv mu : Nat → Int32} {qq : Nat → Nat → Int32} {p1 : Int32}  : CxI l yL_set wsL_set 8 135 2 12 D (T5 cI cZ cJ cG cW) [.ref (d 0), .int 2, .int p1] ((wCo cI a b d mg pt bd tk ho ri lo fv hd lf la ++ wSo cI cW a b r2 hp rl cn be bw wo) ++ wL cI cZ cG a r nc nw cx cy ch rm on wx wy dm sv mu qq) (fun rv wv => (rv = bd ∧ (1 ≤ p1 ∧ p1 ≤ 10000) ∧ wv = ((wCo cI a b d mg pt p1 tk ho ri lo fv hd lf la ++ wSo cI cW a b r2 hp rl cn be bw wo) ++ wL cI cZ cG a r nc nw cx cy ch rm on wx wy dm sv mu qq)) ∨ (rv = (-101) ∧ ¬ ((1 ≤ p1 ∧ p1 ≤ 10000)) ∧ wv = ((wCo cI a b d mg pt bd tk ho ri lo fv hd lf la ++ wSo cI cW a b r2 hp rl cn be bw wo) ++ wL cI cZ cG a r nc nw cx cy ch rm on wx wy dm sv mu qq))) (fun Ev => False) := by
  refine cxI_ofH (cc := cL_set) (maxL := 4) RL 1 [some (.ref (d 0)), some (.int 2), some (.int p1), none] (by decide +kernel) rfl rfl (Nat.le_of_ble_eq_true rfl) rfl (fun p_ e_ s_ m_ as_ bl_ me_ co_ C hret hE hX => ?_)
  refine g_iload_n C dL_set_0 rfl ?_
  refine g_if_ne C 12 dL_set_1 (by decide) (fun _ => ?_) (fun c9 => absurd c9 (by decide))
  refine g_iload_n C dL_set_12 rfl ?_
  refine g_iconst C 1 dL_set_13 (by decide +kernel) ?_
  refine g_icmp_ne C 25 dL_set_14 (by decide) (fun _ => ?_) (fun c9 => absurd c9 (by decide))
  refine g_iload_n C dL_set_25 rfl ?_
  refine g_iconst C 2 dL_set_26 (by decide +kernel) ?_
  refine g_icmp_ne C 38 dL_set_27 (by decide) (fun c9 => absurd rfl c9) (fun _ => ?_)
  refine g_aload_n C dL_set_30 rfl ?_
  refine g_iload_n C dL_set_31 rfl ?_
  refine gx_catchi C hX [] ((wCo cI a b d mg pt bd tk ho ri lo fv hd lf la ++ wSo cI cW a b r2 hp rl cn be bw wo) ++ wL cI cZ cG a r nc nw cx cy ch rm on wx wy dm sv mu qq) [.int p1] (t_X2_bound hl0) rfl rfl (cwV 1 C.ts gL_set_X2_bound rfl rfl rfl (by decide +kernel) ⟨Nat.le_of_ble_eq_true rfl, Nat.le_of_ble_eq_true rfl⟩) rfl rfl rfl (Nat.le_of_ble_eq_true rfl) dL_set_32 ⟨Nat.le_of_ble_eq_true rfl, Nat.le_of_ble_eq_true rfl⟩ (fun E1 hx1 => ?_) (fun rv1 wv1 hp1 => ?_)
  · skip
    obtain ⟨hc1, rfl⟩ := hx1
    · refine ⟨44, (ct_1 hE (by decide) (by decide) (C.ts (.classLink RL 29 "java/lang/IllegalArgumentException") (by decide +kernel)) hX.1.1.1), fun q9 => ?_⟩
      refine g_w (ws' := ((wCo cI a b d mg pt bd tk ho ri lo fv hd lf la ++ wSo cI cW a b r2 hp rl cn be bw wo) ++ wL cI cZ cG a r nc nw cx cy ch rm on wx wy dm sv mu qq)) rfl ?_
      refine g_astore_n C [some (.ref (d 0)), some (.int 2), some (.int p1), some (.ref q9)] dL_set_44 (by decide) rfl rfl ?_
      refine g_bipush C (-101) dL_set_45 (by decide +kernel) ?_
      exact gx_I (g_iret C hret dL_set_47 (Nat.le_of_ble_eq_true rfl) (Nat.le_of_ble_eq_true rfl) (Or.inr ⟨rfl, hc1, rfl⟩))
  · skip
    obtain ⟨hok, hr9, rfl⟩ := hp1
    have hr9 := hr9.symm
    subst hr9
    refine g_goto C 43 dL_set_35 (by decide) ?_
    exact gx_I (g_iret C hret dL_set_43 (Nat.le_of_ble_eq_true rfl) (Nat.le_of_ble_eq_true rfl) (Or.inl ⟨rfl, hok, rfl⟩))
set_option maxHeartbeats 1000000 in
set_option maxRecDepth 100000 in
theorem t_L_set_3 {l : Launch} (hl0 : l.stackTraces = false) {D : va_G} {cI cZ cJ cG cW : ClassId} {a b d : Nat → Nat} {mg pt bd tk ho ri lo : Int32} {fv hd lf la : Nat → Int32} {r2 : Nat → Nat} {hp rl cn be : Nat → Int32} {bw : Int32} {wo : Nat → Nat → Int32} {r : Nat → Nat} {nc nw : Nat} {cx cy ch rm on wx wy dm sv mu : Nat → Int32} {qq : Nat → Nat → Int32} {p1 : Int32} (h5 : nc ≤ 5) (h6 : nw ≤ 6) (hr : ∀ c, c < nc → ¬ rm c ≤ 0) (hg : ∀ c w, c < nc → w < nw → ¬ dsq (cx c) (cy c) (wx w) (wy w) = 0) (hQ : GQ nc nw cx cy ch on wx wy rm dm) (hsv : ∀ j, j < nw → SV nc (sv j)) : CxI l yL_set wsL_set 8 154 2 12 D (T5 cI cZ cJ cG cW) [.ref (d 0), .int 3, .int p1] ((wCo cI a b d mg pt bd tk ho ri lo fv hd lf la ++ wSo cI cW a b r2 hp rl cn be bw wo) ++ wL cI cZ cG a r nc nw cx cy ch rm on wx wy dm sv mu qq) (fun rv wv => (rv = (fti cx cy ch on wx wy rm dm nc nw mg pt bd (tk, mu, qq, sv, fv, hd, lf, la, ho, ri, lo) p1.toNatClampNeg).2.2.2.2.2.2.2.2.1 - ho ∧ (1 ≤ p1 ∧ p1 ≤ 20) ∧ wv = ((wCo cI a b d mg pt bd ((fti cx cy ch on wx wy rm dm nc nw mg pt bd (tk, mu, qq, sv, fv, hd, lf, la, ho, ri, lo) p1.toNatClampNeg).1) ((fti cx cy ch on wx wy rm dm nc nw mg pt bd (tk, mu, qq, sv, fv, hd, lf, la, ho, ri, lo) p1.toNatClampNeg).2.2.2.2.2.2.2.2.1) ((fti cx cy ch on wx wy rm dm nc nw mg pt bd (tk, mu, qq, sv, fv, hd, lf, la, ho, ri, lo) p1.toNatClampNeg).2.2.2.2.2.2.2.2.2.1) ((fti cx cy ch on wx wy rm dm nc nw mg pt bd (tk, mu, qq, sv, fv, hd, lf, la, ho, ri, lo) p1.toNatClampNeg).2.2.2.2.2.2.2.2.2.2) ((fti cx cy ch on wx wy rm dm nc nw mg pt bd (tk, mu, qq, sv, fv, hd, lf, la, ho, ri, lo) p1.toNatClampNeg).2.2.2.2.1) ((fti cx cy ch on wx wy rm dm nc nw mg pt bd (tk, mu, qq, sv, fv, hd, lf, la, ho, ri, lo) p1.toNatClampNeg).2.2.2.2.2.1) ((fti cx cy ch on wx wy rm dm nc nw mg pt bd (tk, mu, qq, sv, fv, hd, lf, la, ho, ri, lo) p1.toNatClampNeg).2.2.2.2.2.2.1) ((fti cx cy ch on wx wy rm dm nc nw mg pt bd (tk, mu, qq, sv, fv, hd, lf, la, ho, ri, lo) p1.toNatClampNeg).2.2.2.2.2.2.2.1) ++ wSo cI cW a b r2 hp rl cn be bw wo) ++ wL cI cZ cG a r nc nw cx cy ch rm on wx wy dm ((fti cx cy ch on wx wy rm dm nc nw mg pt bd (tk, mu, qq, sv, fv, hd, lf, la, ho, ri, lo) p1.toNatClampNeg).2.2.2.1) ((fti cx cy ch on wx wy rm dm nc nw mg pt bd (tk, mu, qq, sv, fv, hd, lf, la, ho, ri, lo) p1.toNatClampNeg).2.1) ((fti cx cy ch on wx wy rm dm nc nw mg pt bd (tk, mu, qq, sv, fv, hd, lf, la, ho, ri, lo) p1.toNatClampNeg).2.2.1))) ∨ (rv = (-101) ∧ ¬ ((1 ≤ p1 ∧ p1 ≤ 20)) ∧ wv = ((wCo cI a b d mg pt bd tk ho ri lo fv hd lf la ++ wSo cI cW a b r2 hp rl cn be bw wo) ++ wL cI cZ cG a r nc nw cx cy ch rm on wx wy dm sv mu qq))) (fun Ev => False) := by
  refine cxI_ofH (cc := cL_set) (maxL := 4) RL 1 [some (.ref (d 0)), some (.int 3), some (.int p1), none] (by decide +kernel) rfl rfl (Nat.le_of_ble_eq_true rfl) rfl (fun p_ e_ s_ m_ as_ bl_ me_ co_ C hret hE hX => ?_)
  refine g_iload_n C dL_set_0 rfl ?_
  refine g_if_ne C 12 dL_set_1 (by decide) (fun _ => ?_) (fun c9 => absurd c9 (by decide))
  refine g_iload_n C dL_set_12 rfl ?_
  refine g_iconst C 1 dL_set_13 (by decide +kernel) ?_
  refine g_icmp_ne C 25 dL_set_14 (by decide) (fun _ => ?_) (fun c9 => absurd c9 (by decide))
  refine g_iload_n C dL_set_25 rfl ?_
  refine g_iconst C 2 dL_set_26 (by decide +kernel) ?_
  refine g_icmp_ne C 38 dL_set_27 (by decide) (fun _ => ?_) (fun c9 => absurd c9 (by decide))
  refine g_aload_n C dL_set_38 rfl ?_
  refine g_iload_n C dL_set_39 rfl ?_
  refine gx_catchi C hX [] ((wCo cI a b d mg pt bd tk ho ri lo fv hd lf la ++ wSo cI cW a b r2 hp rl cn be bw wo) ++ wL cI cZ cG a r nc nw cx cy ch rm on wx wy dm sv mu qq) [.int p1] (t_X2_tick hl0 h5 h6 hr hg hQ hsv) rfl rfl (cwV 1 C.ts gL_set_X2_tick rfl rfl rfl (by decide +kernel) ⟨Nat.le_of_ble_eq_true rfl, Nat.le_of_ble_eq_true rfl⟩) rfl rfl rfl (Nat.le_of_ble_eq_true rfl) dL_set_40 ⟨Nat.le_of_ble_eq_true rfl, Nat.le_of_ble_eq_true rfl⟩ (fun E1 hx1 => ?_) (fun rv1 wv1 hp1 => ?_)
  · skip
    obtain ⟨hc1, rfl⟩ := hx1
    · refine ⟨44, (ct_1 hE (by decide) (by decide) (C.ts (.classLink RL 29 "java/lang/IllegalArgumentException") (by decide +kernel)) hX.1.1.1), fun q9 => ?_⟩
      refine g_w (ws' := ((wCo cI a b d mg pt bd tk ho ri lo fv hd lf la ++ wSo cI cW a b r2 hp rl cn be bw wo) ++ wL cI cZ cG a r nc nw cx cy ch rm on wx wy dm sv mu qq)) rfl ?_
      refine g_astore_n C [some (.ref (d 0)), some (.int 3), some (.int p1), some (.ref q9)] dL_set_44 (by decide) rfl rfl ?_
      refine g_bipush C (-101) dL_set_45 (by decide +kernel) ?_
      exact gx_I (g_iret C hret dL_set_47 (Nat.le_of_ble_eq_true rfl) (Nat.le_of_ble_eq_true rfl) (Or.inr ⟨rfl, hc1, rfl⟩))
  · skip
    obtain ⟨hok, rfl, rfl⟩ := hp1
    exact gx_I (g_iret C hret dL_set_43 (Nat.le_of_ble_eq_true rfl) (Nat.le_of_ble_eq_true rfl) (Or.inl ⟨rfl, hok, rfl⟩))
set_option maxHeartbeats 1000000 in
set_option maxRecDepth 100000 in
theorem t_L_of_0 {l : Launch} (hl0 : l.stackTraces = false) {D : va_G} {cI cZ cJ cG cW : ClassId} {a b d : Nat → Nat} {mg pt bd tk ho ri lo : Int32} {fv hd lf la : Nat → Int32} {r2 : Nat → Nat} {hp rl cn be : Nat → Int32} {bw : Int32} {wo : Nat → Nat → Int32} {r : Nat → Nat} {nc nw : Nat} {cx cy ch rm on wx wy dm sv mu : Nat → Int32} {qq : Nat → Nat → Int32} {p1 p2 : Int32} (h5 : nc ≤ 5) (h6 : nw ≤ 6) (hg : ∀ c w, c < nc → w < nw → ¬ dsq (cx c) (cy c) (wx w) (wy w) = 0) : CxI l yL_of wsL_of 8 133 4 24 D (T5 cI cZ cJ cG cW) [.ref (d 0), .int 0, .int p1, .int p2] ((wCo cI a b d mg pt bd tk ho ri lo fv hd lf la ++ wSo cI cW a b r2 hp rl cn be bw wo) ++ wL cI cZ cG a r nc nw cx cy ch rm on wx wy dm sv mu qq) (fun rv wv => (rv = sg cx cy wx wy p1.toNatClampNeg p2.toNatClampNeg ∧ (IC nc p1 ∧ IC nw p2) ∧ wv = ((wCo cI a b d mg pt bd tk ho ri lo fv hd lf la ++ wSo cI cW a b r2 hp rl cn be bw wo) ++ wL cI cZ cG a r nc nw cx cy ch rm on wx wy dm sv mu qq)) ∨ (rv = (-101) ∧ ¬ ((IC nc p1 ∧ IC nw p2)) ∧ wv = ((wCo cI a b d mg pt bd tk ho ri lo fv hd lf la ++ wSo cI cW a b r2 hp rl cn be bw wo) ++ wL cI cZ cG a r nc nw cx cy ch rm on wx wy dm sv mu qq))) (fun Ev => False) := by
  refine cxI_ofH (cc := cL_of) (maxL := 5) RL 1 [some (.ref (d 0)), some (.int 0), some (.int p1), some (.int p2), none] (by decide +kernel) rfl rfl (Nat.le_of_ble_eq_true rfl) rfl (fun p_ e_ s_ m_ as_ bl_ me_ co_ C hret hE hX => ?_)
  refine g_iload_n C dL_of_0 rfl ?_
  refine g_if_ne C 13 dL_of_1 (by decide) (fun c9 => absurd rfl c9) (fun _ => ?_)
  refine g_aload_n C dL_of_4 rfl ?_
  refine g_iload_n C dL_of_5 rfl ?_
  refine g_iload_n C dL_of_6 rfl ?_
  refine gx_catchi C hX [] ((wCo cI a b d mg pt bd tk ho ri lo fv hd lf la ++ wSo cI cW a b r2 hp rl cn be bw wo) ++ wL cI cZ cG a r nc nw cx cy ch rm on wx wy dm sv mu qq) [.int p1, .int p2] (t_X2_signal hl0 h5 h6 hg) rfl rfl (cwV 2 C.ts gL_of_X2_signal rfl rfl rfl (by decide +kernel) ⟨Nat.le_of_ble_eq_true rfl, Nat.le_of_ble_eq_true rfl⟩) rfl rfl rfl (Nat.le_of_ble_eq_true rfl) dL_of_7 ⟨Nat.le_of_ble_eq_true rfl, Nat.le_of_ble_eq_true rfl⟩ (fun E1 hx1 => ?_) (fun rv1 wv1 hp1 => ?_)
  · skip
    obtain ⟨hc1, rfl⟩ := hx1
    · refine ⟨99, (ct_1 hE (by decide) (by decide) (C.ts (.classLink RL 41 "java/lang/IndexOutOfBoundsException") (by decide +kernel)) hX.1.1.2.2), fun q9 => ?_⟩
      refine g_w (ws' := ((wCo cI a b d mg pt bd tk ho ri lo fv hd lf la ++ wSo cI cW a b r2 hp rl cn be bw wo) ++ wL cI cZ cG a r nc nw cx cy ch rm on wx wy dm sv mu qq)) rfl ?_
      refine g_astore C [some (.ref (d 0)), some (.int 0), some (.int p1), some (.int p2), some (.ref q9)] dL_of_99 (by decide) rfl rfl ?_
      refine g_bipush C (-101) dL_of_101 (by decide +kernel) ?_
      exact gx_I (g_iret C hret dL_of_103 (Nat.le_of_ble_eq_true rfl) (Nat.le_of_ble_eq_true rfl) (Or.inr ⟨rfl, hc1, rfl⟩))
  · skip
    obtain ⟨hok, rfl, rfl⟩ := hp1
    refine g_goto C 98 dL_of_10 (by decide) ?_
    exact gx_I (g_iret C hret dL_of_98 (Nat.le_of_ble_eq_true rfl) (Nat.le_of_ble_eq_true rfl) (Or.inl ⟨rfl, hok, rfl⟩))
set_option maxHeartbeats 1000000 in
set_option maxRecDepth 100000 in
theorem t_L_of_1 {l : Launch} (hl0 : l.stackTraces = false) {D : va_G} {cI cZ cJ cG cW : ClassId} {a b d : Nat → Nat} {mg pt bd tk ho ri lo : Int32} {fv hd lf la : Nat → Int32} {r2 : Nat → Nat} {hp rl cn be : Nat → Int32} {bw : Int32} {wo : Nat → Nat → Int32} {r : Nat → Nat} {nc nw : Nat} {cx cy ch rm on wx wy dm sv mu : Nat → Int32} {qq : Nat → Nat → Int32} {p1 p2 : Int32} (h5 : nc ≤ 5) (h6 : nw ≤ 6) (hr : ∀ c, c < nc → ¬ rm c ≤ 0) (hg : ∀ c w, c < nc → w < nw → ¬ dsq (cx c) (cy c) (wx w) (wy w) = 0) (hq : ∀ c w, c < nc → w < nw → ¬ 10 + fdi ch on (fil nc (fus rm sv dm nw) mu) (sgw cx cy wx wy w) c nc = 0) : CxI l yL_of wsL_of 8 133 4 24 D (T5 cI cZ cJ cG cW) [.ref (d 0), .int 1, .int p1, .int p2] ((wCo cI a b d mg pt bd tk ho ri lo fv hd lf la ++ wSo cI cW a b r2 hp rl cn be bw wo) ++ wL cI cZ cG a r nc nw cx cy ch rm on wx wy dm sv mu qq) (fun rv wv => (rv = fqu cx cy ch on wx wy (fil nc (fus rm sv dm nw) mu) nc p2.toNatClampNeg p1.toNatClampNeg ∧ (IC nc p1 ∧ IC nw p2) ∧ wv = ((wCo cI a b d mg pt bd tk ho ri lo fv hd lf la ++ wSo cI cW a b r2 hp rl cn be bw wo) ++ wL cI cZ cG a r nc nw cx cy ch rm on wx wy dm sv (fil nc (fus rm sv dm nw) mu) (fil2 nw nc (fun w c => fqu cx cy ch on wx wy (fil nc (fus rm sv dm nw) mu) nc w c) qq))) ∨ (rv = (-101) ∧ ¬ ((IC nc p1 ∧ IC nw p2)) ∧ wv = ((wCo cI a b d mg pt bd tk ho ri lo fv hd lf la ++ wSo cI cW a b r2 hp rl cn be bw wo) ++ wL cI cZ cG a r nc nw cx cy ch rm on wx wy dm sv mu qq))) (fun Ev => False) := by
  refine cxI_ofH (cc := cL_of) (maxL := 5) RL 1 [some (.ref (d 0)), some (.int 1), some (.int p1), some (.int p2), none] (by decide +kernel) rfl rfl (Nat.le_of_ble_eq_true rfl) rfl (fun p_ e_ s_ m_ as_ bl_ me_ co_ C hret hE hX => ?_)
  refine g_iload_n C dL_of_0 rfl ?_
  refine g_if_ne C 13 dL_of_1 (by decide) (fun _ => ?_) (fun c9 => absurd c9 (by decide))
  refine g_iload_n C dL_of_13 rfl ?_
  refine g_iconst C 1 dL_of_14 (by decide +kernel) ?_
  refine g_icmp_ne C 27 dL_of_15 (by decide) (fun c9 => absurd rfl c9) (fun _ => ?_)
  refine g_aload_n C dL_of_18 rfl ?_
  refine g_iload_n C dL_of_19 rfl ?_
  refine g_iload_n C dL_of_20 rfl ?_
  refine gx_catchi C hX [] ((wCo cI a b d mg pt bd tk ho ri lo fv hd lf la ++ wSo cI cW a b r2 hp rl cn be bw wo) ++ wL cI cZ cG a r nc nw cx cy ch rm on wx wy dm sv mu qq) [.int p1, .int p2] (t_X2_quality hl0 h5 h6 hr hg hq) rfl rfl (cwV 2 C.ts gL_of_X2_quality rfl rfl rfl (by decide +kernel) ⟨Nat.le_of_ble_eq_true rfl, Nat.le_of_ble_eq_true rfl⟩) rfl rfl rfl (Nat.le_of_ble_eq_true rfl) dL_of_21 ⟨Nat.le_of_ble_eq_true rfl, Nat.le_of_ble_eq_true rfl⟩ (fun E1 hx1 => ?_) (fun rv1 wv1 hp1 => ?_)
  · skip
    obtain ⟨hc1, rfl⟩ := hx1
    · refine ⟨99, (ct_1 hE (by decide) (by decide) (C.ts (.classLink RL 41 "java/lang/IndexOutOfBoundsException") (by decide +kernel)) hX.1.1.2.2), fun q9 => ?_⟩
      refine g_w (ws' := ((wCo cI a b d mg pt bd tk ho ri lo fv hd lf la ++ wSo cI cW a b r2 hp rl cn be bw wo) ++ wL cI cZ cG a r nc nw cx cy ch rm on wx wy dm sv mu qq)) rfl ?_
      refine g_astore C [some (.ref (d 0)), some (.int 1), some (.int p1), some (.int p2), some (.ref q9)] dL_of_99 (by decide) rfl rfl ?_
      refine g_bipush C (-101) dL_of_101 (by decide +kernel) ?_
      exact gx_I (g_iret C hret dL_of_103 (Nat.le_of_ble_eq_true rfl) (Nat.le_of_ble_eq_true rfl) (Or.inr ⟨rfl, hc1, rfl⟩))
  · skip
    obtain ⟨hok, rfl, rfl⟩ := hp1
    refine g_goto C 98 dL_of_24 (by decide) ?_
    exact gx_I (g_iret C hret dL_of_98 (Nat.le_of_ble_eq_true rfl) (Nat.le_of_ble_eq_true rfl) (Or.inl ⟨rfl, hok, rfl⟩))
set_option maxHeartbeats 1000000 in
set_option maxRecDepth 100000 in
theorem t_L_of_2 {l : Launch} (hl0 : l.stackTraces = false) {D : va_G} {cI cZ cJ cG cW : ClassId} {a b d : Nat → Nat} {mg pt bd tk ho ri lo : Int32} {fv hd lf la : Nat → Int32} {r2 : Nat → Nat} {hp rl cn be : Nat → Int32} {bw : Int32} {wo : Nat → Nat → Int32} {r : Nat → Nat} {nc nw : Nat} {cx cy ch rm on wx wy dm sv mu : Nat → Int32} {qq : Nat → Nat → Int32} {p1 p2 : Int32} (h5 : nc ≤ 5) (h6 : nw ≤ 6) : CxI l yL_of wsL_of 8 132 2 12 D (T5 cI cZ cJ cG cW) [.ref (d 0), .int 2, .int p1, .int p2] ((wCo cI a b d mg pt bd tk ho ri lo fv hd lf la ++ wSo cI cW a b r2 hp rl cn be bw wo) ++ wL cI cZ cG a r nc nw cx cy ch rm on wx wy dm sv mu qq) (fun rv wv => (rv = fld sv dm p1 nw ∧ IC nc p1 ∧ wv = ((wCo cI a b d mg pt bd tk ho ri lo fv hd lf la ++ wSo cI cW a b r2 hp rl cn be bw wo) ++ wL cI cZ cG a r nc nw cx cy ch rm on wx wy dm sv mu qq)) ∨ (rv = (-101) ∧ ¬ (IC nc p1) ∧ wv = ((wCo cI a b d mg pt bd tk ho ri lo fv hd lf la ++ wSo cI cW a b r2 hp rl cn be bw wo) ++ wL cI cZ cG a r nc nw cx cy ch rm on wx wy dm sv mu qq))) (fun Ev => False) := by
  refine cxI_ofH (cc := cL_of) (maxL := 5) RL 1 [some (.ref (d 0)), some (.int 2), some (.int p1), some (.int p2), none] (by decide +kernel) rfl rfl (Nat.le_of_ble_eq_true rfl) rfl (fun p_ e_ s_ m_ as_ bl_ me_ co_ C hret hE hX => ?_)
  refine g_iload_n C dL_of_0 rfl ?_
  refine g_if_ne C 13 dL_of_1 (by decide) (fun _ => ?_) (fun c9 => absurd c9 (by decide))
  refine g_iload_n C dL_of_13 rfl ?_
  refine g_iconst C 1 dL_of_14 (by decide +kernel) ?_
  refine g_icmp_ne C 27 dL_of_15 (by decide) (fun _ => ?_) (fun c9 => absurd c9 (by decide))
  refine g_iload_n C dL_of_27 rfl ?_
  refine g_iconst C 2 dL_of_28 (by decide +kernel) ?_
  refine g_icmp_ne C 40 dL_of_29 (by decide) (fun c9 => absurd rfl c9) (fun _ => ?_)
  refine g_aload_n C dL_of_32 rfl ?_
  refine g_iload_n C dL_of_33 rfl ?_
  refine gx_catchi C hX [] ((wCo cI a b d mg pt bd tk ho ri lo fv hd lf la ++ wSo cI cW a b r2 hp rl cn be bw wo) ++ wL cI cZ cG a r nc nw cx cy ch rm on wx wy dm sv mu qq) [.int p1] (t_X2_load hl0 h5 h6) rfl rfl (cwV 1 C.ts gL_of_X2_load rfl rfl rfl (by decide +kernel) ⟨Nat.le_of_ble_eq_true rfl, Nat.le_of_ble_eq_true rfl⟩) rfl rfl rfl (Nat.le_of_ble_eq_true rfl) dL_of_34 ⟨Nat.le_of_ble_eq_true rfl, Nat.le_of_ble_eq_true rfl⟩ (fun E1 hx1 => ?_) (fun rv1 wv1 hp1 => ?_)
  · skip
    obtain ⟨hc1, rfl⟩ := hx1
    · refine ⟨99, (ct_1 hE (by decide) (by decide) (C.ts (.classLink RL 41 "java/lang/IndexOutOfBoundsException") (by decide +kernel)) hX.1.1.2.2), fun q9 => ?_⟩
      refine g_w (ws' := ((wCo cI a b d mg pt bd tk ho ri lo fv hd lf la ++ wSo cI cW a b r2 hp rl cn be bw wo) ++ wL cI cZ cG a r nc nw cx cy ch rm on wx wy dm sv mu qq)) rfl ?_
      refine g_astore C [some (.ref (d 0)), some (.int 2), some (.int p1), some (.int p2), some (.ref q9)] dL_of_99 (by decide) rfl rfl ?_
      refine g_bipush C (-101) dL_of_101 (by decide +kernel) ?_
      exact gx_I (g_iret C hret dL_of_103 (Nat.le_of_ble_eq_true rfl) (Nat.le_of_ble_eq_true rfl) (Or.inr ⟨rfl, hc1, rfl⟩))
  · skip
    obtain ⟨hok, rfl, rfl⟩ := hp1
    refine g_goto C 98 dL_of_37 (by decide) ?_
    exact gx_I (g_iret C hret dL_of_98 (Nat.le_of_ble_eq_true rfl) (Nat.le_of_ble_eq_true rfl) (Or.inl ⟨rfl, hok, rfl⟩))
set_option maxHeartbeats 1000000 in
set_option maxRecDepth 100000 in
theorem t_L_of_3 {l : Launch} (hl0 : l.stackTraces = false) {D : va_G} {cI cZ cJ cG cW : ClassId} {a b d : Nat → Nat} {mg pt bd tk ho ri lo : Int32} {fv hd lf la : Nat → Int32} {r2 : Nat → Nat} {hp rl cn be : Nat → Int32} {bw : Int32} {wo : Nat → Nat → Int32} {r : Nat → Nat} {nc nw : Nat} {cx cy ch rm on wx wy dm sv mu : Nat → Int32} {qq : Nat → Nat → Int32} {p1 p2 : Int32} (h5 : nc ≤ 5) (h6 : nw ≤ 6) (hr : ∀ c, c < nc → ¬ rm c ≤ 0) : CxI l yL_of wsL_of 8 132 2 12 D (T5 cI cZ cJ cG cW) [.ref (d 0), .int 3, .int p1, .int p2] ((wCo cI a b d mg pt bd tk ho ri lo fv hd lf la ++ wSo cI cW a b r2 hp rl cn be bw wo) ++ wL cI cZ cG a r nc nw cx cy ch rm on wx wy dm sv mu qq) (fun rv wv => (rv = fus rm sv dm nw p1.toNatClampNeg ∧ IC nc p1 ∧ wv = ((wCo cI a b d mg pt bd tk ho ri lo fv hd lf la ++ wSo cI cW a b r2 hp rl cn be bw wo) ++ wL cI cZ cG a r nc nw cx cy ch rm on wx wy dm sv mu qq)) ∨ (rv = (-101) ∧ ¬ (IC nc p1) ∧ wv = ((wCo cI a b d mg pt bd tk ho ri lo fv hd lf la ++ wSo cI cW a b r2 hp rl cn be bw wo) ++ wL cI cZ cG a r nc nw cx cy ch rm on wx wy dm sv mu qq))) (fun Ev => False) := by
  refine cxI_ofH (cc := cL_of) (maxL := 5) RL 1 [some (.ref (d 0)), some (.int 3), some (.int p1), some (.int p2), none] (by decide +kernel) rfl rfl (Nat.le_of_ble_eq_true rfl) rfl (fun p_ e_ s_ m_ as_ bl_ me_ co_ C hret hE hX => ?_)
  refine g_iload_n C dL_of_0 rfl ?_
  refine g_if_ne C 13 dL_of_1 (by decide) (fun _ => ?_) (fun c9 => absurd c9 (by decide))
  refine g_iload_n C dL_of_13 rfl ?_
  refine g_iconst C 1 dL_of_14 (by decide +kernel) ?_
  refine g_icmp_ne C 27 dL_of_15 (by decide) (fun _ => ?_) (fun c9 => absurd c9 (by decide))
  refine g_iload_n C dL_of_27 rfl ?_
  refine g_iconst C 2 dL_of_28 (by decide +kernel) ?_
  refine g_icmp_ne C 40 dL_of_29 (by decide) (fun _ => ?_) (fun c9 => absurd c9 (by decide))
  refine g_iload_n C dL_of_40 rfl ?_
  refine g_iconst C 3 dL_of_41 (by decide +kernel) ?_
  refine g_icmp_ne C 53 dL_of_42 (by decide) (fun c9 => absurd rfl c9) (fun _ => ?_)
  refine g_aload_n C dL_of_45 rfl ?_
  refine g_iload_n C dL_of_46 rfl ?_
  refine gx_catchi C hX [] ((wCo cI a b d mg pt bd tk ho ri lo fv hd lf la ++ wSo cI cW a b r2 hp rl cn be bw wo) ++ wL cI cZ cG a r nc nw cx cy ch rm on wx wy dm sv mu qq) [.int p1] (t_X2_use hl0 h5 h6 hr) rfl rfl (cwV 1 C.ts gL_of_X2_use rfl rfl rfl (by decide +kernel) ⟨Nat.le_of_ble_eq_true rfl, Nat.le_of_ble_eq_true rfl⟩) rfl rfl rfl (Nat.le_of_ble_eq_true rfl) dL_of_47 ⟨Nat.le_of_ble_eq_true rfl, Nat.le_of_ble_eq_true rfl⟩ (fun E1 hx1 => ?_) (fun rv1 wv1 hp1 => ?_)
  · skip
    obtain ⟨hc1, rfl⟩ := hx1
    · refine ⟨99, (ct_1 hE (by decide) (by decide) (C.ts (.classLink RL 41 "java/lang/IndexOutOfBoundsException") (by decide +kernel)) hX.1.1.2.2), fun q9 => ?_⟩
      refine g_w (ws' := ((wCo cI a b d mg pt bd tk ho ri lo fv hd lf la ++ wSo cI cW a b r2 hp rl cn be bw wo) ++ wL cI cZ cG a r nc nw cx cy ch rm on wx wy dm sv mu qq)) rfl ?_
      refine g_astore C [some (.ref (d 0)), some (.int 3), some (.int p1), some (.int p2), some (.ref q9)] dL_of_99 (by decide) rfl rfl ?_
      refine g_bipush C (-101) dL_of_101 (by decide +kernel) ?_
      exact gx_I (g_iret C hret dL_of_103 (Nat.le_of_ble_eq_true rfl) (Nat.le_of_ble_eq_true rfl) (Or.inr ⟨rfl, hc1, rfl⟩))
  · skip
    obtain ⟨hok, rfl, rfl⟩ := hp1
    refine g_goto C 98 dL_of_50 (by decide) ?_
    exact gx_I (g_iret C hret dL_of_98 (Nat.le_of_ble_eq_true rfl) (Nat.le_of_ble_eq_true rfl) (Or.inl ⟨rfl, hok, rfl⟩))
set_option maxHeartbeats 1000000 in
set_option maxRecDepth 100000 in
theorem t_L_of_4 {l : Launch} (hl0 : l.stackTraces = false) {D : va_G} {cI cZ cJ cG cW : ClassId} {a b d : Nat → Nat} {mg pt bd tk ho ri lo : Int32} {fv hd lf la : Nat → Int32} {r2 : Nat → Nat} {hp rl cn be : Nat → Int32} {bw : Int32} {wo : Nat → Nat → Int32} {r : Nat → Nat} {nc nw : Nat} {cx cy ch rm on wx wy dm sv mu : Nat → Int32} {qq : Nat → Nat → Int32} {p1 p2 : Int32} (h5 : nc ≤ 5) (h6 : nw ≤ 6) : CxI l yL_of wsL_of 8 132 2 12 D (T5 cI cZ cJ cG cW) [.ref (d 0), .int 4, .int p1, .int p2] ((wCo cI a b d mg pt bd tk ho ri lo fv hd lf la ++ wSo cI cW a b r2 hp rl cn be bw wo) ++ wL cI cZ cG a r nc nw cx cy ch rm on wx wy dm sv mu qq) (fun rv wv => (rv = sv p1.toNatClampNeg ∧ IC nw p1 ∧ wv = ((wCo cI a b d mg pt bd tk ho ri lo fv hd lf la ++ wSo cI cW a b r2 hp rl cn be bw wo) ++ wL cI cZ cG a r nc nw cx cy ch rm on wx wy dm sv mu qq)) ∨ (rv = (-101) ∧ ¬ (IC nw p1) ∧ wv = ((wCo cI a b d mg pt bd tk ho ri lo fv hd lf la ++ wSo cI cW a b r2 hp rl cn be bw wo) ++ wL cI cZ cG a r nc nw cx cy ch rm on wx wy dm sv mu qq))) (fun Ev => False) := by
  refine cxI_ofH (cc := cL_of) (maxL := 5) RL 1 [some (.ref (d 0)), some (.int 4), some (.int p1), some (.int p2), none] (by decide +kernel) rfl rfl (Nat.le_of_ble_eq_true rfl) rfl (fun p_ e_ s_ m_ as_ bl_ me_ co_ C hret hE hX => ?_)
  refine g_iload_n C dL_of_0 rfl ?_
  refine g_if_ne C 13 dL_of_1 (by decide) (fun _ => ?_) (fun c9 => absurd c9 (by decide))
  refine g_iload_n C dL_of_13 rfl ?_
  refine g_iconst C 1 dL_of_14 (by decide +kernel) ?_
  refine g_icmp_ne C 27 dL_of_15 (by decide) (fun _ => ?_) (fun c9 => absurd c9 (by decide))
  refine g_iload_n C dL_of_27 rfl ?_
  refine g_iconst C 2 dL_of_28 (by decide +kernel) ?_
  refine g_icmp_ne C 40 dL_of_29 (by decide) (fun _ => ?_) (fun c9 => absurd c9 (by decide))
  refine g_iload_n C dL_of_40 rfl ?_
  refine g_iconst C 3 dL_of_41 (by decide +kernel) ?_
  refine g_icmp_ne C 53 dL_of_42 (by decide) (fun _ => ?_) (fun c9 => absurd c9 (by decide))
  refine g_iload_n C dL_of_53 rfl ?_
  refine g_iconst C 4 dL_of_54 (by decide +kernel) ?_
  refine g_icmp_ne C 66 dL_of_55 (by decide) (fun c9 => absurd rfl c9) (fun _ => ?_)
  refine g_aload_n C dL_of_58 rfl ?_
  refine g_iload_n C dL_of_59 rfl ?_
  refine gx_catchi C hX [] ((wCo cI a b d mg pt bd tk ho ri lo fv hd lf la ++ wSo cI cW a b r2 hp rl cn be bw wo) ++ wL cI cZ cG a r nc nw cx cy ch rm on wx wy dm sv mu qq) [.int p1] (t_X2_servedBy hl0 h5 h6) rfl rfl (cwV 1 C.ts gL_of_X2_servedBy rfl rfl rfl (by decide +kernel) ⟨Nat.le_of_ble_eq_true rfl, Nat.le_of_ble_eq_true rfl⟩) rfl rfl rfl (Nat.le_of_ble_eq_true rfl) dL_of_60 ⟨Nat.le_of_ble_eq_true rfl, Nat.le_of_ble_eq_true rfl⟩ (fun E1 hx1 => ?_) (fun rv1 wv1 hp1 => ?_)
  · skip
    obtain ⟨hc1, rfl⟩ := hx1
    · refine ⟨99, (ct_1 hE (by decide) (by decide) (C.ts (.classLink RL 41 "java/lang/IndexOutOfBoundsException") (by decide +kernel)) hX.1.1.2.2), fun q9 => ?_⟩
      refine g_w (ws' := ((wCo cI a b d mg pt bd tk ho ri lo fv hd lf la ++ wSo cI cW a b r2 hp rl cn be bw wo) ++ wL cI cZ cG a r nc nw cx cy ch rm on wx wy dm sv mu qq)) rfl ?_
      refine g_astore C [some (.ref (d 0)), some (.int 4), some (.int p1), some (.int p2), some (.ref q9)] dL_of_99 (by decide) rfl rfl ?_
      refine g_bipush C (-101) dL_of_101 (by decide +kernel) ?_
      exact gx_I (g_iret C hret dL_of_103 (Nat.le_of_ble_eq_true rfl) (Nat.le_of_ble_eq_true rfl) (Or.inr ⟨rfl, hc1, rfl⟩))
  · skip
    obtain ⟨hok, rfl, rfl⟩ := hp1
    refine g_goto C 98 dL_of_63 (by decide) ?_
    exact gx_I (g_iret C hret dL_of_98 (Nat.le_of_ble_eq_true rfl) (Nat.le_of_ble_eq_true rfl) (Or.inl ⟨rfl, hok, rfl⟩))
set_option maxHeartbeats 1000000 in
set_option maxRecDepth 100000 in
theorem t_L_of_5 {l : Launch} (hl0 : l.stackTraces = false) {D : va_G} {cI cZ cJ cG cW : ClassId} {a b d : Nat → Nat} {mg pt bd tk ho ri lo : Int32} {fv hd lf la : Nat → Int32} {r2 : Nat → Nat} {hp rl cn be : Nat → Int32} {bw : Int32} {wo : Nat → Nat → Int32} {r : Nat → Nat} {nc nw : Nat} {cx cy ch rm on wx wy dm sv mu : Nat → Int32} {qq : Nat → Nat → Int32} {p1 p2 : Int32} (h5 : nc ≤ 5) (h6 : nw ≤ 6) : CxI l yL_of wsL_of 8 132 2 12 D (T5 cI cZ cJ cG cW) [.ref (d 0), .int 5, .int p1, .int p2] ((wCo cI a b d mg pt bd tk ho ri lo fv hd lf la ++ wSo cI cW a b r2 hp rl cn be bw wo) ++ wL cI cZ cG a r nc nw cx cy ch rm on wx wy dm sv mu qq) (fun rv wv => (rv = fv p1.toNatClampNeg ∧ IC nw p1 ∧ wv = ((wCo cI a b d mg pt bd tk ho ri lo fv hd lf la ++ wSo cI cW a b r2 hp rl cn be bw wo) ++ wL cI cZ cG a r nc nw cx cy ch rm on wx wy dm sv mu qq)) ∨ (rv = (-101) ∧ ¬ (IC nw p1) ∧ wv = ((wCo cI a b d mg pt bd tk ho ri lo fv hd lf la ++ wSo cI cW a b r2 hp rl cn be bw wo) ++ wL cI cZ cG a r nc nw cx cy ch rm on wx wy dm sv mu qq))) (fun Ev => False) := by
  refine cxI_ofH (cc := cL_of) (maxL := 5) RL 1 [some (.ref (d 0)), some (.int 5), some (.int p1), some (.int p2), none] (by decide +kernel) rfl rfl (Nat.le_of_ble_eq_true rfl) rfl (fun p_ e_ s_ m_ as_ bl_ me_ co_ C hret hE hX => ?_)
  refine g_iload_n C dL_of_0 rfl ?_
  refine g_if_ne C 13 dL_of_1 (by decide) (fun _ => ?_) (fun c9 => absurd c9 (by decide))
  refine g_iload_n C dL_of_13 rfl ?_
  refine g_iconst C 1 dL_of_14 (by decide +kernel) ?_
  refine g_icmp_ne C 27 dL_of_15 (by decide) (fun _ => ?_) (fun c9 => absurd c9 (by decide))
  refine g_iload_n C dL_of_27 rfl ?_
  refine g_iconst C 2 dL_of_28 (by decide +kernel) ?_
  refine g_icmp_ne C 40 dL_of_29 (by decide) (fun _ => ?_) (fun c9 => absurd c9 (by decide))
  refine g_iload_n C dL_of_40 rfl ?_
  refine g_iconst C 3 dL_of_41 (by decide +kernel) ?_
  refine g_icmp_ne C 53 dL_of_42 (by decide) (fun _ => ?_) (fun c9 => absurd c9 (by decide))
  refine g_iload_n C dL_of_53 rfl ?_
  refine g_iconst C 4 dL_of_54 (by decide +kernel) ?_
  refine g_icmp_ne C 66 dL_of_55 (by decide) (fun _ => ?_) (fun c9 => absurd c9 (by decide))
  refine g_iload_n C dL_of_66 rfl ?_
  refine g_iconst C 5 dL_of_67 (by decide +kernel) ?_
  refine g_icmp_ne C 79 dL_of_68 (by decide) (fun c9 => absurd rfl c9) (fun _ => ?_)
  refine g_aload_n C dL_of_71 rfl ?_
  refine g_iload_n C dL_of_72 rfl ?_
  refine gx_catchi C hX [] ((wCo cI a b d mg pt bd tk ho ri lo fv hd lf la ++ wSo cI cW a b r2 hp rl cn be bw wo) ++ wL cI cZ cG a r nc nw cx cy ch rm on wx wy dm sv mu qq) [.int p1] (t_X2_favourite hl0 h5 h6) rfl rfl (cwV 1 C.ts gL_of_X2_favourite rfl rfl rfl (by decide +kernel) ⟨Nat.le_of_ble_eq_true rfl, Nat.le_of_ble_eq_true rfl⟩) rfl rfl rfl (Nat.le_of_ble_eq_true rfl) dL_of_73 ⟨Nat.le_of_ble_eq_true rfl, Nat.le_of_ble_eq_true rfl⟩ (fun E1 hx1 => ?_) (fun rv1 wv1 hp1 => ?_)
  · skip
    obtain ⟨hc1, rfl⟩ := hx1
    · refine ⟨99, (ct_1 hE (by decide) (by decide) (C.ts (.classLink RL 41 "java/lang/IndexOutOfBoundsException") (by decide +kernel)) hX.1.1.2.2), fun q9 => ?_⟩
      refine g_w (ws' := ((wCo cI a b d mg pt bd tk ho ri lo fv hd lf la ++ wSo cI cW a b r2 hp rl cn be bw wo) ++ wL cI cZ cG a r nc nw cx cy ch rm on wx wy dm sv mu qq)) rfl ?_
      refine g_astore C [some (.ref (d 0)), some (.int 5), some (.int p1), some (.int p2), some (.ref q9)] dL_of_99 (by decide) rfl rfl ?_
      refine g_bipush C (-101) dL_of_101 (by decide +kernel) ?_
      exact gx_I (g_iret C hret dL_of_103 (Nat.le_of_ble_eq_true rfl) (Nat.le_of_ble_eq_true rfl) (Or.inr ⟨rfl, hc1, rfl⟩))
  · skip
    obtain ⟨hok, rfl, rfl⟩ := hp1
    refine g_goto C 98 dL_of_76 (by decide) ?_
    exact gx_I (g_iret C hret dL_of_98 (Nat.le_of_ble_eq_true rfl) (Nat.le_of_ble_eq_true rfl) (Or.inl ⟨rfl, hok, rfl⟩))
set_option maxHeartbeats 1000000 in
set_option maxRecDepth 100000 in
theorem t_L_of_6 {l : Launch} (hl0 : l.stackTraces = false) {D : va_G} {cI cZ cJ cG cW : ClassId} {a b d : Nat → Nat} {mg pt bd tk ho ri lo : Int32} {fv hd lf la : Nat → Int32} {r2 : Nat → Nat} {hp rl cn be : Nat → Int32} {bw : Int32} {wo : Nat → Nat → Int32} {r : Nat → Nat} {nc nw : Nat} {cx cy ch rm on wx wy dm sv mu : Nat → Int32} {qq : Nat → Nat → Int32} {p1 p2 : Int32} (h5 : nc ≤ 5) (h6 : nw ≤ 6) : CxI l yL_of wsL_of 8 132 2 12 D (T5 cI cZ cJ cG cW) [.ref (d 0), .int 6, .int p1, .int p2] ((wCo cI a b d mg pt bd tk ho ri lo fv hd lf la ++ wSo cI cW a b r2 hp rl cn be bw wo) ++ wL cI cZ cG a r nc nw cx cy ch rm on wx wy dm sv mu qq) (fun rv wv => (rv = hd p1.toNatClampNeg ∧ IC nw p1 ∧ wv = ((wCo cI a b d mg pt bd tk ho ri lo fv hd lf la ++ wSo cI cW a b r2 hp rl cn be bw wo) ++ wL cI cZ cG a r nc nw cx cy ch rm on wx wy dm sv mu qq)) ∨ (rv = (-101) ∧ ¬ (IC nw p1) ∧ wv = ((wCo cI a b d mg pt bd tk ho ri lo fv hd lf la ++ wSo cI cW a b r2 hp rl cn be bw wo) ++ wL cI cZ cG a r nc nw cx cy ch rm on wx wy dm sv mu qq))) (fun Ev => False) := by
  refine cxI_ofH (cc := cL_of) (maxL := 5) RL 1 [some (.ref (d 0)), some (.int 6), some (.int p1), some (.int p2), none] (by decide +kernel) rfl rfl (Nat.le_of_ble_eq_true rfl) rfl (fun p_ e_ s_ m_ as_ bl_ me_ co_ C hret hE hX => ?_)
  refine g_iload_n C dL_of_0 rfl ?_
  refine g_if_ne C 13 dL_of_1 (by decide) (fun _ => ?_) (fun c9 => absurd c9 (by decide))
  refine g_iload_n C dL_of_13 rfl ?_
  refine g_iconst C 1 dL_of_14 (by decide +kernel) ?_
  refine g_icmp_ne C 27 dL_of_15 (by decide) (fun _ => ?_) (fun c9 => absurd c9 (by decide))
  refine g_iload_n C dL_of_27 rfl ?_
  refine g_iconst C 2 dL_of_28 (by decide +kernel) ?_
  refine g_icmp_ne C 40 dL_of_29 (by decide) (fun _ => ?_) (fun c9 => absurd c9 (by decide))
  refine g_iload_n C dL_of_40 rfl ?_
  refine g_iconst C 3 dL_of_41 (by decide +kernel) ?_
  refine g_icmp_ne C 53 dL_of_42 (by decide) (fun _ => ?_) (fun c9 => absurd c9 (by decide))
  refine g_iload_n C dL_of_53 rfl ?_
  refine g_iconst C 4 dL_of_54 (by decide +kernel) ?_
  refine g_icmp_ne C 66 dL_of_55 (by decide) (fun _ => ?_) (fun c9 => absurd c9 (by decide))
  refine g_iload_n C dL_of_66 rfl ?_
  refine g_iconst C 5 dL_of_67 (by decide +kernel) ?_
  refine g_icmp_ne C 79 dL_of_68 (by decide) (fun _ => ?_) (fun c9 => absurd c9 (by decide))
  refine g_iload_n C dL_of_79 rfl ?_
  refine g_bipush C 6 dL_of_80 (by decide +kernel) ?_
  refine g_icmp_ne C 93 dL_of_82 (by decide) (fun c9 => absurd rfl c9) (fun _ => ?_)
  refine g_aload_n C dL_of_85 rfl ?_
  refine g_iload_n C dL_of_86 rfl ?_
  refine gx_catchi C hX [] ((wCo cI a b d mg pt bd tk ho ri lo fv hd lf la ++ wSo cI cW a b r2 hp rl cn be bw wo) ++ wL cI cZ cG a r nc nw cx cy ch rm on wx wy dm sv mu qq) [.int p1] (t_X2_heldFor hl0 h5 h6) rfl rfl (cwV 1 C.ts gL_of_X2_heldFor rfl rfl rfl (by decide +kernel) ⟨Nat.le_of_ble_eq_true rfl, Nat.le_of_ble_eq_true rfl⟩) rfl rfl rfl (Nat.le_of_ble_eq_true rfl) dL_of_87 ⟨Nat.le_of_ble_eq_true rfl, Nat.le_of_ble_eq_true rfl⟩ (fun E1 hx1 => ?_) (fun rv1 wv1 hp1 => ?_)
  · skip
    obtain ⟨hc1, rfl⟩ := hx1
    · refine ⟨99, (ct_1 hE (by decide) (by decide) (C.ts (.classLink RL 41 "java/lang/IndexOutOfBoundsException") (by decide +kernel)) hX.1.1.2.2), fun q9 => ?_⟩
      refine g_w (ws' := ((wCo cI a b d mg pt bd tk ho ri lo fv hd lf la ++ wSo cI cW a b r2 hp rl cn be bw wo) ++ wL cI cZ cG a r nc nw cx cy ch rm on wx wy dm sv mu qq)) rfl ?_
      refine g_astore C [some (.ref (d 0)), some (.int 6), some (.int p1), some (.int p2), some (.ref q9)] dL_of_99 (by decide) rfl rfl ?_
      refine g_bipush C (-101) dL_of_101 (by decide +kernel) ?_
      exact gx_I (g_iret C hret dL_of_103 (Nat.le_of_ble_eq_true rfl) (Nat.le_of_ble_eq_true rfl) (Or.inr ⟨rfl, hc1, rfl⟩))
  · skip
    obtain ⟨hok, rfl, rfl⟩ := hp1
    refine g_goto C 98 dL_of_90 (by decide) ?_
    exact gx_I (g_iret C hret dL_of_98 (Nat.le_of_ble_eq_true rfl) (Nat.le_of_ble_eq_true rfl) (Or.inl ⟨rfl, hok, rfl⟩))
set_option maxHeartbeats 1000000 in
set_option maxRecDepth 100000 in
theorem t_L_of_7 {l : Launch} (hl0 : l.stackTraces = false) {D : va_G} {cI cZ cJ cG cW : ClassId} {a b d : Nat → Nat} {mg pt bd tk ho ri lo : Int32} {fv hd lf la : Nat → Int32} {r2 : Nat → Nat} {hp rl cn be : Nat → Int32} {bw : Int32} {wo : Nat → Nat → Int32} {r : Nat → Nat} {nc nw : Nat} {cx cy ch rm on wx wy dm sv mu : Nat → Int32} {qq : Nat → Nat → Int32} {p1 p2 : Int32} (h5 : nc ≤ 5) (h6 : nw ≤ 6) (hr : ∀ c, c < nc → ¬ rm c ≤ 0) (hg : ∀ c w, c < nc → w < nw → ¬ dsq (cx c) (cy c) (wx w) (wy w) = 0) (hq : ∀ c w, c < nc → w < nw → ¬ 10 + fdi ch on (fil nc (fus rm sv dm nw) mu) (sgw cx cy wx wy w) c nc = 0) : CxI l yL_of wsL_of 13 552 2 12 D (T5 cI cZ cJ cG cW) [.ref (d 0), .int 7, .int p1, .int p2] ((wCo cI a b d mg pt bd tk ho ri lo fv hd lf la ++ wSo cI cW a b r2 hp rl cn be bw wo) ++ wL cI cZ cG a r nc nw cx cy ch rm on wx wy dm sv mu qq) (fun rv wv => (∃ (z : S4) (P : Nat → Int32) (Y : Nat → Nat → Int32), rv = z.2.2.1 p1.toNatClampNeg ∧ IC nw p1 ∧ wv = ((wCo cI a b d mg pt bd tk ho ri lo fv hd lf la ++ wSo cI cW a b r2 P z.1 z.2.1 z.2.2.1 z.2.2.2 Y) ++ wL cI cZ cG a r nc nw cx cy ch rm on wx wy dm sv (fil nc (fus rm sv dm nw) mu) (fil2 nw nc (fun w c => fqu cx cy ch on wx wy (fil nc (fus rm sv dm nw) mu) nc w c) qq)) ∧ GW nc nw rm on dm (fil2 nw nc (fun w c => fqu cx cy ch on wx wy (fil nc (fus rm sv dm nw) mu) nc w c) qq) bd 1000000 0 1 rl cn be P Y z) ∨ (rv = (-101) ∧ ¬ (IC nw p1) ∧ wv = ((wCo cI a b d mg pt bd tk ho ri lo fv hd lf la ++ wSo cI cW a b r2 hp rl cn be bw wo) ++ wL cI cZ cG a r nc nw cx cy ch rm on wx wy dm sv mu qq))) (fun Ev => False) := by
  refine cxI_ofH (cc := cL_of) (maxL := 5) RL 1 [some (.ref (d 0)), some (.int 7), some (.int p1), some (.int p2), none] (by decide +kernel) rfl rfl (Nat.le_of_ble_eq_true rfl) rfl (fun p_ e_ s_ m_ as_ bl_ me_ co_ C hret hE hX => ?_)
  refine g_iload_n C dL_of_0 rfl ?_
  refine g_if_ne C 13 dL_of_1 (by decide) (fun _ => ?_) (fun c9 => absurd c9 (by decide))
  refine g_iload_n C dL_of_13 rfl ?_
  refine g_iconst C 1 dL_of_14 (by decide +kernel) ?_
  refine g_icmp_ne C 27 dL_of_15 (by decide) (fun _ => ?_) (fun c9 => absurd c9 (by decide))
  refine g_iload_n C dL_of_27 rfl ?_
  refine g_iconst C 2 dL_of_28 (by decide +kernel) ?_
  refine g_icmp_ne C 40 dL_of_29 (by decide) (fun _ => ?_) (fun c9 => absurd c9 (by decide))
  refine g_iload_n C dL_of_40 rfl ?_
  refine g_iconst C 3 dL_of_41 (by decide +kernel) ?_
  refine g_icmp_ne C 53 dL_of_42 (by decide) (fun _ => ?_) (fun c9 => absurd c9 (by decide))
  refine g_iload_n C dL_of_53 rfl ?_
  refine g_iconst C 4 dL_of_54 (by decide +kernel) ?_
  refine g_icmp_ne C 66 dL_of_55 (by decide) (fun _ => ?_) (fun c9 => absurd c9 (by decide))
  refine g_iload_n C dL_of_66 rfl ?_
  refine g_iconst C 5 dL_of_67 (by decide +kernel) ?_
  refine g_icmp_ne C 79 dL_of_68 (by decide) (fun _ => ?_) (fun c9 => absurd c9 (by decide))
  refine g_iload_n C dL_of_79 rfl ?_
  refine g_bipush C 6 dL_of_80 (by decide +kernel) ?_
  refine g_icmp_ne C 93 dL_of_82 (by decide) (fun _ => ?_) (fun c9 => absurd c9 (by decide))
  refine g_aload_n C dL_of_93 rfl ?_
  refine g_iload_n C dL_of_94 rfl ?_
  refine gx_catchi C hX [] ((wCo cI a b d mg pt bd tk ho ri lo fv hd lf la ++ wSo cI cW a b r2 hp rl cn be bw wo) ++ wL cI cZ cG a r nc nw cx cy ch rm on wx wy dm sv mu qq) [.int p1] (t_X2_bestCell hl0 h5 h6 hr hg hq) rfl rfl (cwV 1 C.ts gL_of_X2_bestCell rfl rfl rfl (by decide +kernel) ⟨Nat.le_of_ble_eq_true rfl, Nat.le_of_ble_eq_true rfl⟩) rfl rfl rfl (Nat.le_of_ble_eq_true rfl) dL_of_95 ⟨Nat.le_of_ble_eq_true rfl, Nat.le_of_ble_eq_true rfl⟩ (fun E1 hx1 => ?_) (fun rv1 wv1 hp1 => ?_)
  · skip
    obtain ⟨hc1, rfl⟩ := hx1
    · refine ⟨99, (ct_1 hE (by decide) (by decide) (C.ts (.classLink RL 41 "java/lang/IndexOutOfBoundsException") (by decide +kernel)) hX.1.1.2.2), fun q9 => ?_⟩
      refine g_w (ws' := ((wCo cI a b d mg pt bd tk ho ri lo fv hd lf la ++ wSo cI cW a b r2 hp rl cn be bw wo) ++ wL cI cZ cG a r nc nw cx cy ch rm on wx wy dm sv mu qq)) rfl ?_
      refine g_astore C [some (.ref (d 0)), some (.int 7), some (.int p1), some (.int p2), some (.ref q9)] dL_of_99 (by decide) rfl rfl ?_
      refine g_bipush C (-101) dL_of_101 (by decide +kernel) ?_
      exact gx_I (g_iret C hret dL_of_103 (Nat.le_of_ble_eq_true rfl) (Nat.le_of_ble_eq_true rfl) (Or.inr ⟨rfl, hc1, rfl⟩))
  · skip
    obtain ⟨hok, z, P, Y, rfl, rfl, hz⟩ := hp1
    exact gx_I (g_iret C hret dL_of_98 (Nat.le_of_ble_eq_true rfl) (Nat.le_of_ble_eq_true rfl) (Or.inl ⟨z, P, Y, rfl, hok, rfl, hz⟩))
