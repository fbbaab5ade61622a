/-! the law's assignments -/
section LR9
variable {p : Program} {l : Launch} {e : Env} {R : Room} {s : State} {m : MethodId} {args : Array Value} {below : List Frame} {meth : Method} {c : Code} {Q : State → Prop} {k n : Nat}
variable {D : va_G} {A : Nat → Prop} {nL : Nat} {ws : va_W} {lv : List (Option Value)} {pc : Nat} {st : List Value}
theorem g_loopk9 {α1 α2 α3 α4 α5 α6 α7 α8 α9 : Type} (x1 : α1) (x2 : α2) (x3 : α3) (x4 : α4) (x5 : α5) (x6 : α6) (x7 : α7) (x8 : α8) (x9 : α9) (I : α1 → α2 → α3 → α4 → α5 → α6 → α7 → α8 → α9 → Prop) (wf : α1 → α2 → α3 → α4 → α5 → α6 → α7 → α8 → α9 → va_W) (lf : α1 → α2 → α3 → α4 → α5 → α6 → α7 → α8 → α9 → List (Option Value)) (kf nf : α1 → α2 → α3 → α4 → α5 → α6 → α7 → α8 → α9 → Nat) (μ : α1 → α2 → α3 → α4 → α5 → α6 → α7 → α8 → α9 → Nat) (hI : I x1 x2 x3 x4 x5 x6 x7 x8 x9) (hw : ws = wf x1 x2 x3 x4 x5 x6 x7 x8 x9) (hl : lv = lf x1 x2 x3 x4 x5 x6 x7 x8 x9) (hk : k ≤ kf x1 x2 x3 x4 x5 x6 x7 x8 x9) (hn : n ≤ nf x1 x2 x3 x4 x5 x6 x7 x8 x9)
    (step : ∀ x1 x2 x3 x4 x5 x6 x7 x8 x9, I x1 x2 x3 x4 x5 x6 x7 x8 x9 → (∀ y1 y2 y3 y4 y5 y6 y7 y8 y9, I y1 y2 y3 y4 y5 y6 y7 y8 y9 → μ y1 y2 y3 y4 y5 y6 y7 y8 y9 < μ x1 x2 x3 x4 x5 x6 x7 x8 x9 → G p l e R s m args below meth c D A nL Q (kf y1 y2 y3 y4 y5 y6 y7 y8 y9) (nf y1 y2 y3 y4 y5 y6 y7 y8 y9) (wf y1 y2 y3 y4 y5 y6 y7 y8 y9) (lf y1 y2 y3 y4 y5 y6 y7 y8 y9) pc st) → G p l e R s m args below meth c D A nL Q (kf x1 x2 x3 x4 x5 x6 x7 x8 x9) (nf x1 x2 x3 x4 x5 x6 x7 x8 x9) (wf x1 x2 x3 x4 x5 x6 x7 x8 x9) (lf x1 x2 x3 x4 x5 x6 x7 x8 x9) pc st) : G p l e R s m args below meth c D A nL Q k n ws lv pc st :=
  g_loopk (x1, x2, x3, x4, x5, x6, x7, x8, x9) (fun z => I z.1 z.2.1 z.2.2.1 z.2.2.2.1 z.2.2.2.2.1 z.2.2.2.2.2.1 z.2.2.2.2.2.2.1 z.2.2.2.2.2.2.2.1 z.2.2.2.2.2.2.2.2) (fun z => wf z.1 z.2.1 z.2.2.1 z.2.2.2.1 z.2.2.2.2.1 z.2.2.2.2.2.1 z.2.2.2.2.2.2.1 z.2.2.2.2.2.2.2.1 z.2.2.2.2.2.2.2.2) (fun z => lf z.1 z.2.1 z.2.2.1 z.2.2.2.1 z.2.2.2.2.1 z.2.2.2.2.2.1 z.2.2.2.2.2.2.1 z.2.2.2.2.2.2.2.1 z.2.2.2.2.2.2.2.2) (fun z => kf z.1 z.2.1 z.2.2.1 z.2.2.2.1 z.2.2.2.2.1 z.2.2.2.2.2.1 z.2.2.2.2.2.2.1 z.2.2.2.2.2.2.2.1 z.2.2.2.2.2.2.2.2) (fun z => nf z.1 z.2.1 z.2.2.1 z.2.2.2.1 z.2.2.2.2.1 z.2.2.2.2.2.1 z.2.2.2.2.2.2.1 z.2.2.2.2.2.2.2.1 z.2.2.2.2.2.2.2.2) (fun z => μ z.1 z.2.1 z.2.2.1 z.2.2.2.1 z.2.2.2.2.1 z.2.2.2.2.2.1 z.2.2.2.2.2.2.1 z.2.2.2.2.2.2.2.1 z.2.2.2.2.2.2.2.2) hI hw hl hk hn (fun z hz ih => step z.1 z.2.1 z.2.2.1 z.2.2.2.1 z.2.2.2.2.1 z.2.2.2.2.2.1 z.2.2.2.2.2.2.1 z.2.2.2.2.2.2.2.1 z.2.2.2.2.2.2.2.2 hz (fun y1 y2 y3 y4 y5 y6 y7 y8 y9 h1 h2 => ih (y1, y2, y3, y4, y5, y6, y7, y8, y9) h1 h2))
end LR9
def wE (cI : ClassId) (ub : Nat) (bf : Nat → Int32) : va_W := [(ub, .inl (cI, 4, .inl bf))]
def wF (cI : ClassId) (un : Nat) (nf : Nat → Int32) : va_W := [(un, .inl (cI, 4, .inl nf))]
theorem updP {f P : Nat → Int32} {k : Nat} {x : Int32} (h : ∀ j, j < k → f j = P j) (hx : x = P k) : ∀ j, j < k + 1 → upd f k x j = P j := by
  intro j hj
  show (if j = k then x else f j) = P j
  by_cases e : j = k
  · rw [if_pos e, e, hx]
  · rw [if_neg e]; exact h j (by omega)
theorem p5 (k : Nat) : nI (5 ^ k) * 5 = nI (5 ^ (k + 1)) := (Int32.ofNat_mul (5 ^ k) 5).symm
theorem nI_div5 {x : Nat} (hx : x < 2 ^ 31) : nI x / 5 = nI (x / 5) := by
  apply Int32.toInt_inj.mp
  have h1 := nI_toInt hx
  have h2 := nI_toInt (show x / 5 < 2 ^ 31 by omega)
  rw [Int32.toInt_div, h1, h2, show (5 : Int32).toInt = 5 from rfl, Int.tdiv_eq_ediv_of_nonneg (by omega), bm_id (by omega) (by omega)]
  omega
theorem div5 {N k : Nat} (hN : N < 2 ^ 31) : nI (N / 5 ^ k) / 5 = nI (N / 5 ^ (k + 1)) := by
  rw [nI_div5 (Nat.lt_of_le_of_lt (Nat.div_le_self _ _) hN), Nat.div_div_eq_div_mul, Nat.pow_succ]
theorem rem5 {N k : Nat} (hN : N < 2 ^ 31) : nI (N / 5 ^ k) - nI (N / 5 ^ k) / 5 * 5 = nI (dl N k) := by
  have h : N / 5 ^ k < 2 ^ 31 := Nat.lt_of_le_of_lt (Nat.div_le_self _ _) hN
  unfold dl
  generalize N / 5 ^ k = x at h
  rw [nI_div5 h, show nI (x / 5) * 5 = nI (x / 5 * 5) from (Int32.ofNat_mul (x / 5) 5).symm]
  apply Int32.toInt_inj.mp
  have h1 := nI_toInt h
  have h2 := nI_toInt (show x / 5 * 5 < 2 ^ 31 by omega)
  have h3 := nI_toInt (show x % 5 < 2 ^ 31 by omega)
  rw [Int32.toInt_sub, h1, h2, h3, bm_id (by omega) (by omega)]
  omega
theorem QB_qf {nc nw : Nat} {cx cy ch rm on wx wy dm sv hd qf : Nat → Int32} (hJ : JI nc nw cx cy ch rm on wx wy dm sv hd) (hqf : ∀ a k, a < nc → k < nw → qf (4 * a + k) = (fun k a => fqu cx cy ch on wx wy (fus rm sv dm nw) nc k a) k a) : QB nc nw rm dm (fun u c => qf (4 * c + u)) :=
  ⟨hJ.1.1, hJ.1.2.1, fun c hc => tB_of (hJ.1.2.2.1 c hc).2.2.2, hJ.1.idm, fun u c hu hc => by
    show tB 0 40000 (qf (4 * c + u))
    rw [hqf c u hc hu]
    exact hJ.1.iqu (fun n hn => hJ.1.ius sv hn) hc hu⟩
theorem QQ_qf {nc nw : Nat} {cx cy ch rm on wx wy dm sv qf : Nat → Int32} (hqf : ∀ a k, a < nc → k < nw → qf (4 * a + k) = (fun k a => fqu cx cy ch on wx wy (fus rm sv dm nw) nc k a) k a) (mv : Nat → Int32) (qv : Nat → Nat → Int32) : ∀ u c, u < nw → c < nc → fil2 nw nc (fun w c => fqu cx cy ch on wx wy (fil nc (fus rm sv dm nw) mv) nc w c) qv u c = (fun u c => qf (4 * c + u)) u c := by
  intro u c hu hc
  show (if u < nw ∧ c < nc then _ else _) = qf (4 * c + u)
  rw [if_pos ⟨hu, hc⟩, hqf c u hc hu]
  exact fqu_cg (fun n hn => by show (if n < nc then _ else _) = _; rw [if_pos hn])
set_option maxHeartbeats 8000000 in
set_option maxRecDepth 100000 in
theorem t_L_assigns {l : Launch} (hl0 : l.stackTraces = false) {D : va_G} {cI cZ cJ cG cW : ClassId} {u : Nat → Nat} {nc nw : Nat} {tk ho ri lo mg pt bd : Int32} {cx cy ch rm on wx wy dm sv fv hd lf la : Nat → Int32} {a b d r2 : Nat → Nat} {hp rl cn be : Nat → Int32} {bw : Int32} {wo : Nat → Nat → Int32} {r : Nat → Nat} {mu : Nat → Int32} {qq : Nat → Nat → Int32}  (hJ : JI nc nw cx cy ch rm on wx wy dm sv hd) : CxI l yL_assigns wsL_assigns 20 900 20 100 D (T5 cI cZ cJ cG cW) [.ref (d 0), .ref (u 0), .ref (u 1), .ref (u 2)] (wA cI u nc nw tk ho ri lo mg pt bd cx cy ch rm on wx wy dm sv fv hd lf la ++ ((wCo cI a b d mg pt bd tk ho ri lo fv hd lf la ++ wSo cI cW a b r2 hp rl cn be bw wo) ++ wL cI cZ cG a r nc nw cx cy ch rm on wx wy dm sv mu qq)) (fun rv wv => rv = 1 ∧ ST cI cZ cG cW u a b d r r2 wv) (fun Ev => False) := by
  refine cxI_of (cc := cL_assigns) (maxL := 21) RL 17 [some (.ref (d 0)), some (.ref (u 0)), some (.ref (u 1)), some (.ref (u 2)), none, none, none, none, none, none, none, none, none, none, none, none, none, none, none, none, none] (by decide +kernel) rfl rfl (Nat.le_of_ble_eq_true rfl) rfl (fun p_ e_ s_ m_ as_ bl_ me_ co_ C hret hE hX => ?_)
  have n4 := hJ.n4
  have w4 := hJ.w4
  refine g_bipush C 16 dL_assigns_0 (by decide +kernel) ?_
  refine g_newa C (atype := .int) (ty := .int) rfl (C.fI 0 rfl) (C.ts _ (by decide +kernel)) 16 rfl (by decide) (z := (16, .inl (fun _ => 0))) (fun _ => rfl) (by decide) (Nat.le_of_ble_eq_true rfl) (Nat.le_of_ble_eq_true rfl) dL_assigns_2 (fun uq => ?_)
  refine g_swap ?_
  refine g_w (ws' := (wQ cI uq (fun _ => 0) ++ (wA cI u nc nw tk ho ri lo mg pt bd cx cy ch rm on wx wy dm sv fv hd lf la ++ ((wCo cI a b d mg pt bd tk ho ri lo fv hd lf la ++ wSo cI cW a b r2 hp rl cn be bw wo) ++ wL cI cZ cG a r nc nw cx cy ch rm on wx wy dm sv mu qq)))) rfl ?_
  refine g_astore C [some (.ref (d 0)), some (.ref (u 0)), some (.ref (u 1)), some (.ref (u 2)), some (.ref uq), none, none, none, none, none, none, none, none, none, none, none, none, none, none, none, none] dL_assigns_4 (by decide) rfl rfl ?_
  refine g_iconst C 4 dL_assigns_6 (by decide +kernel) ?_
  refine g_newa C (atype := .int) (ty := .int) rfl (C.fI 0 rfl) (C.ts _ (by decide +kernel)) 4 rfl (by decide) (z := (4, .inl (fun _ => 0))) (fun _ => rfl) (by decide) (Nat.le_of_ble_eq_true rfl) (Nat.le_of_ble_eq_true rfl) dL_assigns_7 (fun ub => ?_)
  refine g_swap ?_
  refine g_w (ws' := (wE cI ub (fun _ => 0) ++ (wQ cI uq (fun _ => 0) ++ (wA cI u nc nw tk ho ri lo mg pt bd cx cy ch rm on wx wy dm sv fv hd lf la ++ ((wCo cI a b d mg pt bd tk ho ri lo fv hd lf la ++ wSo cI cW a b r2 hp rl cn be bw wo) ++ wL cI cZ cG a r nc nw cx cy ch rm on wx wy dm sv mu qq))))) rfl ?_
  refine g_astore C [some (.ref (d 0)), some (.ref (u 0)), some (.ref (u 1)), some (.ref (u 2)), some (.ref uq), some (.ref ub), none, none, none, none, none, none, none, none, none, none, none, none, none, none, none] dL_assigns_9 (by decide) rfl rfl ?_
  refine g_iconst C 4 dL_assigns_11 (by decide +kernel) ?_
  refine g_newa C (atype := .int) (ty := .int) rfl (C.fI 0 rfl) (C.ts _ (by decide +kernel)) 4 rfl (by decide) (z := (4, .inl (fun _ => 0))) (fun _ => rfl) (by decide) (Nat.le_of_ble_eq_true rfl) (Nat.le_of_ble_eq_true rfl) dL_assigns_12 (fun un => ?_)
  refine g_swap ?_
  refine g_w (ws' := (wF cI un (fun _ => 0) ++ (wE cI ub (fun _ => 0) ++ (wQ cI uq (fun _ => 0) ++ (wA cI u nc nw tk ho ri lo mg pt bd cx cy ch rm on wx wy dm sv fv hd lf la ++ ((wCo cI a b d mg pt bd tk ho ri lo fv hd lf la ++ wSo cI cW a b r2 hp rl cn be bw wo) ++ wL cI cZ cG a r nc nw cx cy ch rm on wx wy dm sv mu qq)))))) rfl ?_
  refine g_astore C [some (.ref (d 0)), some (.ref (u 0)), some (.ref (u 1)), some (.ref (u 2)), some (.ref uq), some (.ref ub), some (.ref un), none, none, none, none, none, none, none, none, none, none, none, none, none, none] dL_assigns_14 (by decide) rfl rfl ?_
  refine g_aload_n C dL_assigns_16 rfl ?_
  refine g_aload_n C dL_assigns_17 rfl ?_
  refine g_aload_n C dL_assigns_18 rfl ?_
  refine g_aload C dL_assigns_19 rfl ?_
  refine g_w (ws' := (((wF cI un (fun _ => 0) ++ (wE cI ub (fun _ => 0))) ++ (wQ cI uq (fun _ => 0) ++ (wA cI u nc nw tk ho ri lo mg pt bd cx cy ch rm on wx wy dm sv fv hd lf la))) ++ ((wCo cI a b d mg pt bd tk ho ri lo fv hd lf la ++ wSo cI cW a b r2 hp rl cn be bw wo) ++ wL cI cZ cG a r nc nw cx cy ch rm on wx wy dm sv mu qq))) (by simp only [List.append_assoc]) ?_
  refine g_swapA ?_
  refine g_callSv C ((wF cI un (fun _ => 0) ++ (wE cI ub (fun _ => 0))) ++ ((wCo cI a b d mg pt bd tk ho ri lo fv hd lf la ++ wSo cI cW a b r2 hp rl cn be bw wo) ++ wL cI cZ cG a r nc nw cx cy ch rm on wx wy dm sv mu qq)) (wQ cI uq (fun _ => 0) ++ (wA cI u nc nw tk ho ri lo mg pt bd cx cy ch rm on wx wy dm sv fv hd lf la)) [.ref (u 0), .ref (u 1), .ref (u 2), .ref uq] (t_L_qualities n4 w4 hJ.r0 hJ.1.ihg (hJ.gq sv) hJ.onn) (va_cwS 4 C.ts gL_assigns_L_qualities rfl rfl rfl (by decide +kernel) ⟨Nat.le_of_ble_eq_true rfl, Nat.le_of_ble_eq_true rfl⟩) rfl rfl rfl (Nat.le_of_ble_eq_true rfl) dL_assigns_21 ⟨Nat.le_of_ble_eq_true rfl, Nat.le_of_ble_eq_true rfl⟩ (fun wv1 tv1 hp1 => ?_)
  obtain ⟨⟨qf, hqf, rfl⟩, rfl⟩ := hp1
  refine g_swapA ?_
  refine g_w (ws' := (wF cI un (fun _ => 0) ++ (wE cI ub (fun _ => 0) ++ (wQ cI uq qf ++ (wA cI u nc nw tk ho ri lo mg pt bd cx cy ch rm on wx wy dm sv fv hd lf la ++ ((wCo cI a b d mg pt bd tk ho ri lo fv hd lf la ++ wSo cI cW a b r2 hp rl cn be bw wo) ++ wL cI cZ cG a r nc nw cx cy ch rm on wx wy dm sv mu qq)))))) (by simp only [List.append_assoc]) ?_
  have HQ := QB_qf hJ hqf
  have hQQ := QQ_qf hqf
  have hp5 : 5 ^ nw ≤ 625 := Nat.le_trans (Nat.pow_le_pow_right (by decide) w4) (by decide)
  refine g_iconst C 1 dL_assigns_24 (by decide +kernel) ?_
  refine g_istore C [some (.ref (d 0)), some (.ref (u 0)), some (.ref (u 1)), some (.ref (u 2)), some (.ref uq), some (.ref ub), some (.ref un), some (.int 1), none, none, none, none, none, none, none, none, none, none, none, none, none] dL_assigns_25 (by decide) rfl rfl ?_
  refine g_iconst C 0 dL_assigns_27 (by decide +kernel) ?_
  refine g_istore C [some (.ref (d 0)), some (.ref (u 0)), some (.ref (u 1)), some (.ref (u 2)), some (.ref uq), some (.ref ub), some (.ref un), some (.int 1), some (.int 0), none, none, none, none, none, none, none, none, none, none, none, none] dL_assigns_28 (by decide) rfl rfl ?_
  refine g_loop2 0 (fun _ => 0) (fun (k : Nat) (bg : Nat → Int32) => k ≤ nw ∧ ∀ j, j < k → bg j = (fun _ => nI 4) j) (fun (k : Nat) (bg : Nat → Int32) => (wF cI un (fun _ => 0) ++ (wE cI ub bg ++ (wQ cI uq qf ++ (wA cI u nc nw tk ho ri lo mg pt bd cx cy ch rm on wx wy dm sv fv hd lf la ++ ((wCo cI a b d mg pt bd tk ho ri lo fv hd lf la ++ wSo cI cW a b r2 hp rl cn be bw wo) ++ wL cI cZ cG a r nc nw cx cy ch rm on wx wy dm sv mu qq)))))) (fun (k : Nat) (bg : Nat → Int32) => [some (.ref (d 0)), some (.ref (u 0)), some (.ref (u 1)), some (.ref (u 2)), some (.ref uq), some (.ref ub), some (.ref un), some (.int (nI (5 ^ k))), some (.int (nI k)), none, none, none, none, none, none, none, none, none, none, none, none]) (fun (k : Nat) (bg : Nat → Int32) => nw - k) ⟨Nat.zero_le _, fun j hj => absurd hj (Nat.not_lt_zero _)⟩ rfl rfl (fun k bg hI ih => ?_)
  obtain ⟨h1, h2⟩ := hI
  refine g_iload C dL_assigns_30 rfl ?_
  refine g_aload_n C dL_assigns_32 rfl ?_
  refine g_iconst C 1 dL_assigns_33 (by decide +kernel) ?_
  refine g_iald C 3 0 rfl rfl 1 rfl (by omega) (by decide) (nI nw) rfl dL_assigns_34 ?_
  refine g_icmp_ge C 56 dL_assigns_35 (by decide) (fun c_35 => ?_) (fun c_35 => ?_)
  · skip
    have c_35 : nw ≤ k := (nI_leI (by omega) (by omega)).mp c_35
    have ek : nw = k := by omega
    subst ek
    refine g_iconst C 0 dL_assigns_56 (by decide +kernel) ?_
    refine g_istore C [some (.ref (d 0)), some (.ref (u 0)), some (.ref (u 1)), some (.ref (u 2)), some (.ref uq), some (.ref ub), some (.ref un), some (.int (nI (5 ^ nw))), some (.int 0), none, none, none, none, none, none, none, none, none, none, none, none] dL_assigns_57 (by decide) rfl rfl ?_
    refine g_iconst C 0 dL_assigns_59 (by decide +kernel) ?_
    refine g_istore C [some (.ref (d 0)), some (.ref (u 0)), some (.ref (u 1)), some (.ref (u 2)), some (.ref uq), some (.ref ub), some (.ref un), some (.int (nI (5 ^ nw))), some (.int 0), some (.int 0), none, none, none, none, none, none, none, none, none, none, none] dL_assigns_60 (by decide) rfl rfl ?_
    refine g_iconst C 0 dL_assigns_62 (by decide +kernel) ?_
    refine g_istore C [some (.ref (d 0)), some (.ref (u 0)), some (.ref (u 1)), some (.ref (u 2)), some (.ref uq), some (.ref ub), some (.ref un), some (.int (nI (5 ^ nw))), some (.int 0), some (.int 0), some (.int 0), none, none, none, none, none, none, none, none, none, none] dL_assigns_63 (by decide) rfl rfl ?_
    refine g_iconst C 0 dL_assigns_65 (by decide +kernel) ?_
    refine g_istore C [some (.ref (d 0)), some (.ref (u 0)), some (.ref (u 1)), some (.ref (u 2)), some (.ref uq), some (.ref ub), some (.ref un), some (.int (nI (5 ^ nw))), some (.int 0), some (.int 0), some (.int 0), some (.int 0), none, none, none, none, none, none, none, none, none] dL_assigns_66 (by decide) rfl rfl ?_
    refine g_loop7 0 (fun _ => 4) bg (fun _ => 0) 0 0 0 (fun (N : Nat) (B : Nat → Nat) (bf1 : Nat → Int32) (nf1 : Nat → Int32) (ms : Int32) (de : Int32) (sm : Int32) => N ≤ 5 ^ nw ∧ RB nc nw on rm dm bd (fun u c => qf (4 * c + u)) N ms sm B ∧ RD nc nw on rm dm bd (fun u c => qf (4 * c + u)) N de ∧ ∀ j, j < nw → bf1 j = nI (B j)) (fun (N : Nat) (B : Nat → Nat) (bf1 : Nat → Int32) (nf1 : Nat → Int32) (ms : Int32) (de : Int32) (sm : Int32) => (wF cI un nf1 ++ (wE cI ub bf1 ++ (wQ cI uq qf ++ (wA cI u nc nw tk ho ri lo mg pt bd cx cy ch rm on wx wy dm sv fv hd lf la ++ ((wCo cI a b d mg pt bd tk ho ri lo fv hd lf la ++ wSo cI cW a b r2 hp rl cn be bw wo) ++ wL cI cZ cG a r nc nw cx cy ch rm on wx wy dm sv mu qq)))))) (fun (N : Nat) (B : Nat → Nat) (bf1 : Nat → Int32) (nf1 : Nat → Int32) (ms : Int32) (de : Int32) (sm : Int32) => [some (.ref (d 0)), some (.ref (u 0)), some (.ref (u 1)), some (.ref (u 2)), some (.ref uq), some (.ref ub), some (.ref un), some (.int (nI (5 ^ nw))), some (.int ms), some (.int de), some (.int sm), some (.int (nI N)), none, none, none, none, none, none, none, none, none]) (fun (N : Nat) (B : Nat → Nat) (bf1 : Nat → Int32) (nf1 : Nat → Int32) (ms : Int32) (de : Int32) (sm : Int32) => 5 ^ nw - N) ⟨Nat.zero_le _, RB_0, RD_0, fun j hj => h2 j (by omega)⟩ rfl rfl (fun N B bf1 nf1 ms de sm hI ih => ?_)
    obtain ⟨h1, hRB, hRD, hbf⟩ := hI
    refine g_iload C dL_assigns_68 rfl ?_
    refine g_iload C dL_assigns_70 rfl ?_
    refine g_icmp_ge C 432 dL_assigns_72 (by decide) (fun c_72 => ?_) (fun c_72 => ?_)
    · skip
      have c_72 : (5 ^ nw) ≤ N := (nI_leI (by omega) (by omega)).mp c_72
      have hRBf : RB nc nw on rm dm bd (fun u c => qf (4 * c + u)) (5 ^ nw) ms sm B := by rw [← show N = 5 ^ nw by omega]; exact hRB
      have hRDf : RD nc nw on rm dm bd (fun u c => qf (4 * c + u)) (5 ^ nw) de := by rw [← show N = 5 ^ nw by omega]; exact hRD
      refine g_iconst C 0 dL_assigns_432 (by decide +kernel) ?_
      refine g_istore C [some (.ref (d 0)), some (.ref (u 0)), some (.ref (u 1)), some (.ref (u 2)), some (.ref uq), some (.ref ub), some (.ref un), some (.int (nI (5 ^ nw))), some (.int ms), some (.int de), some (.int sm), some (.int 0), none, none, none, none, none, none, none, none, none] dL_assigns_433 (by decide) rfl rfl ?_
      refine g_loopk9 0 hp rl cn be bw wo mu qq (fun (i : Nat) (hv : Nat → Int32) (rv0 : Nat → Int32) (cv : Nat → Int32) (ev : Nat → Int32) (bv : Int32) (wv0 : Nat → Nat → Int32) (mv : Nat → Int32) (qv : Nat → Nat → Int32) => i ≤ nw + 1) (fun (i : Nat) (hv : Nat → Int32) (rv0 : Nat → Int32) (cv : Nat → Int32) (ev : Nat → Int32) (bv : Int32) (wv0 : Nat → Nat → Int32) (mv : Nat → Int32) (qv : Nat → Nat → Int32) => (wF cI un nf1 ++ (wE cI ub bf1 ++ (wQ cI uq qf ++ (wA cI u nc nw tk ho ri lo mg pt bd cx cy ch rm on wx wy dm sv fv hd lf la ++ ((wCo cI a b d mg pt bd tk ho ri lo fv hd lf la ++ wSo cI cW a b r2 hv rv0 cv ev bv wv0) ++ wL cI cZ cG a r nc nw cx cy ch rm on wx wy dm sv mv qv)))))) (fun (i : Nat) (hv : Nat → Int32) (rv0 : Nat → Int32) (cv : Nat → Int32) (ev : Nat → Int32) (bv : Int32) (wv0 : Nat → Nat → Int32) (mv : Nat → Int32) (qv : Nat → Nat → Int32) => [some (.ref (d 0)), some (.ref (u 0)), some (.ref (u 1)), some (.ref (u 2)), some (.ref uq), some (.ref ub), some (.ref un), some (.int (nI (5 ^ nw))), some (.int ms), some (.int de), some (.int sm), some (.int (nI i)), none, none, none, none, none, none, none, none, none]) (fun (i : Nat) (hv : Nat → Int32) (rv0 : Nat → Int32) (cv : Nat → Int32) (ev : Nat → Int32) (bv : Int32) (wv0 : Nat → Nat → Int32) (mv : Nat → Int32) (qv : Nat → Nat → Int32) => 3 + i * 2) (fun (i : Nat) (hv : Nat → Int32) (rv0 : Nat → Int32) (cv : Nat → Int32) (ev : Nat → Int32) (bv : Int32) (wv0 : Nat → Nat → Int32) (mv : Nat → Int32) (qv : Nat → Nat → Int32) => 24 + i * 12) (fun (i : Nat) (hv : Nat → Int32) (rv0 : Nat → Int32) (cv : Nat → Int32) (ev : Nat → Int32) (bv : Int32) (wv0 : Nat → Nat → Int32) (mv : Nat → Int32) (qv : Nat → Nat → Int32) => nw + 1 - i) (Nat.zero_le _) rfl rfl (by omega) (by omega) (fun i hv rv0 cv ev bv wv0 mv qv hi1 ih2 => ?_)
      have hki : (nI i).toNatClampNeg = i := nI_clamp (by omega)
      refine g_iload C dL_assigns_435 rfl ?_
      refine g_aload_n C dL_assigns_437 rfl ?_
      refine g_iconst C 1 dL_assigns_438 (by decide +kernel) ?_
      refine g_iald C 3 0 rfl rfl 1 rfl (by omega) (by decide) (nI nw) rfl dL_assigns_439 ?_
      refine g_icmp_gt C 494 dL_assigns_440 (by decide) (fun c_440 => ?_) (fun c_440 => ?_)
      · skip
        have c_440 : nw < i := (nI_ltI (by omega) (by omega)).mp c_440
        refine g_aload_n C dL_assigns_494 rfl ?_
        refine g_callVi C (wF cI un nf1 ++ (wE cI ub bf1 ++ (wQ cI uq qf ++ (wA cI u nc nw tk ho ri lo mg pt bd cx cy ch rm on wx wy dm sv fv hd lf la)))) ((wCo cI a b d mg pt bd tk ho ri lo fv hd lf la ++ wSo cI cW a b r2 hv rv0 cv ev bv wv0) ++ wL cI cZ cG a r nc nw cx cy ch rm on wx wy dm sv mv qv) [] (t_X2_mostServed (by omega) (by omega) hJ.1.ihr hJ.1.ihg (hJ.1.iGQ on sv mv)) rfl rfl (cwV 0 C.ts gL_assigns_X2_mostServed rfl rfl rfl (by decide +kernel) ⟨Nat.le_of_ble_eq_true rfl, Nat.le_of_ble_eq_true rfl⟩) rfl (by simp only [List.append_assoc]) rfl (Nat.le_of_ble_eq_true rfl) dL_assigns_495 (rmL (by omega) (by omega)) (fun rv2 wv2 hp2 => ?_)
        obtain ⟨z2, P2, Y2, rfl, rfl, hz2⟩ := hp2
        have hms := ag_s2 HQ n4 (GW_opt (SH_S HQ) (hQQ _ _) hz2) hRBf
        refine g_w (ws' := (wF cI un nf1 ++ (wE cI ub bf1 ++ (wQ cI uq qf ++ (wA cI u nc nw tk ho ri lo mg pt bd cx cy ch rm on wx wy dm sv fv hd lf la ++ ((wCo cI a b d mg pt bd tk ho ri lo fv hd lf la ++ wSo cI cW a b r2 P2 z2.1 z2.2.1 z2.2.2.1 z2.2.2.2 Y2) ++ wL cI cZ cG a r nc nw cx cy ch rm on wx wy dm sv (fil nc (fus rm sv dm nw) mv) (fil2 nw nc (fun w c => fqu cx cy ch on wx wy (fil nc (fus rm sv dm nw) mv) nc w c) qv))))))) (by simp only [List.append_assoc]) ?_
        refine g_iload C dL_assigns_498 rfl ?_
        refine g_icmp_ne C 516 dL_assigns_500 (by decide) (fun c9 => absurd hms c9) (fun _ => ?_)
        refine g_aload_n C dL_assigns_503 rfl ?_
        refine g_callVi C (wF cI un nf1 ++ (wE cI ub bf1 ++ (wQ cI uq qf ++ (wA cI u nc nw tk ho ri lo mg pt bd cx cy ch rm on wx wy dm sv fv hd lf la)))) ((wCo cI a b d mg pt bd tk ho ri lo fv hd lf la ++ wSo cI cW a b r2 P2 z2.1 z2.2.1 z2.2.2.1 z2.2.2.2 Y2) ++ wL cI cZ cG a r nc nw cx cy ch rm on wx wy dm sv (fil nc (fus rm sv dm nw) mv) (fil2 nw nc (fun w c => fqu cx cy ch on wx wy (fil nc (fus rm sv dm nw) mv) nc w c) qv)) [] (t_X2_mostDemand (by omega) (by omega) hJ.1.ihr hJ.1.ihg (hJ.1.iGQ on sv (fil nc (fus rm sv dm nw) mv))) rfl rfl (cwV 0 C.ts gL_assigns_X2_mostDemand rfl rfl rfl (by decide +kernel) ⟨Nat.le_of_ble_eq_true rfl, Nat.le_of_ble_eq_true rfl⟩) rfl (by simp only [List.append_assoc]) rfl (Nat.le_of_ble_eq_true rfl) dL_assigns_504 (rmL (by omega) (by omega)) (fun rv3 wv3 hp3 => ?_)
        obtain ⟨z3, P3, Y3, rfl, rfl, hz3⟩ := hp3
        have hmd := ag_d2 HQ n4 (GW_opt (SH_D HQ) (hQQ _ _) hz3) hRDf
        refine g_w (ws' := (wF cI un nf1 ++ (wE cI ub bf1 ++ (wQ cI uq qf ++ (wA cI u nc nw tk ho ri lo mg pt bd cx cy ch rm on wx wy dm sv fv hd lf la ++ ((wCo cI a b d mg pt bd tk ho ri lo fv hd lf la ++ wSo cI cW a b r2 P3 z3.1 z3.2.1 z3.2.2.1 z3.2.2.2 Y3) ++ wL cI cZ cG a r nc nw cx cy ch rm on wx wy dm sv (fil nc (fus rm sv dm nw) (fil nc (fus rm sv dm nw) mv)) (fil2 nw nc (fun w c => fqu cx cy ch on wx wy (fil nc (fus rm sv dm nw) (fil nc (fus rm sv dm nw) mv)) nc w c) (fil2 nw nc (fun w c => fqu cx cy ch on wx wy (fil nc (fus rm sv dm nw) mv) nc w c) qv)))))))) (by simp only [List.append_assoc]) ?_
        refine g_iload C dL_assigns_507 rfl ?_
        refine g_icmp_ne C 516 dL_assigns_509 (by decide) (fun c9 => absurd hmd c9) (fun _ => ?_)
        refine g_iconst C 1 dL_assigns_512 (by decide +kernel) ?_
        refine g_goto C 517 dL_assigns_513 (by decide) ?_
        refine g_drop ?_
        refine g_drop ?_
        refine g_drop ?_
        exact gx_I (g_zret C hret (by decide +kernel) dL_assigns_517 (by omega) (by omega) ⟨rfl, ST_mk hJ⟩)
      · skip
        have c_440 : ¬ (nw < i) := fun h9 => c_440 ((nI_ltI (by omega) (by omega)).mpr h9)
        rcases (show i < nw ∨ i = nw by omega) with hi | hi
        · skip
          refine g_aload_n C dL_assigns_443 rfl ?_
          refine g_bipush C 7 dL_assigns_444 (by decide +kernel) ?_
          refine g_iload C dL_assigns_446 rfl ?_
          refine g_iconst C 0 dL_assigns_448 (by decide +kernel) ?_
          refine gx_callH C hX (wF cI un nf1 ++ (wE cI ub bf1 ++ (wQ cI uq qf ++ (wA cI u nc nw tk ho ri lo mg pt bd cx cy ch rm on wx wy dm sv fv hd lf la)))) ((wCo cI a b d mg pt bd tk ho ri lo fv hd lf la ++ wSo cI cW a b r2 hv rv0 cv ev bv wv0) ++ wL cI cZ cG a r nc nw cx cy ch rm on wx wy dm sv mv qv) [.ref (d 0), .int 7, .int (nI i), .int 0] (t_L_of_7 hl0 (by omega) (by omega) hJ.1.ihr hJ.1.ihg (hJ.1.iGQ on sv mv)) (vx_cwSW 4 C.ts gL_assigns_L_of rfl rfl rfl (by decide +kernel) ⟨Nat.le_of_ble_eq_true rfl, Nat.le_of_ble_eq_true rfl⟩) rfl (by simp only [List.append_assoc]) rfl (Nat.le_of_ble_eq_true rfl) dL_assigns_449 (rmL (by omega) (by omega)) (fun rv4 wv4 hp4 => ?_)
          obtain ⟨z, P, Y, rfl, rfl, hz⟩ : ∃ (z : S4) (P : Nat → Int32) (Y : Nat → Nat → Int32), rv4 = z.2.2.1 i ∧ wv4 = ((wCo cI a b d mg pt bd tk ho ri lo fv hd lf la ++ wSo cI cW a b r2 P z.1 z.2.1 z.2.2.1 z.2.2.2 Y) ++ wL cI cZ cG a r nc nw cx cy ch rm on wx wy dm sv (fil nc (fus rm sv dm nw) mv) (fil2 nw nc (fun w c => fqu cx cy ch on wx wy (fil nc (fus rm sv dm nw) mv) nc w c) qv)) ∧ GW nc nw rm on dm (fil2 nw nc (fun w c => fqu cx cy ch on wx wy (fil nc (fus rm sv dm nw) mv) nc w c) qv) bd 1000000 0 1 rv0 cv ev P Y z := by
            rcases hp4 with ⟨z, P, Y, h1, _, h2, h3⟩ | ⟨_, hb, _⟩
            · rw [hki] at h1
              exact ⟨z, P, Y, h1, h2, h3⟩
            · exact absurd ⟨i, hi, rfl⟩ hb
          have hbe := ag_b2 HQ n4 (GW_opt (SH_B HQ) (hQQ _ _) hz) hRBf i hi
          have l5 := hRB.1 i hi
          refine g_w (ws' := (wF cI un nf1 ++ (wE cI ub bf1 ++ (wQ cI uq qf ++ (wA cI u nc nw tk ho ri lo mg pt bd cx cy ch rm on wx wy dm sv fv hd lf la ++ ((wCo cI a b d mg pt bd tk ho ri lo fv hd lf la ++ wSo cI cW a b r2 P z.1 z.2.1 z.2.2.1 z.2.2.2 Y) ++ wL cI cZ cG a r nc nw cx cy ch rm on wx wy dm sv (fil nc (fus rm sv dm nw) mv) (fil2 nw nc (fun w c => fqu cx cy ch on wx wy (fil nc (fus rm sv dm nw) mv) nc w c) qv))))))) (by simp only [List.append_assoc]) ?_
          refine g_iload C dL_assigns_452 rfl ?_
          refine g_aload_n C dL_assigns_454 rfl ?_
          refine g_iconst C 1 dL_assigns_455 (by decide +kernel) ?_
          refine g_iald C 3 0 rfl rfl 1 rfl (by omega) (by decide) (nI nw) rfl dL_assigns_456 ?_
          refine g_icmp_ne C 465 dL_assigns_457 (by decide) (fun _ => ?_) (fun c9 => absurd c9 (fun h => by have := (nI_eq (a := i) (b := nw) (by omega) (by omega)).mp h; omega))
          refine g_aload C dL_assigns_465 rfl ?_
          refine g_iload C dL_assigns_467 rfl ?_
          refine g_iald C 1 0 rfl rfl i rfl (by omega) (by decide) (nI (B i)) (hbf i (by omega)) dL_assigns_469 ?_
          refine g_iconst C 4 dL_assigns_470 (by decide +kernel) ?_
          refine g_icmp_ne C 478 dL_assigns_471 (by decide) (fun c_471 => ?_) (fun c_471 => ?_)
          · skip
            refine g_aload C dL_assigns_478 rfl ?_
            refine g_iload C dL_assigns_480 rfl ?_
            refine g_iald C 1 0 rfl rfl i rfl (by omega) (by decide) (nI (B i)) (hbf i (by omega)) dL_assigns_482 ?_
            refine g_icmp_eq C 488 dL_assigns_483 (by decide) (fun _ => ?_) (fun c9 => absurd (by rw [hbe, if_neg (show ¬ 4 ≤ B i by intro q; exact c_471 (show nI (B i) = 4 by rw [show B i = 4 by omega]; rfl))]) c9)
            refine g_iinc C (nI (i + 1)) [some (.ref (d 0)), some (.ref (u 0)), some (.ref (u 1)), some (.ref (u 2)), some (.ref uq), some (.ref ub), some (.ref un), some (.int (nI (5 ^ nw))), some (.int ms), some (.int de), some (.int sm), some (.int (nI (i + 1))), none, none, none, none, none, none, none, none, none] dL_assigns_488 rfl (nI_1 i) (by decide) rfl rfl ?_
            refine g_goto C 435 dL_assigns_491 (by decide) ?_
            refine g_widen (k' := 3 + (i + 1) * 2) (n' := 24 + (i + 1) * 12) (by omega) (by omega) ?_
            exact ih2 (i + 1) P z.1 z.2.1 z.2.2.1 z.2.2.2 Y (fil nc (fus rm sv dm nw) mv) (fil2 nw nc (fun w c => fqu cx cy ch on wx wy (fil nc (fus rm sv dm nw) mv) nc w c) qv) (by omega) (by omega)
          · skip
            refine g_iconst C (-1) dL_assigns_474 (by decide +kernel) ?_
            refine g_goto C 483 dL_assigns_475 (by decide) ?_
            refine g_icmp_eq C 488 dL_assigns_483 (by decide) (fun _ => ?_) (fun c9 => absurd (by rw [hbe, if_pos (show 4 ≤ B i by have := (nI_eq (a := B i) (b := 4) (by omega) (by decide)).mp c_471; omega)]) c9)
            refine g_iinc C (nI (i + 1)) [some (.ref (d 0)), some (.ref (u 0)), some (.ref (u 1)), some (.ref (u 2)), some (.ref uq), some (.ref ub), some (.ref un), some (.int (nI (5 ^ nw))), some (.int ms), some (.int de), some (.int sm), some (.int (nI (i + 1))), none, none, none, none, none, none, none, none, none] dL_assigns_488 rfl (nI_1 i) (by decide) rfl rfl ?_
            refine g_goto C 435 dL_assigns_491 (by decide) ?_
            refine g_widen (k' := 3 + (i + 1) * 2) (n' := 24 + (i + 1) * 12) (by omega) (by omega) ?_
            exact ih2 (i + 1) P z.1 z.2.1 z.2.2.1 z.2.2.2 Y (fil nc (fus rm sv dm nw) mv) (fil2 nw nc (fun w c => fqu cx cy ch on wx wy (fil nc (fus rm sv dm nw) mv) nc w c) qv) (by omega) (by omega)
        · skip
          refine g_aload_n C dL_assigns_443 rfl ?_
          refine g_bipush C 7 dL_assigns_444 (by decide +kernel) ?_
          refine g_iload C dL_assigns_446 rfl ?_
          refine g_iconst C 0 dL_assigns_448 (by decide +kernel) ?_
          refine gx_callH C hX (wF cI un nf1 ++ (wE cI ub bf1 ++ (wQ cI uq qf ++ (wA cI u nc nw tk ho ri lo mg pt bd cx cy ch rm on wx wy dm sv fv hd lf la)))) ((wCo cI a b d mg pt bd tk ho ri lo fv hd lf la ++ wSo cI cW a b r2 hv rv0 cv ev bv wv0) ++ wL cI cZ cG a r nc nw cx cy ch rm on wx wy dm sv mv qv) [.ref (d 0), .int 7, .int (nI i), .int 0] (t_L_of_7 hl0 (by omega) (by omega) hJ.1.ihr hJ.1.ihg (hJ.1.iGQ on sv mv)) (vx_cwSW 4 C.ts gL_assigns_L_of rfl rfl rfl (by decide +kernel) ⟨Nat.le_of_ble_eq_true rfl, Nat.le_of_ble_eq_true rfl⟩) rfl (by simp only [List.append_assoc]) rfl (Nat.le_of_ble_eq_true rfl) dL_assigns_449 (rmL (by omega) (by omega)) (fun rv5 wv5 hp5 => ?_)
          obtain ⟨rfl, rfl⟩ : rv5 = -101 ∧ wv5 = ((wCo cI a b d mg pt bd tk ho ri lo fv hd lf la ++ wSo cI cW a b r2 hv rv0 cv ev bv wv0) ++ wL cI cZ cG a r nc nw cx cy ch rm on wx wy dm sv mv qv) := by
            rcases hp5 with ⟨z, P, Y, _, hb, _, _⟩ | ⟨h1, _, h2⟩
            · exact absurd hb (IC_no2 (by omega) (nI_nlt (by omega) (by omega)))
            · exact ⟨h1, h2⟩
          refine g_w (ws' := (wF cI un nf1 ++ (wE cI ub bf1 ++ (wQ cI uq qf ++ (wA cI u nc nw tk ho ri lo mg pt bd cx cy ch rm on wx wy dm sv fv hd lf la ++ ((wCo cI a b d mg pt bd tk ho ri lo fv hd lf la ++ wSo cI cW a b r2 hv rv0 cv ev bv wv0) ++ wL cI cZ cG a r nc nw cx cy ch rm on wx wy dm sv mv qv)))))) (by simp only [List.append_assoc]) ?_
          refine g_iload C dL_assigns_452 rfl ?_
          refine g_aload_n C dL_assigns_454 rfl ?_
          refine g_iconst C 1 dL_assigns_455 (by decide +kernel) ?_
          refine g_iald C 3 0 rfl rfl 1 rfl (by omega) (by decide) (nI nw) rfl dL_assigns_456 ?_
          refine g_icmp_ne C 465 dL_assigns_457 (by decide) (fun c9 => absurd (by rw [hi]) c9) (fun _ => ?_)
          refine g_bipush C (-101) dL_assigns_460 (by decide +kernel) ?_
          refine g_goto C 483 dL_assigns_462 (by decide) ?_
          refine g_icmp_eq C 488 dL_assigns_483 (by decide) (fun _ => ?_) (fun c9 => absurd rfl c9)
          refine g_iinc C (nI (i + 1)) [some (.ref (d 0)), some (.ref (u 0)), some (.ref (u 1)), some (.ref (u 2)), some (.ref uq), some (.ref ub), some (.ref un), some (.int (nI (5 ^ nw))), some (.int ms), some (.int de), some (.int sm), some (.int (nI (i + 1))), none, none, none, none, none, none, none, none, none] dL_assigns_488 rfl (nI_1 i) (by decide) rfl rfl ?_
          refine g_goto C 435 dL_assigns_491 (by decide) ?_
          refine g_widen (k' := 3 + (i + 1) * 2) (n' := 24 + (i + 1) * 12) (by omega) (by omega) ?_
          exact ih2 (i + 1) hv rv0 cv ev bv wv0 mv qv (by omega) (by omega)
    · skip
      have c_72 : ¬ ((5 ^ nw) ≤ N) := fun h9 => c_72 ((nI_leI (by omega) (by omega)).mpr h9)
      refine g_iload C dL_assigns_75 rfl ?_
      refine g_istore C [some (.ref (d 0)), some (.ref (u 0)), some (.ref (u 1)), some (.ref (u 2)), some (.ref uq), some (.ref ub), some (.ref un), some (.int (nI (5 ^ nw))), some (.int ms), some (.int de), some (.int sm), some (.int (nI N)), some (.int (nI N)), none, none, none, none, none, none, none, none] dL_assigns_77 (by decide) rfl rfl ?_
      refine g_lv (lv' := [some (.ref (d 0)), some (.ref (u 0)), some (.ref (u 1)), some (.ref (u 2)), some (.ref uq), some (.ref ub), some (.ref un), some (.int (nI (5 ^ nw))), some (.int ms), some (.int de), some (.int sm), some (.int (nI N)), some (.int (nI (N / 5 ^ 0))), none, none, none, none, none, none, none, none]) (by rw [Nat.pow_zero, Nat.div_one]) ?_
      refine g_iconst C 0 dL_assigns_79 (by decide +kernel) ?_
      refine g_istore C [some (.ref (d 0)), some (.ref (u 0)), some (.ref (u 1)), some (.ref (u 2)), some (.ref uq), some (.ref ub), some (.ref un), some (.int (nI (5 ^ nw))), some (.int ms), some (.int de), some (.int sm), some (.int (nI N)), some (.int (nI (N / 5 ^ 0))), some (.int 0), none, none, none, none, none, none, none] dL_assigns_80 (by decide) rfl rfl ?_
      refine g_iconst C 0 dL_assigns_82 (by decide +kernel) ?_
      refine g_istore C [some (.ref (d 0)), some (.ref (u 0)), some (.ref (u 1)), some (.ref (u 2)), some (.ref uq), some (.ref ub), some (.ref un), some (.int (nI (5 ^ nw))), some (.int ms), some (.int de), some (.int sm), some (.int (nI N)), some (.int (nI (N / 5 ^ 0))), some (.int 0), some (.int 0), none, none, none, none, none, none] dL_assigns_83 (by decide) rfl rfl ?_
      refine g_iconst C 0 dL_assigns_85 (by decide +kernel) ?_
      refine g_istore C [some (.ref (d 0)), some (.ref (u 0)), some (.ref (u 1)), some (.ref (u 2)), some (.ref uq), some (.ref ub), some (.ref un), some (.int (nI (5 ^ nw))), some (.int ms), some (.int de), some (.int sm), some (.int (nI N)), some (.int (nI (N / 5 ^ 0))), some (.int 0), some (.int 0), some (.int 0), none, none, none, none, none] dL_assigns_86 (by decide) rfl rfl ?_
      refine g_iconst C 1 dL_assigns_88 (by decide +kernel) ?_
      refine g_istore C [some (.ref (d 0)), some (.ref (u 0)), some (.ref (u 1)), some (.ref (u 2)), some (.ref uq), some (.ref ub), some (.ref un), some (.int (nI (5 ^ nw))), some (.int ms), some (.int de), some (.int sm), some (.int (nI N)), some (.int (nI (N / 5 ^ 0))), some (.int 0), some (.int 0), some (.int 0), some (.int 1), none, none, none, none] dL_assigns_89 (by decide) rfl rfl ?_
      refine g_iconst C 0 dL_assigns_91 (by decide +kernel) ?_
      refine g_istore C [some (.ref (d 0)), some (.ref (u 0)), some (.ref (u 1)), some (.ref (u 2)), some (.ref uq), some (.ref ub), some (.ref un), some (.int (nI (5 ^ nw))), some (.int ms), some (.int de), some (.int sm), some (.int (nI N)), some (.int (nI (N / 5 ^ 0))), some (.int 0), some (.int 0), some (.int 0), some (.int 1), some (.int 0), none, none, none] dL_assigns_92 (by decide) rfl rfl ?_
      refine g_loop2 0 nf1 (fun (kk : Nat) (nf2 : Nat → Int32) => kk ≤ nw ∧ ∀ j, j < kk → nf2 j = (fun j => nI (dl N j)) j) (fun (kk : Nat) (nf2 : Nat → Int32) => (wF cI un nf2 ++ (wE cI ub bf1 ++ (wQ cI uq qf ++ (wA cI u nc nw tk ho ri lo mg pt bd cx cy ch rm on wx wy dm sv fv hd lf la ++ ((wCo cI a b d mg pt bd tk ho ri lo fv hd lf la ++ wSo cI cW a b r2 hp rl cn be bw wo) ++ wL cI cZ cG a r nc nw cx cy ch rm on wx wy dm sv mu qq)))))) (fun (kk : Nat) (nf2 : Nat → Int32) => [some (.ref (d 0)), some (.ref (u 0)), some (.ref (u 1)), some (.ref (u 2)), some (.ref uq), some (.ref ub), some (.ref un), some (.int (nI (5 ^ nw))), some (.int ms), some (.int de), some (.int sm), some (.int (nI N)), some (.int (nI (N / 5 ^ kk))), some (.int (fsv (dl N) 4 kk)), some (.int (fsd dm (dl N) 4 kk)), some (.int (fsu (fun u c => qf (4 * c + u)) (dl N) 4 kk)), some (.int (kbz (kok on rm dm bd (fun u c => qf (4 * c + u)) nc (dl N) kk))), some (.int (nI kk)), none, none, none]) (fun (kk : Nat) (nf2 : Nat → Int32) => nw - kk) ⟨Nat.zero_le _, fun j hj => absurd hj (Nat.not_lt_zero _)⟩ rfl rfl (fun kk nf2 hK kh => ?_)
      obtain ⟨e1, e2⟩ := hK
      have l1 := dl_le (N := N) (j := kk)
      refine g_iload C dL_assigns_94 rfl ?_
      refine g_aload_n C dL_assigns_96 rfl ?_
      refine g_iconst C 1 dL_assigns_97 (by decide +kernel) ?_
      refine g_iald C 3 0 rfl rfl 1 rfl (by omega) (by decide) (nI nw) rfl dL_assigns_98 ?_
      refine g_icmp_ge C 274 dL_assigns_99 (by decide) (fun c_99 => ?_) (fun c_99 => ?_)
      · skip
        have c_99 : nw ≤ kk := (nI_leI (by omega) (by omega)).mp c_99
        have ek : nw = kk := by omega
        subst ek
        refine g_join (σ := Int32) (fun ah : Int32 => (ah = 1 ∧ LX nw (dl N) B) ∨ (ah = 0 ∧ ¬ LX nw (dl N) B)) (fun ah : Int32 => (wF cI un nf2 ++ (wE cI ub bf1 ++ (wQ cI uq qf ++ (wA cI u nc nw tk ho ri lo mg pt bd cx cy ch rm on wx wy dm sv fv hd lf la ++ ((wCo cI a b d mg pt bd tk ho ri lo fv hd lf la ++ wSo cI cW a b r2 hp rl cn be bw wo) ++ wL cI cZ cG a r nc nw cx cy ch rm on wx wy dm sv mu qq)))))) (fun ah : Int32 => [some (.ref (d 0)), some (.ref (u 0)), some (.ref (u 1)), some (.ref (u 2)), some (.ref uq), some (.ref ub), some (.ref un), some (.int (nI (5 ^ nw))), some (.int ms), some (.int de), some (.int sm), some (.int (nI N)), some (.int (nI (N / 5 ^ nw))), some (.int (fsv (dl N) 4 nw)), some (.int (fsd dm (dl N) 4 nw)), some (.int (fsu (fun u c => qf (4 * c + u)) (dl N) 4 nw)), some (.int (kbz (kok on rm dm bd (fun u c => qf (4 * c + u)) nc (dl N) nw))), none, none, none, none]) (fun ah : Int32 => [.int ah]) 330 (3) (24) (fun ah hah => ?_) (fun J330 => ?_)
        · skip
          refine g_istore C [some (.ref (d 0)), some (.ref (u 0)), some (.ref (u 1)), some (.ref (u 2)), some (.ref uq), some (.ref ub), some (.ref un), some (.int (nI (5 ^ nw))), some (.int ms), some (.int de), some (.int sm), some (.int (nI N)), some (.int (nI (N / 5 ^ nw))), some (.int (fsv (dl N) 4 nw)), some (.int (fsd dm (dl N) 4 nw)), some (.int (fsu (fun u c => qf (4 * c + u)) (dl N) 4 nw)), some (.int (kbz (kok on rm dm bd (fun u c => qf (4 * c + u)) nc (dl N) nw))), none, some (.int ah), none, none] dL_assigns_330 (by decide) rfl rfl ?_
          refine g_join (σ := Int32) (fun de2 : Int32 => RD nc nw on rm dm bd (fun u c => qf (4 * c + u)) (N + 1) de2) (fun de2 : Int32 => (wF cI un nf2 ++ (wE cI ub bf1 ++ (wQ cI uq qf ++ (wA cI u nc nw tk ho ri lo mg pt bd cx cy ch rm on wx wy dm sv fv hd lf la ++ ((wCo cI a b d mg pt bd tk ho ri lo fv hd lf la ++ wSo cI cW a b r2 hp rl cn be bw wo) ++ wL cI cZ cG a r nc nw cx cy ch rm on wx wy dm sv mu qq)))))) (fun de2 : Int32 => [some (.ref (d 0)), some (.ref (u 0)), some (.ref (u 1)), some (.ref (u 2)), some (.ref uq), some (.ref ub), some (.ref un), some (.int (nI (5 ^ nw))), some (.int ms), some (.int de2), some (.int sm), some (.int (nI N)), some (.int (nI (N / 5 ^ nw))), some (.int (fsv (dl N) 4 nw)), some (.int (fsd dm (dl N) 4 nw)), some (.int (fsu (fun u c => qf (4 * c + u)) (dl N) 4 nw)), some (.int (kbz (kok on rm dm bd (fun u c => qf (4 * c + u)) nc (dl N) nw))), none, some (.int ah), none, none]) (fun de2 : Int32 => []) 353 (3) (24) (fun de2 hde2 => ?_) (fun J353 => ?_)
          · skip
            refine g_iload C dL_assigns_353 rfl ?_
            refine g_if_eq C 426 dL_assigns_355 (by decide) (fun c_355 => ?_) (fun c_355 => ?_)
            · skip
              refine g_iinc C (nI (N + 1)) [some (.ref (d 0)), some (.ref (u 0)), some (.ref (u 1)), some (.ref (u 2)), some (.ref uq), some (.ref ub), some (.ref un), some (.int (nI (5 ^ nw))), some (.int ms), some (.int de2), some (.int sm), some (.int (nI (N + 1))), some (.int (nI (N / 5 ^ nw))), some (.int (fsv (dl N) 4 nw)), some (.int (fsd dm (dl N) 4 nw)), some (.int (fsu (fun u c => qf (4 * c + u)) (dl N) 4 nw)), some (.int (kbz (kok on rm dm bd (fun u c => qf (4 * c + u)) nc (dl N) nw))), none, some (.int ah), none, none] dL_assigns_426 rfl (nI_1 N) (by decide) rfl rfl ?_
              refine g_goto C 68 dL_assigns_429 (by decide) ?_
              refine g_mask [true, true, true, true, true, true, true, true, true, true, true, true, false, false, false, false, false, false, false, false, false] rfl ?_
              exact ih (N + 1) B bf1 nf2 ms de2 sm ⟨by omega, RB_skip hRB (kbz_0 c_355), hde2, hbf⟩ (by omega)
            · skip
              refine g_join (σ := Unit) (fun u_ : Unit => ms < fsv (dl N) 4 nw ∨ (fsv (dl N) 4 nw = ms ∧ (sm < fsu (fun u c => qf (4 * c + u)) (dl N) 4 nw ∨ (fsu (fun u c => qf (4 * c + u)) (dl N) 4 nw = sm ∧ LX nw (dl N) B)))) (fun u_ : Unit => (wF cI un nf2 ++ (wE cI ub bf1 ++ (wQ cI uq qf ++ (wA cI u nc nw tk ho ri lo mg pt bd cx cy ch rm on wx wy dm sv fv hd lf la ++ ((wCo cI a b d mg pt bd tk ho ri lo fv hd lf la ++ wSo cI cW a b r2 hp rl cn be bw wo) ++ wL cI cZ cG a r nc nw cx cy ch rm on wx wy dm sv mu qq)))))) (fun u_ : Unit => [some (.ref (d 0)), some (.ref (u 0)), some (.ref (u 1)), some (.ref (u 2)), some (.ref uq), some (.ref ub), some (.ref un), some (.int (nI (5 ^ nw))), some (.int ms), some (.int de2), some (.int sm), some (.int (nI N)), some (.int (nI (N / 5 ^ nw))), some (.int (fsv (dl N) 4 nw)), some (.int (fsd dm (dl N) 4 nw)), some (.int (fsu (fun u c => qf (4 * c + u)) (dl N) 4 nw)), some (.int (kbz (kok on rm dm bd (fun u c => qf (4 * c + u)) nc (dl N) nw))), none, some (.int ah), none, none]) (fun u_ : Unit => []) 391 (3) (24) (fun u_ hu_ => ?_) (fun J391 => ?_)
              · skip
                have hbet := hu_
                refine g_iload C dL_assigns_391 rfl ?_
                refine g_istore C [some (.ref (d 0)), some (.ref (u 0)), some (.ref (u 1)), some (.ref (u 2)), some (.ref uq), some (.ref ub), some (.ref un), some (.int (nI (5 ^ nw))), some (.int (fsv (dl N) 4 nw)), some (.int de2), some (.int sm), some (.int (nI N)), some (.int (nI (N / 5 ^ nw))), some (.int (fsv (dl N) 4 nw)), some (.int (fsd dm (dl N) 4 nw)), some (.int (fsu (fun u c => qf (4 * c + u)) (dl N) 4 nw)), some (.int (kbz (kok on rm dm bd (fun u c => qf (4 * c + u)) nc (dl N) nw))), none, some (.int ah), none, none] dL_assigns_393 (by decide) rfl rfl ?_
                refine g_iload C dL_assigns_395 rfl ?_
                refine g_istore C [some (.ref (d 0)), some (.ref (u 0)), some (.ref (u 1)), some (.ref (u 2)), some (.ref uq), some (.ref ub), some (.ref un), some (.int (nI (5 ^ nw))), some (.int (fsv (dl N) 4 nw)), some (.int de2), some (.int (fsu (fun u c => qf (4 * c + u)) (dl N) 4 nw)), some (.int (nI N)), some (.int (nI (N / 5 ^ nw))), some (.int (fsv (dl N) 4 nw)), some (.int (fsd dm (dl N) 4 nw)), some (.int (fsu (fun u c => qf (4 * c + u)) (dl N) 4 nw)), some (.int (kbz (kok on rm dm bd (fun u c => qf (4 * c + u)) nc (dl N) nw))), none, some (.int ah), none, none] dL_assigns_397 (by decide) rfl rfl ?_
                refine g_iconst C 0 dL_assigns_399 (by decide +kernel) ?_
                refine g_istore C [some (.ref (d 0)), some (.ref (u 0)), some (.ref (u 1)), some (.ref (u 2)), some (.ref uq), some (.ref ub), some (.ref un), some (.int (nI (5 ^ nw))), some (.int (fsv (dl N) 4 nw)), some (.int de2), some (.int (fsu (fun u c => qf (4 * c + u)) (dl N) 4 nw)), some (.int (nI N)), some (.int (nI (N / 5 ^ nw))), some (.int (fsv (dl N) 4 nw)), some (.int (fsd dm (dl N) 4 nw)), some (.int (fsu (fun u c => qf (4 * c + u)) (dl N) 4 nw)), some (.int (kbz (kok on rm dm bd (fun u c => qf (4 * c + u)) nc (dl N) nw))), none, some (.int ah), some (.int 0), none] dL_assigns_400 (by decide) rfl rfl ?_
                refine g_loop2 0 bf1 (fun (t : Nat) (bg : Nat → Int32) => t ≤ nw ∧ ∀ j, j < t → bg j = (fun j => nI (dl N j)) j) (fun (t : Nat) (bg : Nat → Int32) => (wF cI un nf2 ++ (wE cI ub bg ++ (wQ cI uq qf ++ (wA cI u nc nw tk ho ri lo mg pt bd cx cy ch rm on wx wy dm sv fv hd lf la ++ ((wCo cI a b d mg pt bd tk ho ri lo fv hd lf la ++ wSo cI cW a b r2 hp rl cn be bw wo) ++ wL cI cZ cG a r nc nw cx cy ch rm on wx wy dm sv mu qq)))))) (fun (t : Nat) (bg : Nat → Int32) => [some (.ref (d 0)), some (.ref (u 0)), some (.ref (u 1)), some (.ref (u 2)), some (.ref uq), some (.ref ub), some (.ref un), some (.int (nI (5 ^ nw))), some (.int (fsv (dl N) 4 nw)), some (.int de2), some (.int (fsu (fun u c => qf (4 * c + u)) (dl N) 4 nw)), some (.int (nI N)), some (.int (nI (N / 5 ^ nw))), some (.int (fsv (dl N) 4 nw)), some (.int (fsd dm (dl N) 4 nw)), some (.int (fsu (fun u c => qf (4 * c + u)) (dl N) 4 nw)), some (.int (kbz (kok on rm dm bd (fun u c => qf (4 * c + u)) nc (dl N) nw))), none, some (.int ah), some (.int (nI t)), none]) (fun (t : Nat) (bg : Nat → Int32) => nw - t) ⟨Nat.zero_le _, fun j hj => absurd hj (Nat.not_lt_zero _)⟩ rfl rfl (fun t bg hG gh => ?_)
                obtain ⟨g1, g2⟩ := hG
                refine g_iload C dL_assigns_402 rfl ?_
                refine g_aload_n C dL_assigns_404 rfl ?_
                refine g_iconst C 1 dL_assigns_405 (by decide +kernel) ?_
                refine g_iald C 3 0 rfl rfl 1 rfl (by omega) (by decide) (nI nw) rfl dL_assigns_406 ?_
                refine g_icmp_ge C 426 dL_assigns_407 (by decide) (fun c_407 => ?_) (fun c_407 => ?_)
                · skip
                  have c_407 : nw ≤ t := (nI_leI (by omega) (by omega)).mp c_407
                  refine g_iinc C (nI (N + 1)) [some (.ref (d 0)), some (.ref (u 0)), some (.ref (u 1)), some (.ref (u 2)), some (.ref uq), some (.ref ub), some (.ref un), some (.int (nI (5 ^ nw))), some (.int (fsv (dl N) 4 nw)), some (.int de2), some (.int (fsu (fun u c => qf (4 * c + u)) (dl N) 4 nw)), some (.int (nI (N + 1))), some (.int (nI (N / 5 ^ nw))), some (.int (fsv (dl N) 4 nw)), some (.int (fsd dm (dl N) 4 nw)), some (.int (fsu (fun u c => qf (4 * c + u)) (dl N) 4 nw)), some (.int (kbz (kok on rm dm bd (fun u c => qf (4 * c + u)) nc (dl N) nw))), none, some (.int ah), some (.int (nI t)), none] dL_assigns_426 rfl (nI_1 N) (by decide) rfl rfl ?_
                  refine g_goto C 68 dL_assigns_429 (by decide) ?_
                  refine g_mask [true, true, true, true, true, true, true, true, true, true, true, true, false, false, false, false, false, false, false, false, false] rfl ?_
                  exact ih (N + 1) (dl N) bg nf2 (fsv (dl N) 4 nw) de2 (fsu (fun u c => qf (4 * c + u)) (dl N) 4 nw) ⟨by omega, RB_take HQ n4 hRB (kbz_1 c_355) hbet, hde2, fun j hj => g2 j (by omega)⟩ (by omega)
                · skip
                  have c_407 : ¬ (nw ≤ t) := fun h9 => c_407 ((nI_leI (by omega) (by omega)).mpr h9)
                  refine g_aload C dL_assigns_410 rfl ?_
                  refine g_iload C dL_assigns_412 rfl ?_
                  refine g_aload C dL_assigns_414 rfl ?_
                  refine g_iload C dL_assigns_416 rfl ?_
                  refine g_iald C 0 0 rfl rfl t rfl (by omega) (by decide) (nI (dl N t)) (e2 t (by omega)) dL_assigns_418 ?_
                  refine g_iast C 1 0 rfl rfl t rfl (by omega) (by decide) (wF cI un nf2 ++ (wE cI ub (upd bg t (nI (dl N t))) ++ (wQ cI uq qf ++ (wA cI u nc nw tk ho ri lo mg pt bd cx cy ch rm on wx wy dm sv fv hd lf la ++ ((wCo cI a b d mg pt bd tk ho ri lo fv hd lf la ++ wSo cI cW a b r2 hp rl cn be bw wo) ++ wL cI cZ cG a r nc nw cx cy ch rm on wx wy dm sv mu qq))))) rfl dL_assigns_419 ?_
                  refine g_iinc C (nI (t + 1)) [some (.ref (d 0)), some (.ref (u 0)), some (.ref (u 1)), some (.ref (u 2)), some (.ref uq), some (.ref ub), some (.ref un), some (.int (nI (5 ^ nw))), some (.int (fsv (dl N) 4 nw)), some (.int de2), some (.int (fsu (fun u c => qf (4 * c + u)) (dl N) 4 nw)), some (.int (nI N)), some (.int (nI (N / 5 ^ nw))), some (.int (fsv (dl N) 4 nw)), some (.int (fsd dm (dl N) 4 nw)), some (.int (fsu (fun u c => qf (4 * c + u)) (dl N) 4 nw)), some (.int (kbz (kok on rm dm bd (fun u c => qf (4 * c + u)) nc (dl N) nw))), none, some (.int ah), some (.int (nI (t + 1))), none] dL_assigns_420 rfl (nI_1 t) (by decide) rfl rfl ?_
                  refine g_goto C 402 dL_assigns_423 (by decide) ?_
                  exact gh (t + 1) (upd bg t (nI (dl N t))) ⟨by omega, updP g2 rfl⟩ (by omega)
              · skip
                refine g_iload C dL_assigns_358 rfl ?_
                refine g_iload C dL_assigns_360 rfl ?_
                refine g_icmp_gt C 391 dL_assigns_362 (by decide) (fun c_362 => ?_) (fun c_362 => ?_)
                · skip
                  refine g_widen (k' := 3) (n' := 24) (by omega) (by omega) ?_
                  exact J391 (()) (Or.inl c_362)
                · skip
                  refine g_iload C dL_assigns_365 rfl ?_
                  refine g_iload C dL_assigns_367 rfl ?_
                  refine g_icmp_ne C 426 dL_assigns_369 (by decide) (fun c_369 => ?_) (fun c_369 => ?_)
                  · skip
                    refine g_iinc C (nI (N + 1)) [some (.ref (d 0)), some (.ref (u 0)), some (.ref (u 1)), some (.ref (u 2)), some (.ref uq), some (.ref ub), some (.ref un), some (.int (nI (5 ^ nw))), some (.int ms), some (.int de2), some (.int sm), some (.int (nI (N + 1))), some (.int (nI (N / 5 ^ nw))), some (.int (fsv (dl N) 4 nw)), some (.int (fsd dm (dl N) 4 nw)), some (.int (fsu (fun u c => qf (4 * c + u)) (dl N) 4 nw)), some (.int (kbz (kok on rm dm bd (fun u c => qf (4 * c + u)) nc (dl N) nw))), none, some (.int ah), none, none] dL_assigns_426 rfl (nI_1 N) (by decide) rfl rfl ?_
                    refine g_goto C 68 dL_assigns_429 (by decide) ?_
                    refine g_mask [true, true, true, true, true, true, true, true, true, true, true, true, false, false, false, false, false, false, false, false, false] rfl ?_
                    exact ih (N + 1) B bf1 nf2 ms de2 sm ⟨by omega, RB_keep HQ n4 hRB (Or.inl ((Int32.le_iff_lt_or_eq.mp (Int32.not_lt.mp c_362)).elim id (fun q => absurd q c_369))), hde2, hbf⟩ (by omega)
                  · skip
                    have q369 := c_369
                    refine g_iload C dL_assigns_372 rfl ?_
                    refine g_iload C dL_assigns_374 rfl ?_
                    refine g_icmp_gt C 391 dL_assigns_376 (by decide) (fun c_376 => ?_) (fun c_376 => ?_)
                    · skip
                      refine g_widen (k' := 3) (n' := 24) (by omega) (by omega) ?_
                      exact J391 (()) (Or.inr ⟨c_369, Or.inl c_376⟩)
                    · skip
                      refine g_iload C dL_assigns_379 rfl ?_
                      refine g_iload C dL_assigns_381 rfl ?_
                      refine g_icmp_ne C 426 dL_assigns_383 (by decide) (fun c_383 => ?_) (fun c_383 => ?_)
                      · skip
                        refine g_iinc C (nI (N + 1)) [some (.ref (d 0)), some (.ref (u 0)), some (.ref (u 1)), some (.ref (u 2)), some (.ref uq), some (.ref ub), some (.ref un), some (.int (nI (5 ^ nw))), some (.int ms), some (.int de2), some (.int sm), some (.int (nI (N + 1))), some (.int (nI (N / 5 ^ nw))), some (.int (fsv (dl N) 4 nw)), some (.int (fsd dm (dl N) 4 nw)), some (.int (fsu (fun u c => qf (4 * c + u)) (dl N) 4 nw)), some (.int (kbz (kok on rm dm bd (fun u c => qf (4 * c + u)) nc (dl N) nw))), none, some (.int ah), none, none] dL_assigns_426 rfl (nI_1 N) (by decide) rfl rfl ?_
                        refine g_goto C 68 dL_assigns_429 (by decide) ?_
                        refine g_mask [true, true, true, true, true, true, true, true, true, true, true, true, false, false, false, false, false, false, false, false, false] rfl ?_
                        exact ih (N + 1) B bf1 nf2 ms de2 sm ⟨by omega, RB_keep HQ n4 hRB (Or.inr ⟨c_369, Or.inl ((Int32.le_iff_lt_or_eq.mp (Int32.not_lt.mp c_376)).elim id (fun q => absurd q c_383))⟩), hde2, hbf⟩ (by omega)
                      · skip
                        refine g_iload C dL_assigns_386 rfl ?_
                        refine g_if_eq C 426 dL_assigns_388 (by decide) (fun c_388 => ?_) (fun c_388 => ?_)
                        · skip
                          refine g_iinc C (nI (N + 1)) [some (.ref (d 0)), some (.ref (u 0)), some (.ref (u 1)), some (.ref (u 2)), some (.ref uq), some (.ref ub), some (.ref un), some (.int (nI (5 ^ nw))), some (.int ms), some (.int de2), some (.int sm), some (.int (nI (N + 1))), some (.int (nI (N / 5 ^ nw))), some (.int (fsv (dl N) 4 nw)), some (.int (fsd dm (dl N) 4 nw)), some (.int (fsu (fun u c => qf (4 * c + u)) (dl N) 4 nw)), some (.int (kbz (kok on rm dm bd (fun u c => qf (4 * c + u)) nc (dl N) nw))), none, some (.int ah), none, none] dL_assigns_426 rfl (nI_1 N) (by decide) rfl rfl ?_
                          refine g_goto C 68 dL_assigns_429 (by decide) ?_
                          refine g_mask [true, true, true, true, true, true, true, true, true, true, true, true, false, false, false, false, false, false, false, false, false] rfl ?_
                          exact ih (N + 1) B bf1 nf2 ms de2 sm ⟨by omega, RB_keep HQ n4 hRB (Or.inr ⟨c_369, Or.inr ⟨c_383, hah.elim (fun q => absurd (q.1.symm.trans c_388) (by decide)) (fun q => q.2)⟩⟩), hde2, hbf⟩ (by omega)
                        · skip
                          refine g_widen (k' := 3) (n' := 24) (by omega) (by omega) ?_
                          exact J391 (()) (Or.inr ⟨c_369, Or.inr ⟨c_383, hah.elim (fun q => q.2) (fun q => absurd q.1 c_388)⟩⟩)
          · skip
            refine g_iload C dL_assigns_332 rfl ?_
            refine g_if_eq C 349 dL_assigns_334 (by decide) (fun c_334 => ?_) (fun c_334 => ?_)
            · skip
              refine g_iload C dL_assigns_349 rfl ?_
              refine g_istore C [some (.ref (d 0)), some (.ref (u 0)), some (.ref (u 1)), some (.ref (u 2)), some (.ref uq), some (.ref ub), some (.ref un), some (.int (nI (5 ^ nw))), some (.int ms), some (.int de), some (.int sm), some (.int (nI N)), some (.int (nI (N / 5 ^ nw))), some (.int (fsv (dl N) 4 nw)), some (.int (fsd dm (dl N) 4 nw)), some (.int (fsu (fun u c => qf (4 * c + u)) (dl N) 4 nw)), some (.int (kbz (kok on rm dm bd (fun u c => qf (4 * c + u)) nc (dl N) nw))), none, some (.int ah), none, none] dL_assigns_351 (by decide) rfl rfl ?_
              refine g_widen (k' := 3) (n' := 24) (by omega) (by omega) ?_
              exact J353 de (RD_skip hRD (kbz_0 c_334))
            · skip
              refine g_iload C dL_assigns_337 rfl ?_
              refine g_iload C dL_assigns_339 rfl ?_
              refine g_icmp_le C 349 dL_assigns_341 (by decide) (fun c_341 => ?_) (fun c_341 => ?_)
              · skip
                refine g_iload C dL_assigns_349 rfl ?_
                refine g_istore C [some (.ref (d 0)), some (.ref (u 0)), some (.ref (u 1)), some (.ref (u 2)), some (.ref uq), some (.ref ub), some (.ref un), some (.int (nI (5 ^ nw))), some (.int ms), some (.int de), some (.int sm), some (.int (nI N)), some (.int (nI (N / 5 ^ nw))), some (.int (fsv (dl N) 4 nw)), some (.int (fsd dm (dl N) 4 nw)), some (.int (fsu (fun u c => qf (4 * c + u)) (dl N) 4 nw)), some (.int (kbz (kok on rm dm bd (fun u c => qf (4 * c + u)) nc (dl N) nw))), none, some (.int ah), none, none] dL_assigns_351 (by decide) rfl rfl ?_
                refine g_widen (k' := 3) (n' := 24) (by omega) (by omega) ?_
                exact J353 de (RD_keep hRD c_341)
              · skip
                refine g_iload C dL_assigns_344 rfl ?_
                refine g_goto C 351 dL_assigns_346 (by decide) ?_
                refine g_istore C [some (.ref (d 0)), some (.ref (u 0)), some (.ref (u 1)), some (.ref (u 2)), some (.ref uq), some (.ref ub), some (.ref un), some (.int (nI (5 ^ nw))), some (.int ms), some (.int (fsd dm (dl N) 4 nw)), some (.int sm), some (.int (nI N)), some (.int (nI (N / 5 ^ nw))), some (.int (fsv (dl N) 4 nw)), some (.int (fsd dm (dl N) 4 nw)), some (.int (fsu (fun u c => qf (4 * c + u)) (dl N) 4 nw)), some (.int (kbz (kok on rm dm bd (fun u c => qf (4 * c + u)) nc (dl N) nw))), none, some (.int ah), none, none] dL_assigns_351 (by decide) rfl rfl ?_
                refine g_widen (k' := 3) (n' := 24) (by omega) (by omega) ?_
                exact J353 (fsd dm (dl N) 4 nw) (RD_take hRD (kbz_1 c_334) c_341)
        · skip
          refine g_iconst C 0 dL_assigns_274 (by decide +kernel) ?_
          refine g_istore C [some (.ref (d 0)), some (.ref (u 0)), some (.ref (u 1)), some (.ref (u 2)), some (.ref uq), some (.ref ub), some (.ref un), some (.int (nI (5 ^ nw))), some (.int ms), some (.int de), some (.int sm), some (.int (nI N)), some (.int (nI (N / 5 ^ nw))), some (.int (fsv (dl N) 4 nw)), some (.int (fsd dm (dl N) 4 nw)), some (.int (fsu (fun u c => qf (4 * c + u)) (dl N) 4 nw)), some (.int (kbz (kok on rm dm bd (fun u c => qf (4 * c + u)) nc (dl N) nw))), some (.int 0), none, none, none] dL_assigns_275 (by decide) rfl rfl ?_
          refine g_loop1 0 (fun (t : Nat) => t ≤ nw ∧ ∀ j, j < t → dl N j = B j) (fun (t : Nat) => (wF cI un nf2 ++ (wE cI ub bf1 ++ (wQ cI uq qf ++ (wA cI u nc nw tk ho ri lo mg pt bd cx cy ch rm on wx wy dm sv fv hd lf la ++ ((wCo cI a b d mg pt bd tk ho ri lo fv hd lf la ++ wSo cI cW a b r2 hp rl cn be bw wo) ++ wL cI cZ cG a r nc nw cx cy ch rm on wx wy dm sv mu qq)))))) (fun (t : Nat) => [some (.ref (d 0)), some (.ref (u 0)), some (.ref (u 1)), some (.ref (u 2)), some (.ref uq), some (.ref ub), some (.ref un), some (.int (nI (5 ^ nw))), some (.int ms), some (.int de), some (.int sm), some (.int (nI N)), some (.int (nI (N / 5 ^ nw))), some (.int (fsv (dl N) 4 nw)), some (.int (fsd dm (dl N) 4 nw)), some (.int (fsu (fun u c => qf (4 * c + u)) (dl N) 4 nw)), some (.int (kbz (kok on rm dm bd (fun u c => qf (4 * c + u)) nc (dl N) nw))), some (.int (nI t)), none, none, none]) (fun (t : Nat) => nw - t) ⟨Nat.zero_le _, fun j hj => absurd hj (Nat.not_lt_zero _)⟩ rfl rfl (fun t hT th => ?_)
          obtain ⟨d1, d2⟩ := hT
          refine g_iload C dL_assigns_277 rfl ?_
          refine g_aload_n C dL_assigns_279 rfl ?_
          refine g_iconst C 1 dL_assigns_280 (by decide +kernel) ?_
          refine g_iald C 3 0 rfl rfl 1 rfl (by omega) (by decide) (nI nw) rfl dL_assigns_281 ?_
          refine g_icmp_ge C 304 dL_assigns_282 (by decide) (fun c_282 => ?_) (fun c_282 => ?_)
          · skip
            have c_282 : nw ≤ t := (nI_leI (by omega) (by omega)).mp c_282
            refine g_iload C dL_assigns_304 rfl ?_
            refine g_aload_n C dL_assigns_306 rfl ?_
            refine g_iconst C 1 dL_assigns_307 (by decide +kernel) ?_
            refine g_iald C 3 0 rfl rfl 1 rfl (by omega) (by decide) (nI nw) rfl dL_assigns_308 ?_
            refine g_icmp_ge C 329 dL_assigns_309 (by decide) (fun _ => ?_) (fun c9 => absurd (nI_le c_282 (by omega)) c9)
            refine g_iconst C 0 dL_assigns_329 (by decide +kernel) ?_
            refine g_mask [true, true, true, true, true, true, true, true, true, true, true, true, true, true, true, true, true, false, false, false, false] rfl ?_
            refine g_widen (k' := 3) (n' := 24) (by omega) (by omega) ?_
            exact J330 0 (Or.inr ⟨rfl, LX_no d2 (fun h => absurd h (by omega))⟩)
          · skip
            have c_282 : ¬ (nw ≤ t) := fun h9 => c_282 ((nI_leI (by omega) (by omega)).mpr h9)
            have l3 := dl_le (N := N) (j := t)
            have l4 := hRB.1 t (by omega)
            refine g_aload C dL_assigns_285 rfl ?_
            refine g_iload C dL_assigns_287 rfl ?_
            refine g_iald C 0 0 rfl rfl t rfl (by omega) (by decide) (nI (dl N t)) (e2 t (by omega)) dL_assigns_289 ?_
            refine g_aload C dL_assigns_290 rfl ?_
            refine g_iload C dL_assigns_292 rfl ?_
            refine g_iald C 1 0 rfl rfl t rfl (by omega) (by decide) (nI (B t)) (hbf t (by omega)) dL_assigns_294 ?_
            refine g_icmp_ne C 304 dL_assigns_295 (by decide) (fun c_295 => ?_) (fun c_295 => ?_)
            · skip
              have c_295 : ¬ ((dl N t) = (B t)) := fun h9 => c_295 ((nI_eq (by omega) (by omega)).mpr h9)
              refine g_iload C dL_assigns_304 rfl ?_
              refine g_aload_n C dL_assigns_306 rfl ?_
              refine g_iconst C 1 dL_assigns_307 (by decide +kernel) ?_
              refine g_iald C 3 0 rfl rfl 1 rfl (by omega) (by decide) (nI nw) rfl dL_assigns_308 ?_
              refine g_icmp_ge C 329 dL_assigns_309 (by decide) (fun c9 => absurd c9 (nI_ge (by omega) (by omega))) (fun _ => ?_)
              refine g_aload C dL_assigns_312 rfl ?_
              refine g_iload C dL_assigns_314 rfl ?_
              refine g_iald C 0 0 rfl rfl t rfl (by omega) (by decide) (nI (dl N t)) (e2 t (by omega)) dL_assigns_316 ?_
              refine g_aload C dL_assigns_317 rfl ?_
              refine g_iload C dL_assigns_319 rfl ?_
              refine g_iald C 1 0 rfl rfl t rfl (by omega) (by decide) (nI (B t)) (hbf t (by omega)) dL_assigns_321 ?_
              refine g_icmp_ge C 329 dL_assigns_322 (by decide) (fun c_322 => ?_) (fun c_322 => ?_)
              · skip
                have c_322 : (B t) ≤ (dl N t) := (nI_leI (by omega) (by omega)).mp c_322
                refine g_iconst C 0 dL_assigns_329 (by decide +kernel) ?_
                refine g_mask [true, true, true, true, true, true, true, true, true, true, true, true, true, true, true, true, true, false, false, false, false] rfl ?_
                refine g_widen (k' := 3) (n' := 24) (by omega) (by omega) ?_
                exact J330 0 (Or.inr ⟨rfl, LX_no d2 (fun _ => Or.inl (by omega))⟩)
              · skip
                have c_322 : ¬ ((B t) ≤ (dl N t)) := fun h9 => c_322 ((nI_leI (by omega) (by omega)).mpr h9)
                refine g_iconst C 1 dL_assigns_325 (by decide +kernel) ?_
                refine g_goto C 330 dL_assigns_326 (by decide) ?_
                refine g_mask [true, true, true, true, true, true, true, true, true, true, true, true, true, true, true, true, true, false, false, false, false] rfl ?_
                refine g_widen (k' := 3) (n' := 24) (by omega) (by omega) ?_
                exact J330 1 (Or.inl ⟨rfl, t, by omega, d2, by omega⟩)
            · skip
              have c_295 : (dl N t) = (B t) := (nI_eq (by omega) (by omega)).mp c_295
              refine g_iinc C (nI (t + 1)) [some (.ref (d 0)), some (.ref (u 0)), some (.ref (u 1)), some (.ref (u 2)), some (.ref uq), some (.ref ub), some (.ref un), some (.int (nI (5 ^ nw))), some (.int ms), some (.int de), some (.int sm), some (.int (nI N)), some (.int (nI (N / 5 ^ nw))), some (.int (fsv (dl N) 4 nw)), some (.int (fsd dm (dl N) 4 nw)), some (.int (fsu (fun u c => qf (4 * c + u)) (dl N) 4 nw)), some (.int (kbz (kok on rm dm bd (fun u c => qf (4 * c + u)) nc (dl N) nw))), some (.int (nI (t + 1))), none, none, none] dL_assigns_298 rfl (nI_1 t) (by decide) rfl rfl ?_
              refine g_goto C 277 dL_assigns_301 (by decide) ?_
              exact th (t + 1) ⟨by omega, fun j hj => by by_cases q : j = t; exact q ▸ c_295; exact d2 j (by omega)⟩ (by omega)
      · skip
        have c_99 : ¬ (nw ≤ kk) := fun h9 => c_99 ((nI_leI (by omega) (by omega)).mpr h9)
        refine g_aload C dL_assigns_102 rfl ?_
        refine g_iload C dL_assigns_104 rfl ?_
        refine g_iload C dL_assigns_106 rfl ?_
        refine g_iconst C 5 dL_assigns_108 (by decide +kernel) ?_
        refine g_irem C (nI (dl N kk)) dL_assigns_109 (by decide) (rem5 (by omega)) ?_
        refine g_iast C 0 0 rfl rfl kk rfl (by omega) (by decide) (wF cI un (upd nf2 kk (nI (dl N kk))) ++ (wE cI ub bf1 ++ (wQ cI uq qf ++ (wA cI u nc nw tk ho ri lo mg pt bd cx cy ch rm on wx wy dm sv fv hd lf la ++ ((wCo cI a b d mg pt bd tk ho ri lo fv hd lf la ++ wSo cI cW a b r2 hp rl cn be bw wo) ++ wL cI cZ cG a r nc nw cx cy ch rm on wx wy dm sv mu qq))))) rfl dL_assigns_110 ?_
        refine g_iload C dL_assigns_111 rfl ?_
        refine g_iconst C 5 dL_assigns_113 (by decide +kernel) ?_
        refine g_idiv C (nI (N / 5 ^ (kk + 1))) dL_assigns_114 (by decide) (div5 (by omega)) ?_
        refine g_istore C [some (.ref (d 0)), some (.ref (u 0)), some (.ref (u 1)), some (.ref (u 2)), some (.ref uq), some (.ref ub), some (.ref un), some (.int (nI (5 ^ nw))), some (.int ms), some (.int de), some (.int sm), some (.int (nI N)), some (.int (nI (N / 5 ^ (kk + 1)))), some (.int (fsv (dl N) 4 kk)), some (.int (fsd dm (dl N) 4 kk)), some (.int (fsu (fun u c => qf (4 * c + u)) (dl N) 4 kk)), some (.int (kbz (kok on rm dm bd (fun u c => qf (4 * c + u)) nc (dl N) kk))), some (.int (nI kk)), none, none, none] dL_assigns_115 (by decide) rfl rfl ?_
        have hn2 : ∀ j, j < kk + 1 → upd nf2 kk (nI (dl N kk)) j = (fun j => nI (dl N j)) j := updP e2 rfl
        refine g_aload C dL_assigns_117 rfl ?_
        refine g_iload C dL_assigns_119 rfl ?_
        refine g_iald C 0 0 rfl rfl kk rfl (by omega) (by decide) (nI (dl N kk)) upd_at dL_assigns_121 ?_
        refine g_iconst C 4 dL_assigns_122 (by decide +kernel) ?_
        refine g_icmp_ge C 268 dL_assigns_123 (by decide) (fun c_123 => ?_) (fun c_123 => ?_)
        · skip
          have hdg : 4 ≤ dl N kk := (nI_leI (a := 4) (b := dl N kk) (by decide) (by omega)).mp c_123
          refine g_lv (lv' := [some (.ref (d 0)), some (.ref (u 0)), some (.ref (u 1)), some (.ref (u 2)), some (.ref uq), some (.ref ub), some (.ref un), some (.int (nI (5 ^ nw))), some (.int ms), some (.int de), some (.int sm), some (.int (nI N)), some (.int (nI (N / 5 ^ (kk + 1)))), some (.int (fsv (dl N) 4 (kk + 1))), some (.int (fsd dm (dl N) 4 (kk + 1))), some (.int (fsu (fun u c => qf (4 * c + u)) (dl N) 4 (kk + 1))), some (.int (kbz (kok on rm dm bd (fun u c => qf (4 * c + u)) nc (dl N) (kk + 1)))), some (.int (nI kk)), none, none, none]) (by rw [show fsv (dl N) 4 (kk + 1) = fsv (dl N) 4 kk from if_pos hdg, show fsd dm (dl N) 4 (kk + 1) = fsd dm (dl N) 4 kk from if_pos hdg, show fsu (fun u c => qf (4 * c + u)) (dl N) 4 (kk + 1) = fsu (fun u c => qf (4 * c + u)) (dl N) 4 kk from if_pos hdg, kok4 hdg]) ?_
          refine g_iinc C (nI (kk + 1)) [some (.ref (d 0)), some (.ref (u 0)), some (.ref (u 1)), some (.ref (u 2)), some (.ref uq), some (.ref ub), some (.ref un), some (.int (nI (5 ^ nw))), some (.int ms), some (.int de), some (.int sm), some (.int (nI N)), some (.int (nI (N / 5 ^ (kk + 1)))), some (.int (fsv (dl N) 4 (kk + 1))), some (.int (fsd dm (dl N) 4 (kk + 1))), some (.int (fsu (fun u c => qf (4 * c + u)) (dl N) 4 (kk + 1))), some (.int (kbz (kok on rm dm bd (fun u c => qf (4 * c + u)) nc (dl N) (kk + 1)))), some (.int (nI (kk + 1))), none, none, none] dL_assigns_268 rfl (nI_1 kk) (by decide) rfl rfl ?_
          refine g_goto C 94 dL_assigns_271 (by decide) ?_
          exact kh (kk + 1) (upd nf2 kk (nI (dl N kk))) ⟨by omega, hn2⟩ (by omega)
        · skip
          have hdg : ¬ 4 ≤ dl N kk := fun h => c_123 ((nI_leI (a := 4) (b := dl N kk) (by decide) (by omega)).mpr h)
          refine g_aload C dL_assigns_126 rfl ?_
          refine g_iload C dL_assigns_128 rfl ?_
          refine g_iald C 0 0 rfl rfl kk rfl (by omega) (by decide) (nI (dl N kk)) upd_at dL_assigns_130 ?_
          refine g_istore C [some (.ref (d 0)), some (.ref (u 0)), some (.ref (u 1)), some (.ref (u 2)), some (.ref uq), some (.ref ub), some (.ref un), some (.int (nI (5 ^ nw))), some (.int ms), some (.int de), some (.int sm), some (.int (nI N)), some (.int (nI (N / 5 ^ (kk + 1)))), some (.int (fsv (dl N) 4 kk)), some (.int (fsd dm (dl N) 4 kk)), some (.int (fsu (fun u c => qf (4 * c + u)) (dl N) 4 kk)), some (.int (kbz (kok on rm dm bd (fun u c => qf (4 * c + u)) nc (dl N) kk))), some (.int (nI kk)), some (.int (nI (dl N kk))), none, none] dL_assigns_131 (by decide) rfl rfl ?_
          refine g_iconst C 0 dL_assigns_133 (by decide +kernel) ?_
          refine g_istore C [some (.ref (d 0)), some (.ref (u 0)), some (.ref (u 1)), some (.ref (u 2)), some (.ref uq), some (.ref ub), some (.ref un), some (.int (nI (5 ^ nw))), some (.int ms), some (.int de), some (.int sm), some (.int (nI N)), some (.int (nI (N / 5 ^ (kk + 1)))), some (.int (fsv (dl N) 4 kk)), some (.int (fsd dm (dl N) 4 kk)), some (.int (fsu (fun u c => qf (4 * c + u)) (dl N) 4 kk)), some (.int (kbz (kok on rm dm bd (fun u c => qf (4 * c + u)) nc (dl N) kk))), some (.int (nI kk)), some (.int (nI (dl N kk))), some (.int 0), none] dL_assigns_134 (by decide) rfl rfl ?_
          refine g_iconst C 0 dL_assigns_136 (by decide +kernel) ?_
          refine g_istore C [some (.ref (d 0)), some (.ref (u 0)), some (.ref (u 1)), some (.ref (u 2)), some (.ref uq), some (.ref ub), some (.ref un), some (.int (nI (5 ^ nw))), some (.int ms), some (.int de), some (.int sm), some (.int (nI N)), some (.int (nI (N / 5 ^ (kk + 1)))), some (.int (fsv (dl N) 4 kk)), some (.int (fsd dm (dl N) 4 kk)), some (.int (fsu (fun u c => qf (4 * c + u)) (dl N) 4 kk)), some (.int (kbz (kok on rm dm bd (fun u c => qf (4 * c + u)) nc (dl N) kk))), some (.int (nI kk)), some (.int (nI (dl N kk))), some (.int 0), some (.int 0)] dL_assigns_137 (by decide) rfl rfl ?_
          refine g_loop2 0 0 (fun (jj : Nat) (y : Int32) => jj ≤ kk + 1 ∧ y = fgl (dl N) dm (dl N kk) jj) (fun (jj : Nat) (y : Int32) => (wF cI un (upd nf2 kk (nI (dl N kk))) ++ (wE cI ub bf1 ++ (wQ cI uq qf ++ (wA cI u nc nw tk ho ri lo mg pt bd cx cy ch rm on wx wy dm sv fv hd lf la ++ ((wCo cI a b d mg pt bd tk ho ri lo fv hd lf la ++ wSo cI cW a b r2 hp rl cn be bw wo) ++ wL cI cZ cG a r nc nw cx cy ch rm on wx wy dm sv mu qq)))))) (fun (jj : Nat) (y : Int32) => [some (.ref (d 0)), some (.ref (u 0)), some (.ref (u 1)), some (.ref (u 2)), some (.ref uq), some (.ref ub), some (.ref un), some (.int (nI (5 ^ nw))), some (.int ms), some (.int de), some (.int sm), some (.int (nI N)), some (.int (nI (N / 5 ^ (kk + 1)))), some (.int (fsv (dl N) 4 kk)), some (.int (fsd dm (dl N) 4 kk)), some (.int (fsu (fun u c => qf (4 * c + u)) (dl N) 4 kk)), some (.int (kbz (kok on rm dm bd (fun u c => qf (4 * c + u)) nc (dl N) kk))), some (.int (nI kk)), some (.int (nI (dl N kk))), some (.int y), some (.int (nI jj))]) (fun (jj : Nat) (y : Int32) => kk + 1 - jj) ⟨Nat.zero_le _, rfl⟩ rfl rfl (fun jj y hF fh => ?_)
          obtain ⟨f1, f2⟩ := hF
          have l2 := dl_le (N := N) (j := jj)
          refine g_iload C dL_assigns_139 rfl ?_
          refine g_iload C dL_assigns_141 rfl ?_
          refine g_icmp_gt C 178 dL_assigns_143 (by decide) (fun c_143 => ?_) (fun c_143 => ?_)
          · skip
            have c_143 : kk < jj := (nI_ltI (by omega) (by omega)).mp c_143
            have hy : y = fgl (dl N) dm (dl N kk) (kk + 1) := by rw [f2, show jj = kk + 1 by omega]
            refine g_join (σ := Unit) (fun u_ : Unit => True) (fun u_ : Unit => (wF cI un (upd nf2 kk (nI (dl N kk))) ++ (wE cI ub bf1 ++ (wQ cI uq qf ++ (wA cI u nc nw tk ho ri lo mg pt bd cx cy ch rm on wx wy dm sv fv hd lf la ++ ((wCo cI a b d mg pt bd tk ho ri lo fv hd lf la ++ wSo cI cW a b r2 hp rl cn be bw wo) ++ wL cI cZ cG a r nc nw cx cy ch rm on wx wy dm sv mu qq)))))) (fun u_ : Unit => [some (.ref (d 0)), some (.ref (u 0)), some (.ref (u 1)), some (.ref (u 2)), some (.ref uq), some (.ref ub), some (.ref un), some (.int (nI (5 ^ nw))), some (.int ms), some (.int de), some (.int sm), some (.int (nI N)), some (.int (nI (N / 5 ^ (kk + 1)))), some (.int (fsv (dl N) 4 kk)), some (.int (fsd dm (dl N) 4 kk)), some (.int (fsu (fun u c => qf (4 * c + u)) (dl N) 4 kk)), some (.int (kbz (kok on rm dm bd (fun u c => qf (4 * c + u)) nc (dl N) kk))), some (.int (nI kk)), some (.int (nI (dl N kk))), some (.int y), some (.int (nI jj))]) (fun u_ : Unit => [.int (kbz (kok on rm dm bd (fun u c => qf (4 * c + u)) nc (dl N) (kk + 1)))]) 236 (3) (24) (fun u_ hu_ => ?_) (fun J236 => ?_)
            · skip
              refine g_istore C [some (.ref (d 0)), some (.ref (u 0)), some (.ref (u 1)), some (.ref (u 2)), some (.ref uq), some (.ref ub), some (.ref un), some (.int (nI (5 ^ nw))), some (.int ms), some (.int de), some (.int sm), some (.int (nI N)), some (.int (nI (N / 5 ^ (kk + 1)))), some (.int (fsv (dl N) 4 kk)), some (.int (fsd dm (dl N) 4 kk)), some (.int (fsu (fun u c => qf (4 * c + u)) (dl N) 4 kk)), some (.int (kbz (kok on rm dm bd (fun u c => qf (4 * c + u)) nc (dl N) (kk + 1)))), some (.int (nI kk)), some (.int (nI (dl N kk))), some (.int y), some (.int (nI jj))] dL_assigns_236 (by decide) rfl rfl ?_
              refine g_iinc C (fsv (dl N) 4 (kk + 1)) [some (.ref (d 0)), some (.ref (u 0)), some (.ref (u 1)), some (.ref (u 2)), some (.ref uq), some (.ref ub), some (.ref un), some (.int (nI (5 ^ nw))), some (.int ms), some (.int de), some (.int sm), some (.int (nI N)), some (.int (nI (N / 5 ^ (kk + 1)))), some (.int (fsv (dl N) 4 (kk + 1))), some (.int (fsd dm (dl N) 4 kk)), some (.int (fsu (fun u c => qf (4 * c + u)) (dl N) 4 kk)), some (.int (kbz (kok on rm dm bd (fun u c => qf (4 * c + u)) nc (dl N) (kk + 1)))), some (.int (nI kk)), some (.int (nI (dl N kk))), some (.int y), some (.int (nI jj))] dL_assigns_238 rfl (if_neg hdg).symm (by decide) rfl rfl ?_
              refine g_iload C dL_assigns_241 rfl ?_
              refine g_aload_n C dL_assigns_243 rfl ?_
              refine g_bipush C 8 dL_assigns_244 (by decide +kernel) ?_
              refine g_iload C dL_assigns_246 rfl ?_
              refine g_iadd C (nI (8 + kk)) dL_assigns_248 (nI_k 8 kk _ rfl) ?_
              refine g_iald C 5 0 rfl rfl (8 + kk) rfl (by omega) (by decide) (dm kk) (hA_2 (by omega)) dL_assigns_249 ?_
              refine g_iadd C (fsd dm (dl N) 4 (kk + 1)) dL_assigns_250 (if_neg hdg).symm ?_
              refine g_istore C [some (.ref (d 0)), some (.ref (u 0)), some (.ref (u 1)), some (.ref (u 2)), some (.ref uq), some (.ref ub), some (.ref un), some (.int (nI (5 ^ nw))), some (.int ms), some (.int de), some (.int sm), some (.int (nI N)), some (.int (nI (N / 5 ^ (kk + 1)))), some (.int (fsv (dl N) 4 (kk + 1))), some (.int (fsd dm (dl N) 4 (kk + 1))), some (.int (fsu (fun u c => qf (4 * c + u)) (dl N) 4 kk)), some (.int (kbz (kok on rm dm bd (fun u c => qf (4 * c + u)) nc (dl N) (kk + 1)))), some (.int (nI kk)), some (.int (nI (dl N kk))), some (.int y), some (.int (nI jj))] dL_assigns_251 (by decide) rfl rfl ?_
              refine g_iload C dL_assigns_253 rfl ?_
              refine g_aload C dL_assigns_255 rfl ?_
              refine g_iconst C 4 dL_assigns_257 (by decide +kernel) ?_
              refine g_iload C dL_assigns_258 rfl ?_
              refine g_imul C (nI (4 * (dl N kk))) dL_assigns_260 (nI_mk 4 (dl N kk) _ rfl) ?_
              refine g_iload C dL_assigns_261 rfl ?_
              refine g_iadd C (nI (4 * (dl N kk) + kk)) dL_assigns_263 (nI_k (4 * (dl N kk)) kk _ rfl) ?_
              refine g_iald C 2 0 rfl rfl (4 * (dl N kk) + kk) rfl (by omega) (by decide) (qf (4 * (dl N kk) + kk)) rfl dL_assigns_264 ?_
              refine g_iadd C (fsu (fun u c => qf (4 * c + u)) (dl N) 4 (kk + 1)) dL_assigns_265 (if_neg hdg).symm ?_
              refine g_istore C [some (.ref (d 0)), some (.ref (u 0)), some (.ref (u 1)), some (.ref (u 2)), some (.ref uq), some (.ref ub), some (.ref un), some (.int (nI (5 ^ nw))), some (.int ms), some (.int de), some (.int sm), some (.int (nI N)), some (.int (nI (N / 5 ^ (kk + 1)))), some (.int (fsv (dl N) 4 (kk + 1))), some (.int (fsd dm (dl N) 4 (kk + 1))), some (.int (fsu (fun u c => qf (4 * c + u)) (dl N) 4 (kk + 1))), some (.int (kbz (kok on rm dm bd (fun u c => qf (4 * c + u)) nc (dl N) (kk + 1)))), some (.int (nI kk)), some (.int (nI (dl N kk))), some (.int y), some (.int (nI jj))] dL_assigns_266 (by decide) rfl rfl ?_
              refine g_iinc C (nI (kk + 1)) [some (.ref (d 0)), some (.ref (u 0)), some (.ref (u 1)), some (.ref (u 2)), some (.ref uq), some (.ref ub), some (.ref un), some (.int (nI (5 ^ nw))), some (.int ms), some (.int de), some (.int sm), some (.int (nI N)), some (.int (nI (N / 5 ^ (kk + 1)))), some (.int (fsv (dl N) 4 (kk + 1))), some (.int (fsd dm (dl N) 4 (kk + 1))), some (.int (fsu (fun u c => qf (4 * c + u)) (dl N) 4 (kk + 1))), some (.int (kbz (kok on rm dm bd (fun u c => qf (4 * c + u)) nc (dl N) (kk + 1)))), some (.int (nI (kk + 1))), some (.int (nI (dl N kk))), some (.int y), some (.int (nI jj))] dL_assigns_268 rfl (nI_1 kk) (by decide) rfl rfl ?_
              refine g_goto C 94 dL_assigns_271 (by decide) ?_
              refine g_mask [true, true, true, true, true, true, true, true, true, true, true, true, true, true, true, true, true, true, false, false, false] rfl ?_
              exact kh (kk + 1) (upd nf2 kk (nI (dl N kk))) ⟨by omega, hn2⟩ (by omega)
            · skip
              refine g_iload C dL_assigns_178 rfl ?_
              refine g_if_eq C 235 dL_assigns_180 (by decide) (fun c_180 => ?_) (fun c_180 => ?_)
              · skip
                have hz : (0 : Int32) = kbz (kok on rm dm bd (fun u c => qf (4 * c + u)) nc (dl N) (kk + 1)) := by rw [kok, if_neg (kbz_0 c_180)] <;> rfl
                refine g_iconst C 0 dL_assigns_235 (by decide +kernel) ?_
                refine g_st (st' := [.int (kbz (kok on rm dm bd (fun u c => qf (4 * c + u)) nc (dl N) (kk + 1)))]) (by rw [← hz]) ?_
                refine g_widen (k' := 3) (n' := 24) (by omega) (by omega) ?_
                exact J236 (()) trivial
              · skip
                refine g_iload C dL_assigns_183 rfl ?_
                refine g_aload_n C dL_assigns_185 rfl ?_
                refine g_iconst C 0 dL_assigns_186 (by decide +kernel) ?_
                refine g_iald C 3 0 rfl rfl 0 rfl (by omega) (by decide) (nI nc) rfl dL_assigns_187 ?_
                refine g_icmp_ge C 235 dL_assigns_188 (by decide) (fun c_188 => ?_) (fun c_188 => ?_)
                · skip
                  have c_188 : nc ≤ (dl N kk) := (nI_leI (by omega) (by omega)).mp c_188
                  have hz : (0 : Int32) = kbz (kok on rm dm bd (fun u c => qf (4 * c + u)) nc (dl N) (kk + 1)) := by rw [kok, if_pos (kbz_1 c_180), if_neg hdg, if_pos c_188] <;> rfl
                  refine g_iconst C 0 dL_assigns_235 (by decide +kernel) ?_
                  refine g_st (st' := [.int (kbz (kok on rm dm bd (fun u c => qf (4 * c + u)) nc (dl N) (kk + 1)))]) (by rw [← hz]) ?_
                  refine g_widen (k' := 3) (n' := 24) (by omega) (by omega) ?_
                  exact J236 (()) trivial
                · skip
                  have c_188 : ¬ (nc ≤ (dl N kk)) := fun h9 => c_188 ((nI_leI (by omega) (by omega)).mpr h9)
                  refine g_aload_n C dL_assigns_191 rfl ?_
                  refine g_bipush C 16 dL_assigns_192 (by decide +kernel) ?_
                  refine g_iload C dL_assigns_194 rfl ?_
                  refine g_iadd C (nI (16 + (dl N kk))) dL_assigns_196 (nI_k 16 (dl N kk) _ rfl) ?_
                  refine g_iald C 4 0 rfl rfl (16 + (dl N kk)) rfl (by omega) (by decide) (on (dl N kk)) (gA_4 (by omega)) dL_assigns_197 ?_
                  refine g_iconst C 1 dL_assigns_198 (by decide +kernel) ?_
                  refine g_icmp_ne C 235 dL_assigns_199 (by decide) (fun c_199 => ?_) (fun c_199 => ?_)
                  · skip
                    have hz : (0 : Int32) = kbz (kok on rm dm bd (fun u c => qf (4 * c + u)) nc (dl N) (kk + 1)) := by rw [kok, if_pos (kbz_1 c_180), if_neg hdg, if_neg c_188, if_pos (on_1 (hJ.2.2.2.1 _) c_199)] <;> rfl
                    refine g_iconst C 0 dL_assigns_235 (by decide +kernel) ?_
                    refine g_st (st' := [.int (kbz (kok on rm dm bd (fun u c => qf (4 * c + u)) nc (dl N) (kk + 1)))]) (by rw [← hz]) ?_
                    refine g_widen (k' := 3) (n' := 24) (by omega) (by omega) ?_
                    exact J236 (()) trivial
                  · skip
                    refine g_aload C dL_assigns_202 rfl ?_
                    refine g_iconst C 4 dL_assigns_204 (by decide +kernel) ?_
                    refine g_iload C dL_assigns_205 rfl ?_
                    refine g_imul C (nI (4 * (dl N kk))) dL_assigns_207 (nI_mk 4 (dl N kk) _ rfl) ?_
                    refine g_iload C dL_assigns_208 rfl ?_
                    refine g_iadd C (nI (4 * (dl N kk) + kk)) dL_assigns_210 (nI_k (4 * (dl N kk)) kk _ rfl) ?_
                    refine g_iald C 2 0 rfl rfl (4 * (dl N kk) + kk) rfl (by omega) (by decide) (qf (4 * (dl N kk) + kk)) rfl dL_assigns_211 ?_
                    refine g_aload_n C dL_assigns_212 rfl ?_
                    refine g_bipush C 8 dL_assigns_213 (by decide +kernel) ?_
                    refine g_iald C 3 0 rfl rfl 8 rfl (by omega) (by decide) bd rfl dL_assigns_215 ?_
                    refine g_icmp_lt C 235 dL_assigns_216 (by decide) (fun c_216 => ?_) (fun c_216 => ?_)
                    · skip
                      have hz : (0 : Int32) = kbz (kok on rm dm bd (fun u c => qf (4 * c + u)) nc (dl N) (kk + 1)) := by rw [kok, if_pos (kbz_1 c_180), if_neg hdg, if_neg c_188, if_neg (ne_1 c_199), if_pos c_216] <;> rfl
                      refine g_iconst C 0 dL_assigns_235 (by decide +kernel) ?_
                      refine g_st (st' := [.int (kbz (kok on rm dm bd (fun u c => qf (4 * c + u)) nc (dl N) (kk + 1)))]) (by rw [← hz]) ?_
                      refine g_widen (k' := 3) (n' := 24) (by omega) (by omega) ?_
                      exact J236 (()) trivial
                    · skip
                      refine g_iload C dL_assigns_219 rfl ?_
                      refine g_aload_n C dL_assigns_221 rfl ?_
                      refine g_bipush C 12 dL_assigns_222 (by decide +kernel) ?_
                      refine g_iload C dL_assigns_224 rfl ?_
                      refine g_iadd C (nI (12 + (dl N kk))) dL_assigns_226 (nI_k 12 (dl N kk) _ rfl) ?_
                      refine g_iald C 4 0 rfl rfl (12 + (dl N kk)) rfl (by omega) (by decide) (rm (dl N kk)) (gA_3 (by omega)) dL_assigns_227 ?_
                      refine g_icmp_gt C 235 dL_assigns_228 (by decide) (fun c_228 => ?_) (fun c_228 => ?_)
                      · skip
                        rw [hy] at c_228
                        have hz : (0 : Int32) = kbz (kok on rm dm bd (fun u c => qf (4 * c + u)) nc (dl N) (kk + 1)) := by rw [kok, if_pos (kbz_1 c_180), if_neg hdg, if_neg c_188, if_neg (ne_1 c_199), if_neg c_216, if_neg (Int32.not_le.mpr c_228)] <;> rfl
                        refine g_iconst C 0 dL_assigns_235 (by decide +kernel) ?_
                        refine g_st (st' := [.int (kbz (kok on rm dm bd (fun u c => qf (4 * c + u)) nc (dl N) (kk + 1)))]) (by rw [← hz]) ?_
                        refine g_widen (k' := 3) (n' := 24) (by omega) (by omega) ?_
                        exact J236 (()) trivial
                      · skip
                        rw [hy] at c_228
                        have hz : (1 : Int32) = kbz (kok on rm dm bd (fun u c => qf (4 * c + u)) nc (dl N) (kk + 1)) := by rw [kok, if_pos (kbz_1 c_180), if_neg hdg, if_neg c_188, if_neg (ne_1 c_199), if_neg c_216, if_pos (Int32.not_lt.mp c_228)] <;> rfl
                        refine g_iconst C 1 dL_assigns_231 (by decide +kernel) ?_
                        refine g_goto C 236 dL_assigns_232 (by decide) ?_
                        refine g_st (st' := [.int (kbz (kok on rm dm bd (fun u c => qf (4 * c + u)) nc (dl N) (kk + 1)))]) (by rw [← hz]) ?_
                        refine g_widen (k' := 3) (n' := 24) (by omega) (by omega) ?_
                        exact J236 (()) trivial
          · skip
            have c_143 : ¬ (kk < jj) := fun h9 => c_143 ((nI_ltI (by omega) (by omega)).mpr h9)
            refine g_iload C dL_assigns_146 rfl ?_
            refine g_aload C dL_assigns_148 rfl ?_
            refine g_iload C dL_assigns_150 rfl ?_
            refine g_iald C 0 0 rfl rfl jj rfl (by omega) (by decide) (nI (dl N jj)) (hn2 jj (by omega)) dL_assigns_152 ?_
            refine g_iload C dL_assigns_153 rfl ?_
            refine g_icmp_ne C 168 dL_assigns_155 (by decide) (fun c_155 => ?_) (fun c_155 => ?_)
            · skip
              have c_155 : ¬ ((dl N jj) = (dl N kk)) := fun h9 => c_155 ((nI_eq (by omega) (by omega)).mpr h9)
              refine g_iconst C 0 dL_assigns_168 (by decide +kernel) ?_
              refine g_iadd C y dL_assigns_169 (Int32.add_zero _) ?_
              refine g_istore C [some (.ref (d 0)), some (.ref (u 0)), some (.ref (u 1)), some (.ref (u 2)), some (.ref uq), some (.ref ub), some (.ref un), some (.int (nI (5 ^ nw))), some (.int ms), some (.int de), some (.int sm), some (.int (nI N)), some (.int (nI (N / 5 ^ (kk + 1)))), some (.int (fsv (dl N) 4 kk)), some (.int (fsd dm (dl N) 4 kk)), some (.int (fsu (fun u c => qf (4 * c + u)) (dl N) 4 kk)), some (.int (kbz (kok on rm dm bd (fun u c => qf (4 * c + u)) nc (dl N) kk))), some (.int (nI kk)), some (.int (nI (dl N kk))), some (.int y), some (.int (nI jj))] dL_assigns_170 (by decide) rfl rfl ?_
              refine g_iinc C (nI (jj + 1)) [some (.ref (d 0)), some (.ref (u 0)), some (.ref (u 1)), some (.ref (u 2)), some (.ref uq), some (.ref ub), some (.ref un), some (.int (nI (5 ^ nw))), some (.int ms), some (.int de), some (.int sm), some (.int (nI N)), some (.int (nI (N / 5 ^ (kk + 1)))), some (.int (fsv (dl N) 4 kk)), some (.int (fsd dm (dl N) 4 kk)), some (.int (fsu (fun u c => qf (4 * c + u)) (dl N) 4 kk)), some (.int (kbz (kok on rm dm bd (fun u c => qf (4 * c + u)) nc (dl N) kk))), some (.int (nI kk)), some (.int (nI (dl N kk))), some (.int y), some (.int (nI (jj + 1)))] dL_assigns_172 rfl (nI_1 jj) (by decide) rfl rfl ?_
              refine g_goto C 139 dL_assigns_175 (by decide) ?_
              exact fh (jj + 1) y ⟨by omega, by rw [fgl, if_neg c_155, ← f2]⟩ (by omega)
            · skip
              have c_155 : (dl N jj) = (dl N kk) := (nI_eq (by omega) (by omega)).mp c_155
              refine g_aload_n C dL_assigns_158 rfl ?_
              refine g_bipush C 8 dL_assigns_159 (by decide +kernel) ?_
              refine g_iload C dL_assigns_161 rfl ?_
              refine g_iadd C (nI (8 + jj)) dL_assigns_163 (nI_k 8 jj _ rfl) ?_
              refine g_iald C 5 0 rfl rfl (8 + jj) rfl (by omega) (by decide) (dm jj) (hA_2 (by omega)) dL_assigns_164 ?_
              refine g_goto C 169 dL_assigns_165 (by decide) ?_
              refine g_iadd C (y + (dm jj)) dL_assigns_169 rfl ?_
              refine g_istore C [some (.ref (d 0)), some (.ref (u 0)), some (.ref (u 1)), some (.ref (u 2)), some (.ref uq), some (.ref ub), some (.ref un), some (.int (nI (5 ^ nw))), some (.int ms), some (.int de), some (.int sm), some (.int (nI N)), some (.int (nI (N / 5 ^ (kk + 1)))), some (.int (fsv (dl N) 4 kk)), some (.int (fsd dm (dl N) 4 kk)), some (.int (fsu (fun u c => qf (4 * c + u)) (dl N) 4 kk)), some (.int (kbz (kok on rm dm bd (fun u c => qf (4 * c + u)) nc (dl N) kk))), some (.int (nI kk)), some (.int (nI (dl N kk))), some (.int (y + (dm jj))), some (.int (nI jj))] dL_assigns_170 (by decide) rfl rfl ?_
              refine g_iinc C (nI (jj + 1)) [some (.ref (d 0)), some (.ref (u 0)), some (.ref (u 1)), some (.ref (u 2)), some (.ref uq), some (.ref ub), some (.ref un), some (.int (nI (5 ^ nw))), some (.int ms), some (.int de), some (.int sm), some (.int (nI N)), some (.int (nI (N / 5 ^ (kk + 1)))), some (.int (fsv (dl N) 4 kk)), some (.int (fsd dm (dl N) 4 kk)), some (.int (fsu (fun u c => qf (4 * c + u)) (dl N) 4 kk)), some (.int (kbz (kok on rm dm bd (fun u c => qf (4 * c + u)) nc (dl N) kk))), some (.int (nI kk)), some (.int (nI (dl N kk))), some (.int (y + (dm jj))), some (.int (nI (jj + 1)))] dL_assigns_172 rfl (nI_1 jj) (by decide) rfl rfl ?_
              refine g_goto C 139 dL_assigns_175 (by decide) ?_
              exact fh (jj + 1) (y + (dm jj)) ⟨by omega, by rw [fgl, if_pos c_155, ← f2]⟩ (by omega)
  · skip
    have c_35 : ¬ (nw ≤ k) := fun h9 => c_35 ((nI_leI (by omega) (by omega)).mpr h9)
    refine g_iload C dL_assigns_38 rfl ?_
    refine g_iconst C 5 dL_assigns_40 (by decide +kernel) ?_
    refine g_imul C (nI (5 ^ (k + 1))) dL_assigns_41 (p5 k) ?_
    refine g_istore C [some (.ref (d 0)), some (.ref (u 0)), some (.ref (u 1)), some (.ref (u 2)), some (.ref uq), some (.ref ub), some (.ref un), some (.int (nI (5 ^ (k + 1)))), some (.int (nI k)), none, none, none, none, none, none, none, none, none, none, none, none] dL_assigns_42 (by decide) rfl rfl ?_
    refine g_aload C dL_assigns_44 rfl ?_
    refine g_iload C dL_assigns_46 rfl ?_
    refine g_iconst C 4 dL_assigns_48 (by decide +kernel) ?_
    refine g_iast C 1 0 rfl rfl k rfl (by omega) (by decide) (wF cI un (fun _ => 0) ++ (wE cI ub (upd bg k 4) ++ (wQ cI uq qf ++ (wA cI u nc nw tk ho ri lo mg pt bd cx cy ch rm on wx wy dm sv fv hd lf la ++ ((wCo cI a b d mg pt bd tk ho ri lo fv hd lf la ++ wSo cI cW a b r2 hp rl cn be bw wo) ++ wL cI cZ cG a r nc nw cx cy ch rm on wx wy dm sv mu qq))))) rfl dL_assigns_49 ?_
    refine g_iinc C (nI (k + 1)) [some (.ref (d 0)), some (.ref (u 0)), some (.ref (u 1)), some (.ref (u 2)), some (.ref uq), some (.ref ub), some (.ref un), some (.int (nI (5 ^ (k + 1)))), some (.int (nI (k + 1))), none, none, none, none, none, none, none, none, none, none, none, none] dL_assigns_50 rfl (nI_1 k) (by decide) rfl rfl ?_
    refine g_goto C 30 dL_assigns_53 (by decide) ?_
    exact ih (k + 1) (upd bg k 4) ⟨by omega, updP h2 rfl⟩ (by omega)
