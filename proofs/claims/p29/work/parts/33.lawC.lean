/-! the law's tick -/
theorem upd_id {f : Nat → Int32} {i : Nat} {x : Int32} (h : f i = x) : upd f i x = f := funext fun j => by
  show (if j = i then x else f j) = f j
  by_cases e : j = i
  · rw [if_pos e, e, h]
  · rw [if_neg e]
section FT
variable {on dm rm : Nat → Int32} {nc nw : Nat} {QQ : Nat → Nat → Int32} {mg pt bd tk : Int32} {i ks b : Nat} {z : TS}
theorem ftk_0a {sv : Nat → Int32} {t : Nat} (h : sv i = nI t) : ftk on sv dm rm nw i t = 0 := by
  unfold ftk
  by_cases h0 : on t = 0
  · rw [if_pos h0]
  · rw [if_neg h0, if_pos h]
theorem ftk_0b {sv : Nat → Int32} {t : Nat} (h : on t = 0) : ftk on sv dm rm nw i t = 0 := by
  unfold ftk
  rw [if_pos h]
theorem ftk_0c {sv : Nat → Int32} {t : Nat} (h : rm t < fld sv dm (nI t) nw + dm i) : ftk on sv dm rm nw i t = 0 := by
  unfold ftk
  by_cases h0 : on t = 0
  · rw [if_pos h0]
  · rw [if_neg h0]
    by_cases h1 : sv i = nI t
    · rw [if_pos h1]
    · rw [if_neg h1, if_pos h]
theorem ftk_1 {sv : Nat → Int32} {t : Nat} (h1 : ¬ on t = 0) (h2 : ¬ sv i = nI t) (h3 : ¬ rm t < fld sv dm (nI t) nw + dm i) : ¬ ftk on sv dm rm nw i t = 0 := by
  unfold ftk
  rw [if_neg h1, if_neg h2, if_neg h3]
  decide
theorem ft_a0 (h : z.1 i = -1) (hb : fbo (fun u => ftk on z.1 dm rm nw i u) (QQ i) nc = none) : fts on dm rm nc nw QQ mg pt bd tk i z = (upd z.1 i (-1), z.2.1, z.2.2.1, z.2.2.2.1, z.2.2.2.2.1, z.2.2.2.2.2.1, z.2.2.2.2.2.2.1, z.2.2.2.2.2.2.2) := by
  unfold fts
  rw [if_pos h, hb, upd_id h]
theorem ft_a1 (h : z.1 i = -1) (hb : fbo (fun u => ftk on z.1 dm rm nw i u) (QQ i) nc = some b) (hq : QQ i b < bd) : fts on dm rm nc nw QQ mg pt bd tk i z = (upd z.1 i (-1), z.2.1, z.2.2.1, z.2.2.2.1, z.2.2.2.2.1, z.2.2.2.2.2.1, z.2.2.2.2.2.2.1, z.2.2.2.2.2.2.2) := by
  unfold fts
  rw [if_pos h, hb, upd_id h]
  exact if_pos hq
theorem ft_a2 (h : z.1 i = -1) (hb : fbo (fun u => ftk on z.1 dm rm nw i u) (QQ i) nc = some b) (hq : ¬ QQ i b < bd) : fts on dm rm nc nw QQ mg pt bd tk i z = (upd z.1 i (nI b), z.2.1, z.2.2.1, z.2.2.2.1, z.2.2.2.2.1, z.2.2.2.2.2.1, z.2.2.2.2.2.2.1, z.2.2.2.2.2.2.2) := by
  unfold fts
  rw [if_pos h, hb]
  exact if_neg hq
theorem ft_lose (h : z.1 i = nI ks) (hk : ks < 2 ^ 31) (hq : ¬ bd ≤ QQ i ks) : fts on dm rm nc nw QQ mg pt bd tk i z = (upd z.1 i (-1), upd z.2.1 i (-1), upd z.2.2.1 i 0, upd z.2.2.2.1 i (-1), z.2.2.2.2.1, z.2.2.2.2.2.1, z.2.2.2.2.2.2.1, z.2.2.2.2.2.2.2 + 1) := by
  unfold fts
  rw [if_neg (by rw [h]; exact en_m1 hk), h, nI_clamp hk, if_neg hq]
theorem ft_w0 (h : z.1 i = nI ks) (hk : ks < 2 ^ 31) (hq : bd ≤ QQ i ks) (hb : fbo (fun u => ftk on z.1 dm rm nw i u) (QQ i) nc = none) : fts on dm rm nc nw QQ mg pt bd tk i z = (z.1, upd z.2.1 i (-1), upd z.2.2.1 i 0, z.2.2.2.1, z.2.2.2.2.1, z.2.2.2.2.2.1, z.2.2.2.2.2.2.1, z.2.2.2.2.2.2.2) := by
  unfold fts
  rw [if_neg (by rw [h]; exact en_m1 hk), h, nI_clamp hk, if_pos hq, hb]
theorem ft_w1 (h : z.1 i = nI ks) (hk : ks < 2 ^ 31) (hq : bd ≤ QQ i ks) (hb : fbo (fun u => ftk on z.1 dm rm nw i u) (QQ i) nc = some b) (hm : ¬ QQ i ks + mg ≤ QQ i b) : fts on dm rm nc nw QQ mg pt bd tk i z = (z.1, upd z.2.1 i (-1), upd z.2.2.1 i 0, z.2.2.2.1, z.2.2.2.2.1, z.2.2.2.2.2.1, z.2.2.2.2.2.2.1, z.2.2.2.2.2.2.2) := by
  unfold fts
  rw [if_neg (by rw [h]; exact en_m1 hk), h, nI_clamp hk, if_pos hq, hb]
  exact if_neg hm
theorem ft_w2 (h : z.1 i = nI ks) (hk : ks < 2 ^ 31) (hq : bd ≤ QQ i ks) (hb : fbo (fun u => ftk on z.1 dm rm nw i u) (QQ i) nc = some b) (hm : QQ i ks + mg ≤ QQ i b) {x : Int32} (hx : fhe z.2.1 z.2.2.1 i b = x) (hp : x < pt) : fts on dm rm nc nw QQ mg pt bd tk i z = (z.1, upd z.2.1 i (nI b), upd z.2.2.1 i x, z.2.2.2.1, z.2.2.2.2.1, z.2.2.2.2.2.1, z.2.2.2.2.2.2.1, z.2.2.2.2.2.2.2) := by
  unfold fts
  rw [if_neg (by rw [h]; exact en_m1 hk), h, nI_clamp hk, if_pos hq, hb]
  show (if QQ i ks + mg ≤ QQ i b then _ else _) = _
  rw [if_pos hm, hx, if_pos hp]
theorem ft_w3 (h : z.1 i = nI ks) (hk : ks < 2 ^ 31) (hq : bd ≤ QQ i ks) (hb : fbo (fun u => ftk on z.1 dm rm nw i u) (QQ i) nc = some b) (hm : QQ i ks + mg ≤ QQ i b) {x y : Int32} (hx : fhe z.2.1 z.2.2.1 i b = x) (hp : ¬ x < pt) (hy : frg z.2.2.2.1 z.2.2.2.2.1 i (nI b) tk z.2.2.2.2.2.2.1 = y) : fts on dm rm nc nw QQ mg pt bd tk i z = (upd z.1 i (nI b), upd (upd z.2.1 i (nI b)) i (-1), upd (upd z.2.2.1 i x) i 0, upd z.2.2.2.1 i (nI ks), upd z.2.2.2.2.1 i tk, z.2.2.2.2.2.1 + 1, y, z.2.2.2.2.2.2.2) := by
  unfold fts
  rw [if_neg (by rw [h]; exact en_m1 hk), h, nI_clamp hk, if_pos hq, hb]
  show (if QQ i ks + mg ≤ QQ i b then _ else _) = _
  rw [if_pos hm, hx, if_neg hp, hy, upd_upd, upd_upd]
theorem fhe_y {fv hd : Nat → Int32} (h : fv i = nI b) : fhe fv hd i b = hd i + 1 := if_pos h.symm
theorem fhe_n {fv hd : Nat → Int32} (h : ¬ fv i = nI b) : fhe fv hd i b = 1 := if_neg (fun q => h q.symm)
theorem lt6 {x : Int32} : x < 6 ↔ ¬ 5 < x := by
  rw [i_lt, i_lt, show (6 : Int32).toInt = 6 from rfl, show (5 : Int32).toInt = 5 from rfl]
  omega
theorem frg_n {lf la : Nat → Int32} {ri : Int32} (h : ¬ lf i = nI b) : frg lf la i (nI b) tk ri = ri := if_neg (fun q => h q.symm)
theorem frg_o {lf la : Nat → Int32} {ri : Int32} (h : 6 ≤ tk - la i) : frg lf la i (nI b) tk ri = ri := by
  unfold frg
  split
  · rw [if_pos (by rw [i_lt]; rw [i_le] at h; rw [show (6 : Int32).toInt = 6 from rfl] at h; rw [show (5 : Int32).toInt = 5 from rfl]; omega)]
  · rfl
theorem frg_y {lf la : Nat → Int32} {ri : Int32} (h : lf i = nI b) (h2 : tk - la i < 6) : frg lf la i (nI b) tk ri = ri + 1 := by
  unfold frg
  rw [if_pos h.symm, if_neg (lt6.mp h2)]
end FT
set_option maxHeartbeats 8000000 in
set_option maxRecDepth 100000 in
theorem t_L_tick {l : Launch} {D : va_G} {cI cZ cJ cG cW : ClassId} {u : Nat → Nat} {nc nw : Nat} {tk ho ri lo mg pt bd : Int32} {cx cy ch rm on wx wy dm sv fv hd lf la : Nat → Int32}  (h4 : nc ≤ 4) (h6 : nw ≤ 4) (hr : ∀ c, c < nc → ¬ rm c = 0) (hg : ∀ c w, c < nc → w < nw → ¬ dsq (cx c) (cy c) (wx w) (wy w) = 0) (hq : ∀ c w, c < nc → w < nw → ¬ 10 + fdi ch on (fus rm sv dm nw) (sgw cx cy wx wy w) c nc = 0) (hon : ∀ c, c < nc → on c = 0 ∨ on c = 1) (hsv : ∀ j, j < nw → SV nc (sv j)) : CtV l yL_tick wsL_tick 2 53 1 16 D (T5 cI cZ cJ cG cW) [.ref (u 0), .ref (u 1), .ref (u 2)] (wA cI u nc nw tk ho ri lo mg pt bd cx cy ch rm on wx wy dm sv fv hd lf la) (fun wv tv => wv = (wA cI u nc nw (tk + 1) ((ftw on dm rm nc nw (fun k a => fqu cx cy ch on wx wy (fus rm sv dm nw) nc k a) mg pt bd (tk + 1) (sv, fv, hd, lf, la, ho, ri, lo) nw).2.2.2.2.2.1) ((ftw on dm rm nc nw (fun k a => fqu cx cy ch on wx wy (fus rm sv dm nw) nc k a) mg pt bd (tk + 1) (sv, fv, hd, lf, la, ho, ri, lo) nw).2.2.2.2.2.2.1) ((ftw on dm rm nc nw (fun k a => fqu cx cy ch on wx wy (fus rm sv dm nw) nc k a) mg pt bd (tk + 1) (sv, fv, hd, lf, la, ho, ri, lo) nw).2.2.2.2.2.2.2) mg pt bd cx cy ch rm on wx wy dm ((ftw on dm rm nc nw (fun k a => fqu cx cy ch on wx wy (fus rm sv dm nw) nc k a) mg pt bd (tk + 1) (sv, fv, hd, lf, la, ho, ri, lo) nw).1) ((ftw on dm rm nc nw (fun k a => fqu cx cy ch on wx wy (fus rm sv dm nw) nc k a) mg pt bd (tk + 1) (sv, fv, hd, lf, la, ho, ri, lo) nw).2.1) ((ftw on dm rm nc nw (fun k a => fqu cx cy ch on wx wy (fus rm sv dm nw) nc k a) mg pt bd (tk + 1) (sv, fv, hd, lf, la, ho, ri, lo) nw).2.2.1) ((ftw on dm rm nc nw (fun k a => fqu cx cy ch on wx wy (fus rm sv dm nw) nc k a) mg pt bd (tk + 1) (sv, fv, hd, lf, la, ho, ri, lo) nw).2.2.2.1) ((ftw on dm rm nc nw (fun k a => fqu cx cy ch on wx wy (fus rm sv dm nw) nc k a) mg pt bd (tk + 1) (sv, fv, hd, lf, la, ho, ri, lo) nw).2.2.2.2.1)) ∧ tv = (T5 cI cZ cJ cG cW)) := by
  refine ctV_of (cc := cL_tick) (maxL := 9) RL 6 [some (.ref (u 0)), some (.ref (u 1)), some (.ref (u 2)), none, none, none, none, none, none] (by decide +kernel) rfl rfl (Nat.le_of_ble_eq_true rfl) rfl (fun p_ e_ s_ m_ as_ bl_ me_ co_ C hret hini => ?_)
  refine g_bipush C 16 dL_tick_0 (by decide +kernel) ?_
  refine g_newa C (atype := .int) (ty := .int) rfl (C.fI 0 rfl) (C.ts _ (by decide +kernel)) 16 rfl (by decide) (z := (16, .inl (fun _ => 0))) (fun _ => rfl) (by decide) (Nat.le_of_ble_eq_true rfl) (Nat.le_of_ble_eq_true rfl) dL_tick_2 (fun uq => ?_)
  refine g_swap ?_
  refine g_w (ws' := (wQ cI uq (fun _ => 0) ++ (wA cI u nc nw tk ho ri lo mg pt bd cx cy ch rm on wx wy dm sv fv hd lf la))) rfl ?_
  refine g_astore_n C [some (.ref (u 0)), some (.ref (u 1)), some (.ref (u 2)), some (.ref uq), none, none, none, none, none] dL_tick_4 (by decide) rfl rfl ?_
  refine g_aload_n C dL_tick_5 rfl ?_
  refine g_iconst C 2 dL_tick_6 (by decide +kernel) ?_
  refine g_dup2 C dL_tick_7 rfl rfl ?_
  refine g_iald C 1 0 rfl rfl 2 rfl (by omega) (by decide) tk rfl dL_tick_8 ?_
  refine g_iconst C 1 dL_tick_9 (by decide +kernel) ?_
  refine g_iadd C (tk + 1) dL_tick_10 rfl ?_
  refine g_iast C 1 0 rfl rfl 2 rfl (by omega) (by decide) (wQ cI uq (fun _ => 0) ++ (wA cI u nc nw (tk + 1) ho ri lo mg pt bd cx cy ch rm on wx wy dm sv fv hd lf la)) (by rw [uc_2]; rfl) dL_tick_11 ?_
  refine g_aload_n C dL_tick_12 rfl ?_
  refine g_aload_n C dL_tick_13 rfl ?_
  refine g_aload_n C dL_tick_14 rfl ?_
  refine g_aload_n C dL_tick_15 rfl ?_
  refine g_callSv C [] (wQ cI uq (fun _ => 0) ++ (wA cI u nc nw (tk + 1) ho ri lo mg pt bd cx cy ch rm on wx wy dm sv fv hd lf la)) [.ref (u 0), .ref (u 1), .ref (u 2), .ref uq] (t_L_qualities h4 h6 hr hg hq hon) (va_cwS 4 C.ts gL_tick_L_qualities rfl rfl rfl (by decide +kernel) ⟨Nat.le_of_ble_eq_true rfl, Nat.le_of_ble_eq_true rfl⟩) rfl rfl rfl (Nat.le_of_ble_eq_true rfl) dL_tick_16 ⟨Nat.le_of_ble_eq_true rfl, Nat.le_of_ble_eq_true rfl⟩ (fun wv1 tv1 hp1 => ?_)
  obtain ⟨⟨qf, hqf, rfl⟩, rfl⟩ := hp1
  refine g_w (ws' := (wQ cI uq qf ++ (wA cI u nc nw (tk + 1) ho ri lo mg pt bd cx cy ch rm on wx wy dm sv fv hd lf la))) rfl ?_
  refine g_iconst C 0 dL_tick_19 (by decide +kernel) ?_
  refine g_istore C [some (.ref (u 0)), some (.ref (u 1)), some (.ref (u 2)), some (.ref uq), some (.int 0), none, none, none, none] dL_tick_20 (by decide) rfl rfl ?_
  refine g_loop2 0 ((sv, fv, hd, lf, la, ho, ri, lo)) (fun (i : Nat) (z : TS) => i ≤ nw ∧ z = ftw on dm rm nc nw (fun u c => qf (4 * c + u)) mg pt bd (tk + 1) (sv, fv, hd, lf, la, ho, ri, lo) i ∧ ∀ j, j < nw → SV nc (z.1 j)) (fun (i : Nat) (z : TS) => (wQ cI uq qf ++ (wA cI u nc nw (tk + 1) z.2.2.2.2.2.1 z.2.2.2.2.2.2.1 z.2.2.2.2.2.2.2 mg pt bd cx cy ch rm on wx wy dm z.1 z.2.1 z.2.2.1 z.2.2.2.1 z.2.2.2.2.1))) (fun (i : Nat) (z : TS) => [some (.ref (u 0)), some (.ref (u 1)), some (.ref (u 2)), some (.ref uq), some (.int (nI i)), none, none, none, none]) (fun (i : Nat) (z : TS) => nw - i) ⟨Nat.zero_le _, rfl, hsv⟩ rfl rfl (fun i z hI ih => ?_)
  obtain ⟨h1, h2, h3⟩ := hI
  refine g_iload C dL_tick_22 rfl ?_
  refine g_aload_n C dL_tick_24 rfl ?_
  refine g_iconst C 1 dL_tick_25 (by decide +kernel) ?_
  refine g_iald C 1 0 rfl rfl 1 rfl (by omega) (by decide) (nI nw) rfl dL_tick_26 ?_
  refine g_icmp_ge C 461 dL_tick_27 (by decide) (fun c_27 => ?_) (fun c_27 => ?_)
  · skip
    have c_27 : nw ≤ i := (nI_leI (by omega) (by omega)).mp c_27
    have hfin : z = ftw on dm rm nc nw (fun k a => fqu cx cy ch on wx wy (fus rm sv dm nw) nc k a) mg pt bd (tk + 1) (sv, fv, hd, lf, la, ho, ri, lo) nw := by rw [h2, show i = nw by omega]; exact ftw_cg (by omega) (fun w c hw hc => hqf c w hc hw) hsv nw (Nat.le_refl _)
    refine g_drop ?_
    exact g_vret C hret dL_tick_461 (Nat.le_of_ble_eq_true rfl) (Nat.le_of_ble_eq_true rfl) ⟨by rw [hfin], rfl⟩
  · skip
    have c_27 : ¬ (nw ≤ i) := fun h9 => c_27 ((nI_leI (by omega) (by omega)).mpr h9)
    refine g_aload_n C dL_tick_30 rfl ?_
    refine g_bipush C 12 dL_tick_31 (by decide +kernel) ?_
    refine g_iload C dL_tick_33 rfl ?_
    refine g_iadd C (nI (12 + i)) dL_tick_35 (nI_k 12 i _ rfl) ?_
    refine g_iald C 3 0 rfl rfl (12 + i) rfl (by omega) (by decide) (z.1 i) (hA_3 (by omega)) dL_tick_36 ?_
    rcases h3 i (by omega) with hnow | ⟨ks, hks, hnow⟩
    · skip
      refine g_st (st' := [.int (-1)]) (by rw [hnow]) ?_
      refine g_istore C [some (.ref (u 0)), some (.ref (u 1)), some (.ref (u 2)), some (.ref uq), some (.int (nI i)), some (.int ((-1))), none, none, none] dL_tick_37 (by decide) rfl rfl ?_
      refine g_iconst C (-1) dL_tick_39 (by decide +kernel) ?_
      refine g_istore C [some (.ref (u 0)), some (.ref (u 1)), some (.ref (u 2)), some (.ref uq), some (.int (nI i)), some (.int ((-1))), some (.int ((-1))), none, none] dL_tick_40 (by decide) rfl rfl ?_
      refine g_iconst C 0 dL_tick_42 (by decide +kernel) ?_
      refine g_istore C [some (.ref (u 0)), some (.ref (u 1)), some (.ref (u 2)), some (.ref uq), some (.int (nI i)), some (.int ((-1))), some (.int ((-1))), some (.int 0), none] dL_tick_43 (by decide) rfl rfl ?_
      refine g_loop2 0 none (fun (t : Nat) (o : Option Nat) => t ≤ nc ∧ o = fbo (fun u => ftk on z.1 dm rm nw i u) ((fun u c => qf (4 * c + u)) i) t) (fun (t : Nat) (o : Option Nat) => (wQ cI uq qf ++ (wA cI u nc nw (tk + 1) z.2.2.2.2.2.1 z.2.2.2.2.2.2.1 z.2.2.2.2.2.2.2 mg pt bd cx cy ch rm on wx wy dm z.1 z.2.1 z.2.2.1 z.2.2.2.1 z.2.2.2.2.1))) (fun (t : Nat) (o : Option Nat) => [some (.ref (u 0)), some (.ref (u 1)), some (.ref (u 2)), some (.ref uq), some (.int (nI i)), some (.int ((-1))), some (.int (en o)), some (.int (nI t)), none]) (fun (t : Nat) (o : Option Nat) => nc - t) ⟨Nat.zero_le _, rfl⟩ rfl rfl (fun t o hT th => ?_)
      obtain ⟨d1, d2⟩ := hT
      refine g_iload C dL_tick_45 rfl ?_
      refine g_aload_n C dL_tick_47 rfl ?_
      refine g_iconst C 0 dL_tick_48 (by decide +kernel) ?_
      refine g_iald C 1 0 rfl rfl 0 rfl (by omega) (by decide) (nI nc) rfl dL_tick_49 ?_
      refine g_icmp_ge C 149 dL_tick_50 (by decide) (fun c_50 => ?_) (fun c_50 => ?_)
      · skip
        have c_50 : nc ≤ t := (nI_leI (by omega) (by omega)).mp c_50
        rcases o with _ | b
        · skip
          refine g_lv (lv' := [some (.ref (u 0)), some (.ref (u 1)), some (.ref (u 2)), some (.ref uq), some (.int (nI i)), some (.int ((-1))), some (.int ((-1))), some (.int (nI t)), none]) rfl ?_
          refine g_iload C dL_tick_149 rfl ?_
          refine g_if_ge C 191 dL_tick_151 (by decide) (fun c9 => absurd c9 (by decide)) (fun _ => ?_)
          refine g_aload_n C dL_tick_154 rfl ?_
          refine g_bipush C 12 dL_tick_155 (by decide +kernel) ?_
          refine g_iload C dL_tick_157 rfl ?_
          refine g_iadd C (nI (12 + i)) dL_tick_159 (nI_k 12 i _ rfl) ?_
          refine g_iload C dL_tick_160 rfl ?_
          refine g_if_lt C 186 dL_tick_162 (by decide) (fun _ => ?_) (fun c9 => absurd (by decide) c9)
          refine g_iconst C (-1) dL_tick_186 (by decide +kernel) ?_
          refine g_iast C 3 0 rfl rfl (12 + i) rfl (by omega) (by decide) (wQ cI uq qf ++ (wA cI u nc nw (tk + 1) z.2.2.2.2.2.1 z.2.2.2.2.2.2.1 z.2.2.2.2.2.2.2 mg pt bd cx cy ch rm on wx wy dm (upd z.1 i ((-1))) z.2.1 z.2.2.1 z.2.2.2.1 z.2.2.2.2.1)) (by rw [uhA_3 (by omega)]; rfl) dL_tick_187 ?_
          refine g_goto C 455 dL_tick_188 (by decide) ?_
          refine g_w (ws' := (wQ cI uq qf ++ (wA cI u nc nw (tk + 1) ((fts on dm rm nc nw (fun u c => qf (4 * c + u)) mg pt bd (tk + 1) i z).2.2.2.2.2.1) ((fts on dm rm nc nw (fun u c => qf (4 * c + u)) mg pt bd (tk + 1) i z).2.2.2.2.2.2.1) ((fts on dm rm nc nw (fun u c => qf (4 * c + u)) mg pt bd (tk + 1) i z).2.2.2.2.2.2.2) mg pt bd cx cy ch rm on wx wy dm ((fts on dm rm nc nw (fun u c => qf (4 * c + u)) mg pt bd (tk + 1) i z).1) ((fts on dm rm nc nw (fun u c => qf (4 * c + u)) mg pt bd (tk + 1) i z).2.1) ((fts on dm rm nc nw (fun u c => qf (4 * c + u)) mg pt bd (tk + 1) i z).2.2.1) ((fts on dm rm nc nw (fun u c => qf (4 * c + u)) mg pt bd (tk + 1) i z).2.2.2.1) ((fts on dm rm nc nw (fun u c => qf (4 * c + u)) mg pt bd (tk + 1) i z).2.2.2.2.1)))) (congrArg (fun T : TS => (wQ cI uq qf ++ (wA cI u nc nw (tk + 1) T.2.2.2.2.2.1 T.2.2.2.2.2.2.1 T.2.2.2.2.2.2.2 mg pt bd cx cy ch rm on wx wy dm T.1 T.2.1 T.2.2.1 T.2.2.2.1 T.2.2.2.2.1))) (ft_a0 (on := on) (dm := dm) (rm := rm) (nc := nc) (nw := nw) (QQ := (fun u c => qf (4 * c + u))) (mg := mg) (pt := pt) (bd := bd) (tk := tk + 1) (i := i) (z := z) hnow (show fbo (fun u => ftk on z.1 dm rm nw i u) ((fun u c => qf (4 * c + u)) i) nc = none by rw [d2, show t = nc by omega])).symm) ?_
          refine g_iinc C (nI (i + 1)) [some (.ref (u 0)), some (.ref (u 1)), some (.ref (u 2)), some (.ref uq), some (.int (nI (i + 1))), some (.int ((-1))), some (.int ((-1))), some (.int (nI t)), none] dL_tick_455 rfl (nI_1 i) (by decide) rfl rfl ?_
          refine g_goto C 22 dL_tick_458 (by decide) ?_
          refine g_mask [true, true, true, true, true, false, false, false, false] rfl ?_
          exact ih (i + 1) (fts on dm rm nc nw (fun u c => qf (4 * c + u)) mg pt bd (tk + 1) i z) ⟨by omega, by rw [ftw, ← h2], fts_sv h3⟩ (by omega)
        · skip
          refine g_lv (lv' := [some (.ref (u 0)), some (.ref (u 1)), some (.ref (u 2)), some (.ref uq), some (.int (nI i)), some (.int ((-1))), some (.int (nI b)), some (.int (nI t)), none]) rfl ?_
          have hb : b < t := fbo_lt d2.symm
          refine g_iload C dL_tick_149 rfl ?_
          refine g_if_ge C 191 dL_tick_151 (by decide) (fun c9 => absurd c9 (by decide)) (fun _ => ?_)
          refine g_aload_n C dL_tick_154 rfl ?_
          refine g_bipush C 12 dL_tick_155 (by decide +kernel) ?_
          refine g_iload C dL_tick_157 rfl ?_
          refine g_iadd C (nI (12 + i)) dL_tick_159 (nI_k 12 i _ rfl) ?_
          refine g_iload C dL_tick_160 rfl ?_
          refine g_if_lt C 186 dL_tick_162 (by decide) (fun c9 => absurd c9 (nI_pos (by omega))) (fun _ => ?_)
          refine g_aload_n C dL_tick_165 rfl ?_
          refine g_iconst C 4 dL_tick_166 (by decide +kernel) ?_
          refine g_iload C dL_tick_167 rfl ?_
          refine g_imul C (nI (4 * b)) dL_tick_169 (nI_mk 4 b _ rfl) ?_
          refine g_iload C dL_tick_170 rfl ?_
          refine g_iadd C (nI (4 * b + i)) dL_tick_172 (nI_k (4 * b) i _ rfl) ?_
          refine g_iald C 0 0 rfl rfl (4 * b + i) rfl (by omega) (by decide) (qf (4 * b + i)) rfl dL_tick_173 ?_
          refine g_aload_n C dL_tick_174 rfl ?_
          refine g_bipush C 8 dL_tick_175 (by decide +kernel) ?_
          refine g_iald C 1 0 rfl rfl 8 rfl (by omega) (by decide) bd rfl dL_tick_177 ?_
          refine g_icmp_lt C 186 dL_tick_178 (by decide) (fun c_178 => ?_) (fun c_178 => ?_)
          · skip
            refine g_iconst C (-1) dL_tick_186 (by decide +kernel) ?_
            refine g_iast C 3 0 rfl rfl (12 + i) rfl (by omega) (by decide) (wQ cI uq qf ++ (wA cI u nc nw (tk + 1) z.2.2.2.2.2.1 z.2.2.2.2.2.2.1 z.2.2.2.2.2.2.2 mg pt bd cx cy ch rm on wx wy dm (upd z.1 i ((-1))) z.2.1 z.2.2.1 z.2.2.2.1 z.2.2.2.2.1)) (by rw [uhA_3 (by omega)]; rfl) dL_tick_187 ?_
            refine g_goto C 455 dL_tick_188 (by decide) ?_
            refine g_w (ws' := (wQ cI uq qf ++ (wA cI u nc nw (tk + 1) ((fts on dm rm nc nw (fun u c => qf (4 * c + u)) mg pt bd (tk + 1) i z).2.2.2.2.2.1) ((fts on dm rm nc nw (fun u c => qf (4 * c + u)) mg pt bd (tk + 1) i z).2.2.2.2.2.2.1) ((fts on dm rm nc nw (fun u c => qf (4 * c + u)) mg pt bd (tk + 1) i z).2.2.2.2.2.2.2) mg pt bd cx cy ch rm on wx wy dm ((fts on dm rm nc nw (fun u c => qf (4 * c + u)) mg pt bd (tk + 1) i z).1) ((fts on dm rm nc nw (fun u c => qf (4 * c + u)) mg pt bd (tk + 1) i z).2.1) ((fts on dm rm nc nw (fun u c => qf (4 * c + u)) mg pt bd (tk + 1) i z).2.2.1) ((fts on dm rm nc nw (fun u c => qf (4 * c + u)) mg pt bd (tk + 1) i z).2.2.2.1) ((fts on dm rm nc nw (fun u c => qf (4 * c + u)) mg pt bd (tk + 1) i z).2.2.2.2.1)))) (congrArg (fun T : TS => (wQ cI uq qf ++ (wA cI u nc nw (tk + 1) T.2.2.2.2.2.1 T.2.2.2.2.2.2.1 T.2.2.2.2.2.2.2 mg pt bd cx cy ch rm on wx wy dm T.1 T.2.1 T.2.2.1 T.2.2.2.1 T.2.2.2.2.1))) (ft_a1 (on := on) (dm := dm) (rm := rm) (nc := nc) (nw := nw) (QQ := (fun u c => qf (4 * c + u))) (mg := mg) (pt := pt) (bd := bd) (tk := tk + 1) (i := i) (z := z) hnow (show fbo (fun u => ftk on z.1 dm rm nw i u) ((fun u c => qf (4 * c + u)) i) nc = some b by rw [d2, show t = nc by omega]) c_178).symm) ?_
            refine g_iinc C (nI (i + 1)) [some (.ref (u 0)), some (.ref (u 1)), some (.ref (u 2)), some (.ref uq), some (.int (nI (i + 1))), some (.int ((-1))), some (.int (nI b)), some (.int (nI t)), none] dL_tick_455 rfl (nI_1 i) (by decide) rfl rfl ?_
            refine g_goto C 22 dL_tick_458 (by decide) ?_
            refine g_mask [true, true, true, true, true, false, false, false, false] rfl ?_
            exact ih (i + 1) (fts on dm rm nc nw (fun u c => qf (4 * c + u)) mg pt bd (tk + 1) i z) ⟨by omega, by rw [ftw, ← h2], fts_sv h3⟩ (by omega)
          · skip
            refine g_iload C dL_tick_181 rfl ?_
            refine g_goto C 187 dL_tick_183 (by decide) ?_
            refine g_iast C 3 0 rfl rfl (12 + i) rfl (by omega) (by decide) (wQ cI uq qf ++ (wA cI u nc nw (tk + 1) z.2.2.2.2.2.1 z.2.2.2.2.2.2.1 z.2.2.2.2.2.2.2 mg pt bd cx cy ch rm on wx wy dm (upd z.1 i (nI b)) z.2.1 z.2.2.1 z.2.2.2.1 z.2.2.2.2.1)) (by rw [uhA_3 (by omega)]; rfl) dL_tick_187 ?_
            refine g_goto C 455 dL_tick_188 (by decide) ?_
            refine g_w (ws' := (wQ cI uq qf ++ (wA cI u nc nw (tk + 1) ((fts on dm rm nc nw (fun u c => qf (4 * c + u)) mg pt bd (tk + 1) i z).2.2.2.2.2.1) ((fts on dm rm nc nw (fun u c => qf (4 * c + u)) mg pt bd (tk + 1) i z).2.2.2.2.2.2.1) ((fts on dm rm nc nw (fun u c => qf (4 * c + u)) mg pt bd (tk + 1) i z).2.2.2.2.2.2.2) mg pt bd cx cy ch rm on wx wy dm ((fts on dm rm nc nw (fun u c => qf (4 * c + u)) mg pt bd (tk + 1) i z).1) ((fts on dm rm nc nw (fun u c => qf (4 * c + u)) mg pt bd (tk + 1) i z).2.1) ((fts on dm rm nc nw (fun u c => qf (4 * c + u)) mg pt bd (tk + 1) i z).2.2.1) ((fts on dm rm nc nw (fun u c => qf (4 * c + u)) mg pt bd (tk + 1) i z).2.2.2.1) ((fts on dm rm nc nw (fun u c => qf (4 * c + u)) mg pt bd (tk + 1) i z).2.2.2.2.1)))) (congrArg (fun T : TS => (wQ cI uq qf ++ (wA cI u nc nw (tk + 1) T.2.2.2.2.2.1 T.2.2.2.2.2.2.1 T.2.2.2.2.2.2.2 mg pt bd cx cy ch rm on wx wy dm T.1 T.2.1 T.2.2.1 T.2.2.2.1 T.2.2.2.2.1))) (ft_a2 (on := on) (dm := dm) (rm := rm) (nc := nc) (nw := nw) (QQ := (fun u c => qf (4 * c + u))) (mg := mg) (pt := pt) (bd := bd) (tk := tk + 1) (i := i) (z := z) hnow (show fbo (fun u => ftk on z.1 dm rm nw i u) ((fun u c => qf (4 * c + u)) i) nc = some b by rw [d2, show t = nc by omega]) (Int32.not_lt.mpr (Int32.not_lt.mp c_178))).symm) ?_
            refine g_iinc C (nI (i + 1)) [some (.ref (u 0)), some (.ref (u 1)), some (.ref (u 2)), some (.ref uq), some (.int (nI (i + 1))), some (.int ((-1))), some (.int (nI b)), some (.int (nI t)), none] dL_tick_455 rfl (nI_1 i) (by decide) rfl rfl ?_
            refine g_goto C 22 dL_tick_458 (by decide) ?_
            refine g_mask [true, true, true, true, true, false, false, false, false] rfl ?_
            exact ih (i + 1) (fts on dm rm nc nw (fun u c => qf (4 * c + u)) mg pt bd (tk + 1) i z) ⟨by omega, by rw [ftw, ← h2], fts_sv h3⟩ (by omega)
      · skip
        have c_50 : ¬ (nc ≤ t) := fun h9 => c_50 ((nI_leI (by omega) (by omega)).mpr h9)
        refine g_iload C dL_tick_53 rfl ?_
        refine g_iload C dL_tick_55 rfl ?_
        have hse : ¬ z.1 i = nI t := by rw [hnow]; exact fun h => en_m1 (show t < 2 ^ 31 by omega) h.symm
        refine g_icmp_eq C 100 dL_tick_57 (by decide) (fun c9 => absurd c9 (en_m1 (show t < 2 ^ 31 by omega))) (fun _ => ?_)
        refine g_aload_n C dL_tick_60 rfl ?_
        refine g_bipush C 16 dL_tick_61 (by decide +kernel) ?_
        refine g_iload C dL_tick_63 rfl ?_
        refine g_iadd C (nI (16 + t)) dL_tick_65 (nI_k 16 t _ rfl) ?_
        refine g_iald C 2 0 rfl rfl (16 + t) rfl (by omega) (by decide) (on t) (gA_4 (by omega)) dL_tick_66 ?_
        refine g_iconst C 1 dL_tick_67 (by decide +kernel) ?_
        refine g_icmp_ne C 100 dL_tick_68 (by decide) (fun c_68 => ?_) (fun c_68 => ?_)
        · skip
          have hk0 : ftk on z.1 dm rm nw i t = 0 := ftk_0b (on_1 (hon t (by omega)) c_68)
          refine g_iconst C 0 dL_tick_100 (by decide +kernel) ?_
          refine g_istore C [some (.ref (u 0)), some (.ref (u 1)), some (.ref (u 2)), some (.ref uq), some (.int (nI i)), some (.int ((-1))), some (.int (en o)), some (.int (nI t)), some (.int 0)] dL_tick_101 (by decide) rfl rfl ?_
          refine g_iload C dL_tick_103 rfl ?_
          refine g_if_eq C 139 dL_tick_105 (by decide) (fun _ => ?_) (fun c9 => absurd rfl c9)
          refine g_iload C dL_tick_139 rfl ?_
          refine g_istore C [some (.ref (u 0)), some (.ref (u 1)), some (.ref (u 2)), some (.ref uq), some (.int (nI i)), some (.int ((-1))), some (.int (en o)), some (.int (nI t)), some (.int 0)] dL_tick_141 (by decide) rfl rfl ?_
          refine g_iinc C (nI (t + 1)) [some (.ref (u 0)), some (.ref (u 1)), some (.ref (u 2)), some (.ref uq), some (.int (nI i)), some (.int ((-1))), some (.int (en o)), some (.int (nI (t + 1))), some (.int 0)] dL_tick_143 rfl (nI_1 t) (by decide) rfl rfl ?_
          refine g_goto C 45 dL_tick_146 (by decide) ?_
          refine g_mask [true, true, true, true, true, true, true, true, false] rfl ?_
          exact th (t + 1) o ⟨by omega, by rw [fbo, if_pos hk0, ← d2]⟩ (by omega)
        · skip
          refine g_aload_n C dL_tick_71 rfl ?_
          refine g_aload_n C dL_tick_72 rfl ?_
          refine g_iload C dL_tick_73 rfl ?_
          refine g_callSi C (wQ cI uq qf) (wA cI u nc nw (tk + 1) z.2.2.2.2.2.1 z.2.2.2.2.2.2.1 z.2.2.2.2.2.2.2 mg pt bd cx cy ch rm on wx wy dm z.1 z.2.1 z.2.2.1 z.2.2.2.1 z.2.2.2.2.1) [.ref (u 0), .ref (u 2), .int (nI t)] (t_L_load h6) (va_cwS 3 C.ts gL_tick_L_load rfl rfl rfl (by decide +kernel) ⟨Nat.le_of_ble_eq_true rfl, Nat.le_of_ble_eq_true rfl⟩) rfl rfl rfl (Nat.le_of_ble_eq_true rfl) dL_tick_75 ⟨Nat.le_of_ble_eq_true rfl, Nat.le_of_ble_eq_true rfl⟩ (fun rv2 wv2 hp2 => ?_)
          obtain ⟨rfl, rfl⟩ := hp2
          refine g_aload_n C dL_tick_78 rfl ?_
          refine g_bipush C 8 dL_tick_79 (by decide +kernel) ?_
          refine g_iload C dL_tick_81 rfl ?_
          refine g_iadd C (nI (8 + i)) dL_tick_83 (nI_k 8 i _ rfl) ?_
          refine g_iald C 3 0 rfl rfl (8 + i) rfl (by omega) (by decide) (dm i) (hA_2 (by omega)) dL_tick_84 ?_
          refine g_iadd C ((fld z.1 dm (nI t) nw) + (dm i)) dL_tick_85 rfl ?_
          refine g_aload_n C dL_tick_86 rfl ?_
          refine g_bipush C 12 dL_tick_87 (by decide +kernel) ?_
          refine g_iload C dL_tick_89 rfl ?_
          refine g_iadd C (nI (12 + t)) dL_tick_91 (nI_k 12 t _ rfl) ?_
          refine g_iald C 2 0 rfl rfl (12 + t) rfl (by omega) (by decide) (rm t) (gA_3 (by omega)) dL_tick_92 ?_
          refine g_icmp_gt C 100 dL_tick_93 (by decide) (fun c_93 => ?_) (fun c_93 => ?_)
          · skip
            have hk0 : ftk on z.1 dm rm nw i t = 0 := ftk_0c c_93
            refine g_iconst C 0 dL_tick_100 (by decide +kernel) ?_
            refine g_istore C [some (.ref (u 0)), some (.ref (u 1)), some (.ref (u 2)), some (.ref uq), some (.int (nI i)), some (.int ((-1))), some (.int (en o)), some (.int (nI t)), some (.int 0)] dL_tick_101 (by decide) rfl rfl ?_
            refine g_iload C dL_tick_103 rfl ?_
            refine g_if_eq C 139 dL_tick_105 (by decide) (fun _ => ?_) (fun c9 => absurd rfl c9)
            refine g_iload C dL_tick_139 rfl ?_
            refine g_istore C [some (.ref (u 0)), some (.ref (u 1)), some (.ref (u 2)), some (.ref uq), some (.int (nI i)), some (.int ((-1))), some (.int (en o)), some (.int (nI t)), some (.int 0)] dL_tick_141 (by decide) rfl rfl ?_
            refine g_iinc C (nI (t + 1)) [some (.ref (u 0)), some (.ref (u 1)), some (.ref (u 2)), some (.ref uq), some (.int (nI i)), some (.int ((-1))), some (.int (en o)), some (.int (nI (t + 1))), some (.int 0)] dL_tick_143 rfl (nI_1 t) (by decide) rfl rfl ?_
            refine g_goto C 45 dL_tick_146 (by decide) ?_
            refine g_mask [true, true, true, true, true, true, true, true, false] rfl ?_
            exact th (t + 1) o ⟨by omega, by rw [fbo, if_pos hk0, ← d2]⟩ (by omega)
          · skip
            have hk1 : ¬ ftk on z.1 dm rm nw i t = 0 := ftk_1 (ne_1 c_68) hse c_93
            refine g_iconst C 1 dL_tick_96 (by decide +kernel) ?_
            refine g_goto C 101 dL_tick_97 (by decide) ?_
            refine g_istore C [some (.ref (u 0)), some (.ref (u 1)), some (.ref (u 2)), some (.ref uq), some (.int (nI i)), some (.int ((-1))), some (.int (en o)), some (.int (nI t)), some (.int 1)] dL_tick_101 (by decide) rfl rfl ?_
            refine g_iload C dL_tick_103 rfl ?_
            refine g_if_eq C 139 dL_tick_105 (by decide) (fun c9 => absurd c9 (by decide)) (fun _ => ?_)
            rcases o with _ | b
            · skip
              refine g_lv (lv' := [some (.ref (u 0)), some (.ref (u 1)), some (.ref (u 2)), some (.ref uq), some (.int (nI i)), some (.int ((-1))), some (.int ((-1))), some (.int (nI t)), some (.int 1)]) rfl ?_
              refine g_iload C dL_tick_108 rfl ?_
              refine g_if_lt C 134 dL_tick_110 (by decide) (fun _ => ?_) (fun c9 => absurd (by decide) c9)
              refine g_iload C dL_tick_134 rfl ?_
              refine g_goto C 141 dL_tick_136 (by decide) ?_
              refine g_istore C [some (.ref (u 0)), some (.ref (u 1)), some (.ref (u 2)), some (.ref uq), some (.int (nI i)), some (.int ((-1))), some (.int (nI t)), some (.int (nI t)), some (.int 1)] dL_tick_141 (by decide) rfl rfl ?_
              refine g_iinc C (nI (t + 1)) [some (.ref (u 0)), some (.ref (u 1)), some (.ref (u 2)), some (.ref uq), some (.int (nI i)), some (.int ((-1))), some (.int (nI t)), some (.int (nI (t + 1))), some (.int 1)] dL_tick_143 rfl (nI_1 t) (by decide) rfl rfl ?_
              refine g_goto C 45 dL_tick_146 (by decide) ?_
              refine g_mask [true, true, true, true, true, true, true, true, false] rfl ?_
              exact th (t + 1) (some t) ⟨by omega, by rw [fbo, if_neg hk1, ← d2]⟩ (by omega)
            · skip
              refine g_lv (lv' := [some (.ref (u 0)), some (.ref (u 1)), some (.ref (u 2)), some (.ref uq), some (.int (nI i)), some (.int ((-1))), some (.int (nI b)), some (.int (nI t)), some (.int 1)]) rfl ?_
              have hb : b < t := fbo_lt d2.symm
              refine g_iload C dL_tick_108 rfl ?_
              refine g_if_lt C 134 dL_tick_110 (by decide) (fun c9 => absurd c9 (nI_pos (by omega))) (fun _ => ?_)
              refine g_aload_n C dL_tick_113 rfl ?_
              refine g_iconst C 4 dL_tick_114 (by decide +kernel) ?_
              refine g_iload C dL_tick_115 rfl ?_
              refine g_imul C (nI (4 * t)) dL_tick_117 (nI_mk 4 t _ rfl) ?_
              refine g_iload C dL_tick_118 rfl ?_
              refine g_iadd C (nI (4 * t + i)) dL_tick_120 (nI_k (4 * t) i _ rfl) ?_
              refine g_iald C 0 0 rfl rfl (4 * t + i) rfl (by omega) (by decide) (qf (4 * t + i)) rfl dL_tick_121 ?_
              refine g_aload_n C dL_tick_122 rfl ?_
              refine g_iconst C 4 dL_tick_123 (by decide +kernel) ?_
              refine g_iload C dL_tick_124 rfl ?_
              refine g_imul C (nI (4 * b)) dL_tick_126 (nI_mk 4 b _ rfl) ?_
              refine g_iload C dL_tick_127 rfl ?_
              refine g_iadd C (nI (4 * b + i)) dL_tick_129 (nI_k (4 * b) i _ rfl) ?_
              refine g_iald C 0 0 rfl rfl (4 * b + i) rfl (by omega) (by decide) (qf (4 * b + i)) rfl dL_tick_130 ?_
              refine g_icmp_le C 139 dL_tick_131 (by decide) (fun c_131 => ?_) (fun c_131 => ?_)
              · skip
                refine g_iload C dL_tick_139 rfl ?_
                refine g_istore C [some (.ref (u 0)), some (.ref (u 1)), some (.ref (u 2)), some (.ref uq), some (.int (nI i)), some (.int ((-1))), some (.int (nI b)), some (.int (nI t)), some (.int 1)] dL_tick_141 (by decide) rfl rfl ?_
                refine g_iinc C (nI (t + 1)) [some (.ref (u 0)), some (.ref (u 1)), some (.ref (u 2)), some (.ref uq), some (.int (nI i)), some (.int ((-1))), some (.int (nI b)), some (.int (nI (t + 1))), some (.int 1)] dL_tick_143 rfl (nI_1 t) (by decide) rfl rfl ?_
                refine g_goto C 45 dL_tick_146 (by decide) ?_
                refine g_mask [true, true, true, true, true, true, true, true, false] rfl ?_
                exact th (t + 1) (some b) ⟨by omega, by rw [fbo, if_neg hk1, ← d2]; exact (if_pos c_131).symm⟩ (by omega)
              · skip
                refine g_iload C dL_tick_134 rfl ?_
                refine g_goto C 141 dL_tick_136 (by decide) ?_
                refine g_istore C [some (.ref (u 0)), some (.ref (u 1)), some (.ref (u 2)), some (.ref uq), some (.int (nI i)), some (.int ((-1))), some (.int (nI t)), some (.int (nI t)), some (.int 1)] dL_tick_141 (by decide) rfl rfl ?_
                refine g_iinc C (nI (t + 1)) [some (.ref (u 0)), some (.ref (u 1)), some (.ref (u 2)), some (.ref uq), some (.int (nI i)), some (.int ((-1))), some (.int (nI t)), some (.int (nI (t + 1))), some (.int 1)] dL_tick_143 rfl (nI_1 t) (by decide) rfl rfl ?_
                refine g_goto C 45 dL_tick_146 (by decide) ?_
                refine g_mask [true, true, true, true, true, true, true, true, false] rfl ?_
                exact th (t + 1) (some t) ⟨by omega, by rw [fbo, if_neg hk1, ← d2]; exact (if_neg c_131).symm⟩ (by omega)
    · skip
      refine g_st (st' := [.int (nI ks)]) (by rw [hnow]) ?_
      refine g_istore C [some (.ref (u 0)), some (.ref (u 1)), some (.ref (u 2)), some (.ref uq), some (.int (nI i)), some (.int (nI ks)), none, none, none] dL_tick_37 (by decide) rfl rfl ?_
      refine g_iconst C (-1) dL_tick_39 (by decide +kernel) ?_
      refine g_istore C [some (.ref (u 0)), some (.ref (u 1)), some (.ref (u 2)), some (.ref uq), some (.int (nI i)), some (.int (nI ks)), some (.int ((-1))), none, none] dL_tick_40 (by decide) rfl rfl ?_
      refine g_iconst C 0 dL_tick_42 (by decide +kernel) ?_
      refine g_istore C [some (.ref (u 0)), some (.ref (u 1)), some (.ref (u 2)), some (.ref uq), some (.int (nI i)), some (.int (nI ks)), some (.int ((-1))), some (.int 0), none] dL_tick_43 (by decide) rfl rfl ?_
      refine g_loop2 0 none (fun (t : Nat) (o : Option Nat) => t ≤ nc ∧ o = fbo (fun u => ftk on z.1 dm rm nw i u) ((fun u c => qf (4 * c + u)) i) t) (fun (t : Nat) (o : Option Nat) => (wQ cI uq qf ++ (wA cI u nc nw (tk + 1) z.2.2.2.2.2.1 z.2.2.2.2.2.2.1 z.2.2.2.2.2.2.2 mg pt bd cx cy ch rm on wx wy dm z.1 z.2.1 z.2.2.1 z.2.2.2.1 z.2.2.2.2.1))) (fun (t : Nat) (o : Option Nat) => [some (.ref (u 0)), some (.ref (u 1)), some (.ref (u 2)), some (.ref uq), some (.int (nI i)), some (.int (nI ks)), some (.int (en o)), some (.int (nI t)), none]) (fun (t : Nat) (o : Option Nat) => nc - t) ⟨Nat.zero_le _, rfl⟩ rfl rfl (fun t o hT th => ?_)
      obtain ⟨d1, d2⟩ := hT
      refine g_iload C dL_tick_45 rfl ?_
      refine g_aload_n C dL_tick_47 rfl ?_
      refine g_iconst C 0 dL_tick_48 (by decide +kernel) ?_
      refine g_iald C 1 0 rfl rfl 0 rfl (by omega) (by decide) (nI nc) rfl dL_tick_49 ?_
      refine g_icmp_ge C 149 dL_tick_50 (by decide) (fun c_50 => ?_) (fun c_50 => ?_)
      · skip
        have c_50 : nc ≤ t := (nI_leI (by omega) (by omega)).mp c_50
        rcases o with _ | b
        · skip
          refine g_lv (lv' := [some (.ref (u 0)), some (.ref (u 1)), some (.ref (u 2)), some (.ref uq), some (.int (nI i)), some (.int (nI ks)), some (.int ((-1))), some (.int (nI t)), none]) rfl ?_
          refine g_iload C dL_tick_149 rfl ?_
          refine g_if_ge C 191 dL_tick_151 (by decide) (fun _ => ?_) (fun c9 => absurd (nI_pos' (by omega)) c9)
          refine g_aload_n C dL_tick_191 rfl ?_
          refine g_iconst C 4 dL_tick_192 (by decide +kernel) ?_
          refine g_iload C dL_tick_193 rfl ?_
          refine g_imul C (nI (4 * ks)) dL_tick_195 (nI_mk 4 ks _ rfl) ?_
          refine g_iload C dL_tick_196 rfl ?_
          refine g_iadd C (nI (4 * ks + i)) dL_tick_198 (nI_k (4 * ks) i _ rfl) ?_
          refine g_iald C 0 0 rfl rfl (4 * ks + i) rfl (by omega) (by decide) (qf (4 * ks + i)) rfl dL_tick_199 ?_
          refine g_aload_n C dL_tick_200 rfl ?_
          refine g_bipush C 8 dL_tick_201 (by decide +kernel) ?_
          refine g_iald C 1 0 rfl rfl 8 rfl (by omega) (by decide) bd rfl dL_tick_203 ?_
          refine g_icmp_ge C 249 dL_tick_204 (by decide) (fun c_204 => ?_) (fun c_204 => ?_)
          · skip
            refine g_iload C dL_tick_249 rfl ?_
            refine g_if_lt C 284 dL_tick_251 (by decide) (fun _ => ?_) (fun c9 => absurd (by decide) c9)
            refine g_iconst C 0 dL_tick_284 (by decide +kernel) ?_
            refine g_istore C [some (.ref (u 0)), some (.ref (u 1)), some (.ref (u 2)), some (.ref uq), some (.int (nI i)), some (.int (nI ks)), some (.int ((-1))), some (.int 0), none] dL_tick_285 (by decide) rfl rfl ?_
            refine g_aload_n C dL_tick_287 rfl ?_
            refine g_bipush C 20 dL_tick_288 (by decide +kernel) ?_
            refine g_iload C dL_tick_290 rfl ?_
            refine g_iadd C (nI (20 + i)) dL_tick_292 (nI_k 20 i _ rfl) ?_
            refine g_iload C dL_tick_293 rfl ?_
            refine g_if_ne C 302 dL_tick_295 (by decide) (fun c9 => absurd rfl c9) (fun _ => ?_)
            refine g_iconst C 0 dL_tick_298 (by decide +kernel) ?_
            refine g_goto C 327 dL_tick_299 (by decide) ?_
            refine g_iast C 3 0 rfl rfl (20 + i) rfl (by omega) (by decide) (wQ cI uq qf ++ (wA cI u nc nw (tk + 1) z.2.2.2.2.2.1 z.2.2.2.2.2.2.1 z.2.2.2.2.2.2.2 mg pt bd cx cy ch rm on wx wy dm z.1 z.2.1 (upd z.2.2.1 i 0) z.2.2.2.1 z.2.2.2.2.1)) (by rw [uhA_5 (by omega)]; rfl) dL_tick_327 ?_
            refine g_aload_n C dL_tick_328 rfl ?_
            refine g_bipush C 16 dL_tick_329 (by decide +kernel) ?_
            refine g_iload C dL_tick_331 rfl ?_
            refine g_iadd C (nI (16 + i)) dL_tick_333 (nI_k 16 i _ rfl) ?_
            refine g_iload C dL_tick_334 rfl ?_
            refine g_if_eq C 344 dL_tick_336 (by decide) (fun _ => ?_) (fun c9 => absurd rfl c9)
            refine g_iconst C (-1) dL_tick_344 (by decide +kernel) ?_
            refine g_iast C 3 0 rfl rfl (16 + i) rfl (by omega) (by decide) (wQ cI uq qf ++ (wA cI u nc nw (tk + 1) z.2.2.2.2.2.1 z.2.2.2.2.2.2.1 z.2.2.2.2.2.2.2 mg pt bd cx cy ch rm on wx wy dm z.1 (upd z.2.1 i ((-1))) (upd z.2.2.1 i 0) z.2.2.2.1 z.2.2.2.2.1)) (by rw [uhA_4 (by omega)]; rfl) dL_tick_345 ?_
            refine g_iload C dL_tick_346 rfl ?_
            refine g_if_eq C 455 dL_tick_348 (by decide) (fun _ => ?_) (fun c9 => absurd rfl c9)
            refine g_w (ws' := (wQ cI uq qf ++ (wA cI u nc nw (tk + 1) ((fts on dm rm nc nw (fun u c => qf (4 * c + u)) mg pt bd (tk + 1) i z).2.2.2.2.2.1) ((fts on dm rm nc nw (fun u c => qf (4 * c + u)) mg pt bd (tk + 1) i z).2.2.2.2.2.2.1) ((fts on dm rm nc nw (fun u c => qf (4 * c + u)) mg pt bd (tk + 1) i z).2.2.2.2.2.2.2) mg pt bd cx cy ch rm on wx wy dm ((fts on dm rm nc nw (fun u c => qf (4 * c + u)) mg pt bd (tk + 1) i z).1) ((fts on dm rm nc nw (fun u c => qf (4 * c + u)) mg pt bd (tk + 1) i z).2.1) ((fts on dm rm nc nw (fun u c => qf (4 * c + u)) mg pt bd (tk + 1) i z).2.2.1) ((fts on dm rm nc nw (fun u c => qf (4 * c + u)) mg pt bd (tk + 1) i z).2.2.2.1) ((fts on dm rm nc nw (fun u c => qf (4 * c + u)) mg pt bd (tk + 1) i z).2.2.2.2.1)))) (congrArg (fun T : TS => (wQ cI uq qf ++ (wA cI u nc nw (tk + 1) T.2.2.2.2.2.1 T.2.2.2.2.2.2.1 T.2.2.2.2.2.2.2 mg pt bd cx cy ch rm on wx wy dm T.1 T.2.1 T.2.2.1 T.2.2.2.1 T.2.2.2.2.1))) (ft_w0 (on := on) (dm := dm) (rm := rm) (nc := nc) (nw := nw) (QQ := (fun u c => qf (4 * c + u))) (mg := mg) (pt := pt) (bd := bd) (tk := tk + 1) (i := i) (z := z) hnow (by omega) c_204 (show fbo (fun u => ftk on z.1 dm rm nw i u) ((fun u c => qf (4 * c + u)) i) nc = none by rw [d2, show t = nc by omega])).symm) ?_
            refine g_iinc C (nI (i + 1)) [some (.ref (u 0)), some (.ref (u 1)), some (.ref (u 2)), some (.ref uq), some (.int (nI (i + 1))), some (.int (nI ks)), some (.int ((-1))), some (.int 0), none] dL_tick_455 rfl (nI_1 i) (by decide) rfl rfl ?_
            refine g_goto C 22 dL_tick_458 (by decide) ?_
            refine g_mask [true, true, true, true, true, false, false, false, false] rfl ?_
            exact ih (i + 1) (fts on dm rm nc nw (fun u c => qf (4 * c + u)) mg pt bd (tk + 1) i z) ⟨by omega, by rw [ftw, ← h2], fts_sv h3⟩ (by omega)
          · skip
            refine g_aload_n C dL_tick_207 rfl ?_
            refine g_bipush C 12 dL_tick_208 (by decide +kernel) ?_
            refine g_iload C dL_tick_210 rfl ?_
            refine g_iadd C (nI (12 + i)) dL_tick_212 (nI_k 12 i _ rfl) ?_
            refine g_iconst C (-1) dL_tick_213 (by decide +kernel) ?_
            refine g_iast C 3 0 rfl rfl (12 + i) rfl (by omega) (by decide) (wQ cI uq qf ++ (wA cI u nc nw (tk + 1) z.2.2.2.2.2.1 z.2.2.2.2.2.2.1 z.2.2.2.2.2.2.2 mg pt bd cx cy ch rm on wx wy dm (upd z.1 i ((-1))) z.2.1 z.2.2.1 z.2.2.2.1 z.2.2.2.2.1)) (by rw [uhA_3 (by omega)]; rfl) dL_tick_214 ?_
            refine g_aload_n C dL_tick_215 rfl ?_
            refine g_bipush C 16 dL_tick_216 (by decide +kernel) ?_
            refine g_iload C dL_tick_218 rfl ?_
            refine g_iadd C (nI (16 + i)) dL_tick_220 (nI_k 16 i _ rfl) ?_
            refine g_iconst C (-1) dL_tick_221 (by decide +kernel) ?_
            refine g_iast C 3 0 rfl rfl (16 + i) rfl (by omega) (by decide) (wQ cI uq qf ++ (wA cI u nc nw (tk + 1) z.2.2.2.2.2.1 z.2.2.2.2.2.2.1 z.2.2.2.2.2.2.2 mg pt bd cx cy ch rm on wx wy dm (upd z.1 i ((-1))) (upd z.2.1 i ((-1))) z.2.2.1 z.2.2.2.1 z.2.2.2.2.1)) (by rw [uhA_4 (by omega)]; rfl) dL_tick_222 ?_
            refine g_aload_n C dL_tick_223 rfl ?_
            refine g_bipush C 20 dL_tick_224 (by decide +kernel) ?_
            refine g_iload C dL_tick_226 rfl ?_
            refine g_iadd C (nI (20 + i)) dL_tick_228 (nI_k 20 i _ rfl) ?_
            refine g_iconst C 0 dL_tick_229 (by decide +kernel) ?_
            refine g_iast C 3 0 rfl rfl (20 + i) rfl (by omega) (by decide) (wQ cI uq qf ++ (wA cI u nc nw (tk + 1) z.2.2.2.2.2.1 z.2.2.2.2.2.2.1 z.2.2.2.2.2.2.2 mg pt bd cx cy ch rm on wx wy dm (upd z.1 i ((-1))) (upd z.2.1 i ((-1))) (upd z.2.2.1 i 0) z.2.2.2.1 z.2.2.2.2.1)) (by rw [uhA_5 (by omega)]; rfl) dL_tick_230 ?_
            refine g_aload_n C dL_tick_231 rfl ?_
            refine g_bipush C 24 dL_tick_232 (by decide +kernel) ?_
            refine g_iload C dL_tick_234 rfl ?_
            refine g_iadd C (nI (24 + i)) dL_tick_236 (nI_k 24 i _ rfl) ?_
            refine g_iconst C (-1) dL_tick_237 (by decide +kernel) ?_
            refine g_iast C 3 0 rfl rfl (24 + i) rfl (by omega) (by decide) (wQ cI uq qf ++ (wA cI u nc nw (tk + 1) z.2.2.2.2.2.1 z.2.2.2.2.2.2.1 z.2.2.2.2.2.2.2 mg pt bd cx cy ch rm on wx wy dm (upd z.1 i ((-1))) (upd z.2.1 i ((-1))) (upd z.2.2.1 i 0) (upd z.2.2.2.1 i ((-1))) z.2.2.2.2.1)) (by rw [uhA_6 (by omega)]; rfl) dL_tick_238 ?_
            refine g_aload_n C dL_tick_239 rfl ?_
            refine g_iconst C 5 dL_tick_240 (by decide +kernel) ?_
            refine g_dup2 C dL_tick_241 rfl rfl ?_
            refine g_iald C 1 0 rfl rfl 5 rfl (by omega) (by decide) z.2.2.2.2.2.2.2 rfl dL_tick_242 ?_
            refine g_iconst C 1 dL_tick_243 (by decide +kernel) ?_
            refine g_iadd C (z.2.2.2.2.2.2.2 + 1) dL_tick_244 rfl ?_
            refine g_iast C 1 0 rfl rfl 5 rfl (by omega) (by decide) (wQ cI uq qf ++ (wA cI u nc nw (tk + 1) z.2.2.2.2.2.1 z.2.2.2.2.2.2.1 (z.2.2.2.2.2.2.2 + 1) mg pt bd cx cy ch rm on wx wy dm (upd z.1 i ((-1))) (upd z.2.1 i ((-1))) (upd z.2.2.1 i 0) (upd z.2.2.2.1 i ((-1))) z.2.2.2.2.1)) (by rw [uc_5]; rfl) dL_tick_245 ?_
            refine g_goto C 455 dL_tick_246 (by decide) ?_
            refine g_w (ws' := (wQ cI uq qf ++ (wA cI u nc nw (tk + 1) ((fts on dm rm nc nw (fun u c => qf (4 * c + u)) mg pt bd (tk + 1) i z).2.2.2.2.2.1) ((fts on dm rm nc nw (fun u c => qf (4 * c + u)) mg pt bd (tk + 1) i z).2.2.2.2.2.2.1) ((fts on dm rm nc nw (fun u c => qf (4 * c + u)) mg pt bd (tk + 1) i z).2.2.2.2.2.2.2) mg pt bd cx cy ch rm on wx wy dm ((fts on dm rm nc nw (fun u c => qf (4 * c + u)) mg pt bd (tk + 1) i z).1) ((fts on dm rm nc nw (fun u c => qf (4 * c + u)) mg pt bd (tk + 1) i z).2.1) ((fts on dm rm nc nw (fun u c => qf (4 * c + u)) mg pt bd (tk + 1) i z).2.2.1) ((fts on dm rm nc nw (fun u c => qf (4 * c + u)) mg pt bd (tk + 1) i z).2.2.2.1) ((fts on dm rm nc nw (fun u c => qf (4 * c + u)) mg pt bd (tk + 1) i z).2.2.2.2.1)))) (congrArg (fun T : TS => (wQ cI uq qf ++ (wA cI u nc nw (tk + 1) T.2.2.2.2.2.1 T.2.2.2.2.2.2.1 T.2.2.2.2.2.2.2 mg pt bd cx cy ch rm on wx wy dm T.1 T.2.1 T.2.2.1 T.2.2.2.1 T.2.2.2.2.1))) (ft_lose (on := on) (dm := dm) (rm := rm) (nc := nc) (nw := nw) (QQ := (fun u c => qf (4 * c + u))) (mg := mg) (pt := pt) (bd := bd) (tk := tk + 1) (i := i) (z := z) hnow (by omega) c_204).symm) ?_
            refine g_iinc C (nI (i + 1)) [some (.ref (u 0)), some (.ref (u 1)), some (.ref (u 2)), some (.ref uq), some (.int (nI (i + 1))), some (.int (nI ks)), some (.int ((-1))), some (.int (nI t)), none] dL_tick_455 rfl (nI_1 i) (by decide) rfl rfl ?_
            refine g_goto C 22 dL_tick_458 (by decide) ?_
            refine g_mask [true, true, true, true, true, false, false, false, false] rfl ?_
            exact ih (i + 1) (fts on dm rm nc nw (fun u c => qf (4 * c + u)) mg pt bd (tk + 1) i z) ⟨by omega, by rw [ftw, ← h2], fts_sv h3⟩ (by omega)
        · skip
          refine g_lv (lv' := [some (.ref (u 0)), some (.ref (u 1)), some (.ref (u 2)), some (.ref uq), some (.int (nI i)), some (.int (nI ks)), some (.int (nI b)), some (.int (nI t)), none]) rfl ?_
          have hb : b < t := fbo_lt d2.symm
          refine g_iload C dL_tick_149 rfl ?_
          refine g_if_ge C 191 dL_tick_151 (by decide) (fun _ => ?_) (fun c9 => absurd (nI_pos' (by omega)) c9)
          refine g_aload_n C dL_tick_191 rfl ?_
          refine g_iconst C 4 dL_tick_192 (by decide +kernel) ?_
          refine g_iload C dL_tick_193 rfl ?_
          refine g_imul C (nI (4 * ks)) dL_tick_195 (nI_mk 4 ks _ rfl) ?_
          refine g_iload C dL_tick_196 rfl ?_
          refine g_iadd C (nI (4 * ks + i)) dL_tick_198 (nI_k (4 * ks) i _ rfl) ?_
          refine g_iald C 0 0 rfl rfl (4 * ks + i) rfl (by omega) (by decide) (qf (4 * ks + i)) rfl dL_tick_199 ?_
          refine g_aload_n C dL_tick_200 rfl ?_
          refine g_bipush C 8 dL_tick_201 (by decide +kernel) ?_
          refine g_iald C 1 0 rfl rfl 8 rfl (by omega) (by decide) bd rfl dL_tick_203 ?_
          refine g_icmp_ge C 249 dL_tick_204 (by decide) (fun c_204 => ?_) (fun c_204 => ?_)
          · skip
            refine g_iload C dL_tick_249 rfl ?_
            refine g_if_lt C 284 dL_tick_251 (by decide) (fun c9 => absurd c9 (nI_pos (by omega))) (fun _ => ?_)
            refine g_aload_n C dL_tick_254 rfl ?_
            refine g_iconst C 4 dL_tick_255 (by decide +kernel) ?_
            refine g_iload C dL_tick_256 rfl ?_
            refine g_imul C (nI (4 * b)) dL_tick_258 (nI_mk 4 b _ rfl) ?_
            refine g_iload C dL_tick_259 rfl ?_
            refine g_iadd C (nI (4 * b + i)) dL_tick_261 (nI_k (4 * b) i _ rfl) ?_
            refine g_iald C 0 0 rfl rfl (4 * b + i) rfl (by omega) (by decide) (qf (4 * b + i)) rfl dL_tick_262 ?_
            refine g_aload_n C dL_tick_263 rfl ?_
            refine g_iconst C 4 dL_tick_264 (by decide +kernel) ?_
            refine g_iload C dL_tick_265 rfl ?_
            refine g_imul C (nI (4 * ks)) dL_tick_267 (nI_mk 4 ks _ rfl) ?_
            refine g_iload C dL_tick_268 rfl ?_
            refine g_iadd C (nI (4 * ks + i)) dL_tick_270 (nI_k (4 * ks) i _ rfl) ?_
            refine g_iald C 0 0 rfl rfl (4 * ks + i) rfl (by omega) (by decide) (qf (4 * ks + i)) rfl dL_tick_271 ?_
            refine g_aload_n C dL_tick_272 rfl ?_
            refine g_bipush C 6 dL_tick_273 (by decide +kernel) ?_
            refine g_iald C 1 0 rfl rfl 6 rfl (by omega) (by decide) mg rfl dL_tick_275 ?_
            refine g_iadd C ((qf (4 * ks + i)) + mg) dL_tick_276 rfl ?_
            refine g_icmp_lt C 284 dL_tick_277 (by decide) (fun c_277 => ?_) (fun c_277 => ?_)
            · skip
              refine g_iconst C 0 dL_tick_284 (by decide +kernel) ?_
              refine g_istore C [some (.ref (u 0)), some (.ref (u 1)), some (.ref (u 2)), some (.ref uq), some (.int (nI i)), some (.int (nI ks)), some (.int (nI b)), some (.int 0), none] dL_tick_285 (by decide) rfl rfl ?_
              refine g_aload_n C dL_tick_287 rfl ?_
              refine g_bipush C 20 dL_tick_288 (by decide +kernel) ?_
              refine g_iload C dL_tick_290 rfl ?_
              refine g_iadd C (nI (20 + i)) dL_tick_292 (nI_k 20 i _ rfl) ?_
              refine g_iload C dL_tick_293 rfl ?_
              refine g_if_ne C 302 dL_tick_295 (by decide) (fun c9 => absurd rfl c9) (fun _ => ?_)
              refine g_iconst C 0 dL_tick_298 (by decide +kernel) ?_
              refine g_goto C 327 dL_tick_299 (by decide) ?_
              refine g_iast C 3 0 rfl rfl (20 + i) rfl (by omega) (by decide) (wQ cI uq qf ++ (wA cI u nc nw (tk + 1) z.2.2.2.2.2.1 z.2.2.2.2.2.2.1 z.2.2.2.2.2.2.2 mg pt bd cx cy ch rm on wx wy dm z.1 z.2.1 (upd z.2.2.1 i 0) z.2.2.2.1 z.2.2.2.2.1)) (by rw [uhA_5 (by omega)]; rfl) dL_tick_327 ?_
              refine g_aload_n C dL_tick_328 rfl ?_
              refine g_bipush C 16 dL_tick_329 (by decide +kernel) ?_
              refine g_iload C dL_tick_331 rfl ?_
              refine g_iadd C (nI (16 + i)) dL_tick_333 (nI_k 16 i _ rfl) ?_
              refine g_iload C dL_tick_334 rfl ?_
              refine g_if_eq C 344 dL_tick_336 (by decide) (fun _ => ?_) (fun c9 => absurd rfl c9)
              refine g_iconst C (-1) dL_tick_344 (by decide +kernel) ?_
              refine g_iast C 3 0 rfl rfl (16 + i) rfl (by omega) (by decide) (wQ cI uq qf ++ (wA cI u nc nw (tk + 1) z.2.2.2.2.2.1 z.2.2.2.2.2.2.1 z.2.2.2.2.2.2.2 mg pt bd cx cy ch rm on wx wy dm z.1 (upd z.2.1 i ((-1))) (upd z.2.2.1 i 0) z.2.2.2.1 z.2.2.2.2.1)) (by rw [uhA_4 (by omega)]; rfl) dL_tick_345 ?_
              refine g_iload C dL_tick_346 rfl ?_
              refine g_if_eq C 455 dL_tick_348 (by decide) (fun _ => ?_) (fun c9 => absurd rfl c9)
              refine g_w (ws' := (wQ cI uq qf ++ (wA cI u nc nw (tk + 1) ((fts on dm rm nc nw (fun u c => qf (4 * c + u)) mg pt bd (tk + 1) i z).2.2.2.2.2.1) ((fts on dm rm nc nw (fun u c => qf (4 * c + u)) mg pt bd (tk + 1) i z).2.2.2.2.2.2.1) ((fts on dm rm nc nw (fun u c => qf (4 * c + u)) mg pt bd (tk + 1) i z).2.2.2.2.2.2.2) mg pt bd cx cy ch rm on wx wy dm ((fts on dm rm nc nw (fun u c => qf (4 * c + u)) mg pt bd (tk + 1) i z).1) ((fts on dm rm nc nw (fun u c => qf (4 * c + u)) mg pt bd (tk + 1) i z).2.1) ((fts on dm rm nc nw (fun u c => qf (4 * c + u)) mg pt bd (tk + 1) i z).2.2.1) ((fts on dm rm nc nw (fun u c => qf (4 * c + u)) mg pt bd (tk + 1) i z).2.2.2.1) ((fts on dm rm nc nw (fun u c => qf (4 * c + u)) mg pt bd (tk + 1) i z).2.2.2.2.1)))) (congrArg (fun T : TS => (wQ cI uq qf ++ (wA cI u nc nw (tk + 1) T.2.2.2.2.2.1 T.2.2.2.2.2.2.1 T.2.2.2.2.2.2.2 mg pt bd cx cy ch rm on wx wy dm T.1 T.2.1 T.2.2.1 T.2.2.2.1 T.2.2.2.2.1))) (ft_w1 (on := on) (dm := dm) (rm := rm) (nc := nc) (nw := nw) (QQ := (fun u c => qf (4 * c + u))) (mg := mg) (pt := pt) (bd := bd) (tk := tk + 1) (i := i) (z := z) hnow (by omega) c_204 (show fbo (fun u => ftk on z.1 dm rm nw i u) ((fun u c => qf (4 * c + u)) i) nc = some b by rw [d2, show t = nc by omega]) (Int32.not_le.mpr c_277)).symm) ?_
              refine g_iinc C (nI (i + 1)) [some (.ref (u 0)), some (.ref (u 1)), some (.ref (u 2)), some (.ref uq), some (.int (nI (i + 1))), some (.int (nI ks)), some (.int (nI b)), some (.int 0), none] dL_tick_455 rfl (nI_1 i) (by decide) rfl rfl ?_
              refine g_goto C 22 dL_tick_458 (by decide) ?_
              refine g_mask [true, true, true, true, true, false, false, false, false] rfl ?_
              exact ih (i + 1) (fts on dm rm nc nw (fun u c => qf (4 * c + u)) mg pt bd (tk + 1) i z) ⟨by omega, by rw [ftw, ← h2], fts_sv h3⟩ (by omega)
            · skip
              refine g_iconst C 1 dL_tick_280 (by decide +kernel) ?_
              refine g_goto C 285 dL_tick_281 (by decide) ?_
              refine g_istore C [some (.ref (u 0)), some (.ref (u 1)), some (.ref (u 2)), some (.ref uq), some (.int (nI i)), some (.int (nI ks)), some (.int (nI b)), some (.int 1), none] dL_tick_285 (by decide) rfl rfl ?_
              refine g_aload_n C dL_tick_287 rfl ?_
              refine g_bipush C 20 dL_tick_288 (by decide +kernel) ?_
              refine g_iload C dL_tick_290 rfl ?_
              refine g_iadd C (nI (20 + i)) dL_tick_292 (nI_k 20 i _ rfl) ?_
              refine g_iload C dL_tick_293 rfl ?_
              refine g_if_ne C 302 dL_tick_295 (by decide) (fun _ => ?_) (fun c9 => absurd c9 (by decide))
              refine g_aload_n C dL_tick_302 rfl ?_
              refine g_bipush C 16 dL_tick_303 (by decide +kernel) ?_
              refine g_iload C dL_tick_305 rfl ?_
              refine g_iadd C (nI (16 + i)) dL_tick_307 (nI_k 16 i _ rfl) ?_
              refine g_iald C 3 0 rfl rfl (16 + i) rfl (by omega) (by decide) (z.2.1 i) (hA_4 (by omega)) dL_tick_308 ?_
              refine g_iload C dL_tick_309 rfl ?_
              refine g_icmp_ne C 326 dL_tick_311 (by decide) (fun c_311 => ?_) (fun c_311 => ?_)
              · skip
                refine g_iconst C 1 dL_tick_326 (by decide +kernel) ?_
                refine g_iast C 3 0 rfl rfl (20 + i) rfl (by omega) (by decide) (wQ cI uq qf ++ (wA cI u nc nw (tk + 1) z.2.2.2.2.2.1 z.2.2.2.2.2.2.1 z.2.2.2.2.2.2.2 mg pt bd cx cy ch rm on wx wy dm z.1 z.2.1 (upd z.2.2.1 i 1) z.2.2.2.1 z.2.2.2.2.1)) (by rw [uhA_5 (by omega)]; rfl) dL_tick_327 ?_
                refine g_aload_n C dL_tick_328 rfl ?_
                refine g_bipush C 16 dL_tick_329 (by decide +kernel) ?_
                refine g_iload C dL_tick_331 rfl ?_
                refine g_iadd C (nI (16 + i)) dL_tick_333 (nI_k 16 i _ rfl) ?_
                refine g_iload C dL_tick_334 rfl ?_
                refine g_if_eq C 344 dL_tick_336 (by decide) (fun c9 => absurd c9 (by decide)) (fun _ => ?_)
                refine g_iload C dL_tick_339 rfl ?_
                refine g_goto C 345 dL_tick_341 (by decide) ?_
                refine g_iast C 3 0 rfl rfl (16 + i) rfl (by omega) (by decide) (wQ cI uq qf ++ (wA cI u nc nw (tk + 1) z.2.2.2.2.2.1 z.2.2.2.2.2.2.1 z.2.2.2.2.2.2.2 mg pt bd cx cy ch rm on wx wy dm z.1 (upd z.2.1 i (nI b)) (upd z.2.2.1 i 1) z.2.2.2.1 z.2.2.2.2.1)) (by rw [uhA_4 (by omega)]; rfl) dL_tick_345 ?_
                refine g_iload C dL_tick_346 rfl ?_
                refine g_if_eq C 455 dL_tick_348 (by decide) (fun c9 => absurd c9 (by decide)) (fun _ => ?_)
                refine g_aload_n C dL_tick_351 rfl ?_
                refine g_bipush C 20 dL_tick_352 (by decide +kernel) ?_
                refine g_iload C dL_tick_354 rfl ?_
                refine g_iadd C (nI (20 + i)) dL_tick_356 (nI_k 20 i _ rfl) ?_
                refine g_iald C 3 0 rfl rfl (20 + i) rfl (by omega) (by decide) 1 (by rw [hA_5 (by omega)]; exact upd_at) dL_tick_357 ?_
                refine g_aload_n C dL_tick_358 rfl ?_
                refine g_bipush C 7 dL_tick_359 (by decide +kernel) ?_
                refine g_iald C 1 0 rfl rfl 7 rfl (by omega) (by decide) pt rfl dL_tick_361 ?_
                refine g_icmp_lt C 455 dL_tick_362 (by decide) (fun c_362 => ?_) (fun c_362 => ?_)
                · skip
                  refine g_w (ws' := (wQ cI uq qf ++ (wA cI u nc nw (tk + 1) ((fts on dm rm nc nw (fun u c => qf (4 * c + u)) mg pt bd (tk + 1) i z).2.2.2.2.2.1) ((fts on dm rm nc nw (fun u c => qf (4 * c + u)) mg pt bd (tk + 1) i z).2.2.2.2.2.2.1) ((fts on dm rm nc nw (fun u c => qf (4 * c + u)) mg pt bd (tk + 1) i z).2.2.2.2.2.2.2) mg pt bd cx cy ch rm on wx wy dm ((fts on dm rm nc nw (fun u c => qf (4 * c + u)) mg pt bd (tk + 1) i z).1) ((fts on dm rm nc nw (fun u c => qf (4 * c + u)) mg pt bd (tk + 1) i z).2.1) ((fts on dm rm nc nw (fun u c => qf (4 * c + u)) mg pt bd (tk + 1) i z).2.2.1) ((fts on dm rm nc nw (fun u c => qf (4 * c + u)) mg pt bd (tk + 1) i z).2.2.2.1) ((fts on dm rm nc nw (fun u c => qf (4 * c + u)) mg pt bd (tk + 1) i z).2.2.2.2.1)))) (congrArg (fun T : TS => (wQ cI uq qf ++ (wA cI u nc nw (tk + 1) T.2.2.2.2.2.1 T.2.2.2.2.2.2.1 T.2.2.2.2.2.2.2 mg pt bd cx cy ch rm on wx wy dm T.1 T.2.1 T.2.2.1 T.2.2.2.1 T.2.2.2.2.1))) (ft_w2 (on := on) (dm := dm) (rm := rm) (nc := nc) (nw := nw) (QQ := (fun u c => qf (4 * c + u))) (mg := mg) (pt := pt) (bd := bd) (tk := tk + 1) (i := i) (z := z) hnow (by omega) c_204 (show fbo (fun u => ftk on z.1 dm rm nw i u) ((fun u c => qf (4 * c + u)) i) nc = some b by rw [d2, show t = nc by omega]) (Int32.not_lt.mp c_277) (fhe_n c_311) c_362).symm) ?_
                  refine g_iinc C (nI (i + 1)) [some (.ref (u 0)), some (.ref (u 1)), some (.ref (u 2)), some (.ref uq), some (.int (nI (i + 1))), some (.int (nI ks)), some (.int (nI b)), some (.int 1), none] dL_tick_455 rfl (nI_1 i) (by decide) rfl rfl ?_
                  refine g_goto C 22 dL_tick_458 (by decide) ?_
                  refine g_mask [true, true, true, true, true, false, false, false, false] rfl ?_
                  exact ih (i + 1) (fts on dm rm nc nw (fun u c => qf (4 * c + u)) mg pt bd (tk + 1) i z) ⟨by omega, by rw [ftw, ← h2], fts_sv h3⟩ (by omega)
                · skip
                  refine g_aload_n C dL_tick_365 rfl ?_
                  refine g_iconst C 3 dL_tick_366 (by decide +kernel) ?_
                  refine g_dup2 C dL_tick_367 rfl rfl ?_
                  refine g_iald C 1 0 rfl rfl 3 rfl (by omega) (by decide) z.2.2.2.2.2.1 rfl dL_tick_368 ?_
                  refine g_iconst C 1 dL_tick_369 (by decide +kernel) ?_
                  refine g_iadd C (z.2.2.2.2.2.1 + 1) dL_tick_370 rfl ?_
                  refine g_iast C 1 0 rfl rfl 3 rfl (by omega) (by decide) (wQ cI uq qf ++ (wA cI u nc nw (tk + 1) (z.2.2.2.2.2.1 + 1) z.2.2.2.2.2.2.1 z.2.2.2.2.2.2.2 mg pt bd cx cy ch rm on wx wy dm z.1 (upd z.2.1 i (nI b)) (upd z.2.2.1 i 1) z.2.2.2.1 z.2.2.2.2.1)) (by rw [uc_3]; rfl) dL_tick_371 ?_
                  refine g_aload_n C dL_tick_372 rfl ?_
                  refine g_iconst C 4 dL_tick_373 (by decide +kernel) ?_
                  refine g_dup2 C dL_tick_374 rfl rfl ?_
                  refine g_iald C 1 0 rfl rfl 4 rfl (by omega) (by decide) z.2.2.2.2.2.2.1 rfl dL_tick_375 ?_
                  refine g_aload_n C dL_tick_376 rfl ?_
                  refine g_bipush C 24 dL_tick_377 (by decide +kernel) ?_
                  refine g_iload C dL_tick_379 rfl ?_
                  refine g_iadd C (nI (24 + i)) dL_tick_381 (nI_k 24 i _ rfl) ?_
                  refine g_iald C 3 0 rfl rfl (24 + i) rfl (by omega) (by decide) (z.2.2.2.1 i) (hA_6 (by omega)) dL_tick_382 ?_
                  refine g_iload C dL_tick_383 rfl ?_
                  refine g_icmp_ne C 408 dL_tick_385 (by decide) (fun c_385 => ?_) (fun c_385 => ?_)
                  · skip
                    refine g_iconst C 0 dL_tick_408 (by decide +kernel) ?_
                    refine g_iadd C z.2.2.2.2.2.2.1 dL_tick_409 (Int32.add_zero _) ?_
                    refine g_iast C 1 0 rfl rfl 4 rfl (by omega) (by decide) (wQ cI uq qf ++ (wA cI u nc nw (tk + 1) (z.2.2.2.2.2.1 + 1) z.2.2.2.2.2.2.1 z.2.2.2.2.2.2.2 mg pt bd cx cy ch rm on wx wy dm z.1 (upd z.2.1 i (nI b)) (upd z.2.2.1 i 1) z.2.2.2.1 z.2.2.2.2.1)) (by rw [uc_4]; rfl) dL_tick_410 ?_
                    refine g_aload_n C dL_tick_411 rfl ?_
                    refine g_bipush C 24 dL_tick_412 (by decide +kernel) ?_
                    refine g_iload C dL_tick_414 rfl ?_
                    refine g_iadd C (nI (24 + i)) dL_tick_416 (nI_k 24 i _ rfl) ?_
                    refine g_iload C dL_tick_417 rfl ?_
                    refine g_iast C 3 0 rfl rfl (24 + i) rfl (by omega) (by decide) (wQ cI uq qf ++ (wA cI u nc nw (tk + 1) (z.2.2.2.2.2.1 + 1) z.2.2.2.2.2.2.1 z.2.2.2.2.2.2.2 mg pt bd cx cy ch rm on wx wy dm z.1 (upd z.2.1 i (nI b)) (upd z.2.2.1 i 1) (upd z.2.2.2.1 i (nI ks)) z.2.2.2.2.1)) (by rw [uhA_6 (by omega)]; rfl) dL_tick_419 ?_
                    refine g_aload_n C dL_tick_420 rfl ?_
                    refine g_bipush C 28 dL_tick_421 (by decide +kernel) ?_
                    refine g_iload C dL_tick_423 rfl ?_
                    refine g_iadd C (nI (28 + i)) dL_tick_425 (nI_k 28 i _ rfl) ?_
                    refine g_aload_n C dL_tick_426 rfl ?_
                    refine g_iconst C 2 dL_tick_427 (by decide +kernel) ?_
                    refine g_iald C 1 0 rfl rfl 2 rfl (by omega) (by decide) (tk + 1) rfl dL_tick_428 ?_
                    refine g_iast C 3 0 rfl rfl (28 + i) rfl (by omega) (by decide) (wQ cI uq qf ++ (wA cI u nc nw (tk + 1) (z.2.2.2.2.2.1 + 1) z.2.2.2.2.2.2.1 z.2.2.2.2.2.2.2 mg pt bd cx cy ch rm on wx wy dm z.1 (upd z.2.1 i (nI b)) (upd z.2.2.1 i 1) (upd z.2.2.2.1 i (nI ks)) (upd z.2.2.2.2.1 i (tk + 1)))) (by rw [uhA_7 (by omega)]; rfl) dL_tick_429 ?_
                    refine g_aload_n C dL_tick_430 rfl ?_
                    refine g_bipush C 12 dL_tick_431 (by decide +kernel) ?_
                    refine g_iload C dL_tick_433 rfl ?_
                    refine g_iadd C (nI (12 + i)) dL_tick_435 (nI_k 12 i _ rfl) ?_
                    refine g_iload C dL_tick_436 rfl ?_
                    refine g_iast C 3 0 rfl rfl (12 + i) rfl (by omega) (by decide) (wQ cI uq qf ++ (wA cI u nc nw (tk + 1) (z.2.2.2.2.2.1 + 1) z.2.2.2.2.2.2.1 z.2.2.2.2.2.2.2 mg pt bd cx cy ch rm on wx wy dm (upd z.1 i (nI b)) (upd z.2.1 i (nI b)) (upd z.2.2.1 i 1) (upd z.2.2.2.1 i (nI ks)) (upd z.2.2.2.2.1 i (tk + 1)))) (by rw [uhA_3 (by omega)]; rfl) dL_tick_438 ?_
                    refine g_aload_n C dL_tick_439 rfl ?_
                    refine g_bipush C 16 dL_tick_440 (by decide +kernel) ?_
                    refine g_iload C dL_tick_442 rfl ?_
                    refine g_iadd C (nI (16 + i)) dL_tick_444 (nI_k 16 i _ rfl) ?_
                    refine g_iconst C (-1) dL_tick_445 (by decide +kernel) ?_
                    refine g_iast C 3 0 rfl rfl (16 + i) rfl (by omega) (by decide) (wQ cI uq qf ++ (wA cI u nc nw (tk + 1) (z.2.2.2.2.2.1 + 1) z.2.2.2.2.2.2.1 z.2.2.2.2.2.2.2 mg pt bd cx cy ch rm on wx wy dm (upd z.1 i (nI b)) (upd (upd z.2.1 i (nI b)) i ((-1))) (upd z.2.2.1 i 1) (upd z.2.2.2.1 i (nI ks)) (upd z.2.2.2.2.1 i (tk + 1)))) (by rw [uhA_4 (by omega)]; rfl) dL_tick_446 ?_
                    refine g_aload_n C dL_tick_447 rfl ?_
                    refine g_bipush C 20 dL_tick_448 (by decide +kernel) ?_
                    refine g_iload C dL_tick_450 rfl ?_
                    refine g_iadd C (nI (20 + i)) dL_tick_452 (nI_k 20 i _ rfl) ?_
                    refine g_iconst C 0 dL_tick_453 (by decide +kernel) ?_
                    refine g_iast C 3 0 rfl rfl (20 + i) rfl (by omega) (by decide) (wQ cI uq qf ++ (wA cI u nc nw (tk + 1) (z.2.2.2.2.2.1 + 1) z.2.2.2.2.2.2.1 z.2.2.2.2.2.2.2 mg pt bd cx cy ch rm on wx wy dm (upd z.1 i (nI b)) (upd (upd z.2.1 i (nI b)) i ((-1))) (upd (upd z.2.2.1 i 1) i 0) (upd z.2.2.2.1 i (nI ks)) (upd z.2.2.2.2.1 i (tk + 1)))) (by rw [uhA_5 (by omega)]; rfl) dL_tick_454 ?_
                    refine g_w (ws' := (wQ cI uq qf ++ (wA cI u nc nw (tk + 1) ((fts on dm rm nc nw (fun u c => qf (4 * c + u)) mg pt bd (tk + 1) i z).2.2.2.2.2.1) ((fts on dm rm nc nw (fun u c => qf (4 * c + u)) mg pt bd (tk + 1) i z).2.2.2.2.2.2.1) ((fts on dm rm nc nw (fun u c => qf (4 * c + u)) mg pt bd (tk + 1) i z).2.2.2.2.2.2.2) mg pt bd cx cy ch rm on wx wy dm ((fts on dm rm nc nw (fun u c => qf (4 * c + u)) mg pt bd (tk + 1) i z).1) ((fts on dm rm nc nw (fun u c => qf (4 * c + u)) mg pt bd (tk + 1) i z).2.1) ((fts on dm rm nc nw (fun u c => qf (4 * c + u)) mg pt bd (tk + 1) i z).2.2.1) ((fts on dm rm nc nw (fun u c => qf (4 * c + u)) mg pt bd (tk + 1) i z).2.2.2.1) ((fts on dm rm nc nw (fun u c => qf (4 * c + u)) mg pt bd (tk + 1) i z).2.2.2.2.1)))) (congrArg (fun T : TS => (wQ cI uq qf ++ (wA cI u nc nw (tk + 1) T.2.2.2.2.2.1 T.2.2.2.2.2.2.1 T.2.2.2.2.2.2.2 mg pt bd cx cy ch rm on wx wy dm T.1 T.2.1 T.2.2.1 T.2.2.2.1 T.2.2.2.2.1))) (ft_w3 (on := on) (dm := dm) (rm := rm) (nc := nc) (nw := nw) (QQ := (fun u c => qf (4 * c + u))) (mg := mg) (pt := pt) (bd := bd) (tk := tk + 1) (i := i) (z := z) hnow (by omega) c_204 (show fbo (fun u => ftk on z.1 dm rm nw i u) ((fun u c => qf (4 * c + u)) i) nc = some b by rw [d2, show t = nc by omega]) (Int32.not_lt.mp c_277) (fhe_n c_311) c_362 (frg_n c_385)).symm) ?_
                    refine g_iinc C (nI (i + 1)) [some (.ref (u 0)), some (.ref (u 1)), some (.ref (u 2)), some (.ref uq), some (.int (nI (i + 1))), some (.int (nI ks)), some (.int (nI b)), some (.int 1), none] dL_tick_455 rfl (nI_1 i) (by decide) rfl rfl ?_
                    refine g_goto C 22 dL_tick_458 (by decide) ?_
                    refine g_mask [true, true, true, true, true, false, false, false, false] rfl ?_
                    exact ih (i + 1) (fts on dm rm nc nw (fun u c => qf (4 * c + u)) mg pt bd (tk + 1) i z) ⟨by omega, by rw [ftw, ← h2], fts_sv h3⟩ (by omega)
                  · skip
                    refine g_aload_n C dL_tick_388 rfl ?_
                    refine g_iconst C 2 dL_tick_389 (by decide +kernel) ?_
                    refine g_iald C 1 0 rfl rfl 2 rfl (by omega) (by decide) (tk + 1) rfl dL_tick_390 ?_
                    refine g_aload_n C dL_tick_391 rfl ?_
                    refine g_bipush C 28 dL_tick_392 (by decide +kernel) ?_
                    refine g_iload C dL_tick_394 rfl ?_
                    refine g_iadd C (nI (28 + i)) dL_tick_396 (nI_k 28 i _ rfl) ?_
                    refine g_iald C 3 0 rfl rfl (28 + i) rfl (by omega) (by decide) (z.2.2.2.2.1 i) (hA_7 (by omega)) dL_tick_397 ?_
                    refine g_isub C ((tk + 1) - (z.2.2.2.2.1 i)) dL_tick_398 rfl ?_
                    refine g_bipush C 6 dL_tick_399 (by decide +kernel) ?_
                    refine g_icmp_ge C 408 dL_tick_401 (by decide) (fun c_401 => ?_) (fun c_401 => ?_)
                    · skip
                      refine g_iconst C 0 dL_tick_408 (by decide +kernel) ?_
                      refine g_iadd C z.2.2.2.2.2.2.1 dL_tick_409 (Int32.add_zero _) ?_
                      refine g_iast C 1 0 rfl rfl 4 rfl (by omega) (by decide) (wQ cI uq qf ++ (wA cI u nc nw (tk + 1) (z.2.2.2.2.2.1 + 1) z.2.2.2.2.2.2.1 z.2.2.2.2.2.2.2 mg pt bd cx cy ch rm on wx wy dm z.1 (upd z.2.1 i (nI b)) (upd z.2.2.1 i 1) z.2.2.2.1 z.2.2.2.2.1)) (by rw [uc_4]; rfl) dL_tick_410 ?_
                      refine g_aload_n C dL_tick_411 rfl ?_
                      refine g_bipush C 24 dL_tick_412 (by decide +kernel) ?_
                      refine g_iload C dL_tick_414 rfl ?_
                      refine g_iadd C (nI (24 + i)) dL_tick_416 (nI_k 24 i _ rfl) ?_
                      refine g_iload C dL_tick_417 rfl ?_
                      refine g_iast C 3 0 rfl rfl (24 + i) rfl (by omega) (by decide) (wQ cI uq qf ++ (wA cI u nc nw (tk + 1) (z.2.2.2.2.2.1 + 1) z.2.2.2.2.2.2.1 z.2.2.2.2.2.2.2 mg pt bd cx cy ch rm on wx wy dm z.1 (upd z.2.1 i (nI b)) (upd z.2.2.1 i 1) (upd z.2.2.2.1 i (nI ks)) z.2.2.2.2.1)) (by rw [uhA_6 (by omega)]; rfl) dL_tick_419 ?_
                      refine g_aload_n C dL_tick_420 rfl ?_
                      refine g_bipush C 28 dL_tick_421 (by decide +kernel) ?_
                      refine g_iload C dL_tick_423 rfl ?_
                      refine g_iadd C (nI (28 + i)) dL_tick_425 (nI_k 28 i _ rfl) ?_
                      refine g_aload_n C dL_tick_426 rfl ?_
                      refine g_iconst C 2 dL_tick_427 (by decide +kernel) ?_
                      refine g_iald C 1 0 rfl rfl 2 rfl (by omega) (by decide) (tk + 1) rfl dL_tick_428 ?_
                      refine g_iast C 3 0 rfl rfl (28 + i) rfl (by omega) (by decide) (wQ cI uq qf ++ (wA cI u nc nw (tk + 1) (z.2.2.2.2.2.1 + 1) z.2.2.2.2.2.2.1 z.2.2.2.2.2.2.2 mg pt bd cx cy ch rm on wx wy dm z.1 (upd z.2.1 i (nI b)) (upd z.2.2.1 i 1) (upd z.2.2.2.1 i (nI ks)) (upd z.2.2.2.2.1 i (tk + 1)))) (by rw [uhA_7 (by omega)]; rfl) dL_tick_429 ?_
                      refine g_aload_n C dL_tick_430 rfl ?_
                      refine g_bipush C 12 dL_tick_431 (by decide +kernel) ?_
                      refine g_iload C dL_tick_433 rfl ?_
                      refine g_iadd C (nI (12 + i)) dL_tick_435 (nI_k 12 i _ rfl) ?_
                      refine g_iload C dL_tick_436 rfl ?_
                      refine g_iast C 3 0 rfl rfl (12 + i) rfl (by omega) (by decide) (wQ cI uq qf ++ (wA cI u nc nw (tk + 1) (z.2.2.2.2.2.1 + 1) z.2.2.2.2.2.2.1 z.2.2.2.2.2.2.2 mg pt bd cx cy ch rm on wx wy dm (upd z.1 i (nI b)) (upd z.2.1 i (nI b)) (upd z.2.2.1 i 1) (upd z.2.2.2.1 i (nI ks)) (upd z.2.2.2.2.1 i (tk + 1)))) (by rw [uhA_3 (by omega)]; rfl) dL_tick_438 ?_
                      refine g_aload_n C dL_tick_439 rfl ?_
                      refine g_bipush C 16 dL_tick_440 (by decide +kernel) ?_
                      refine g_iload C dL_tick_442 rfl ?_
                      refine g_iadd C (nI (16 + i)) dL_tick_444 (nI_k 16 i _ rfl) ?_
                      refine g_iconst C (-1) dL_tick_445 (by decide +kernel) ?_
                      refine g_iast C 3 0 rfl rfl (16 + i) rfl (by omega) (by decide) (wQ cI uq qf ++ (wA cI u nc nw (tk + 1) (z.2.2.2.2.2.1 + 1) z.2.2.2.2.2.2.1 z.2.2.2.2.2.2.2 mg pt bd cx cy ch rm on wx wy dm (upd z.1 i (nI b)) (upd (upd z.2.1 i (nI b)) i ((-1))) (upd z.2.2.1 i 1) (upd z.2.2.2.1 i (nI ks)) (upd z.2.2.2.2.1 i (tk + 1)))) (by rw [uhA_4 (by omega)]; rfl) dL_tick_446 ?_
                      refine g_aload_n C dL_tick_447 rfl ?_
                      refine g_bipush C 20 dL_tick_448 (by decide +kernel) ?_
                      refine g_iload C dL_tick_450 rfl ?_
                      refine g_iadd C (nI (20 + i)) dL_tick_452 (nI_k 20 i _ rfl) ?_
                      refine g_iconst C 0 dL_tick_453 (by decide +kernel) ?_
                      refine g_iast C 3 0 rfl rfl (20 + i) rfl (by omega) (by decide) (wQ cI uq qf ++ (wA cI u nc nw (tk + 1) (z.2.2.2.2.2.1 + 1) z.2.2.2.2.2.2.1 z.2.2.2.2.2.2.2 mg pt bd cx cy ch rm on wx wy dm (upd z.1 i (nI b)) (upd (upd z.2.1 i (nI b)) i ((-1))) (upd (upd z.2.2.1 i 1) i 0) (upd z.2.2.2.1 i (nI ks)) (upd z.2.2.2.2.1 i (tk + 1)))) (by rw [uhA_5 (by omega)]; rfl) dL_tick_454 ?_
                      refine g_w (ws' := (wQ cI uq qf ++ (wA cI u nc nw (tk + 1) ((fts on dm rm nc nw (fun u c => qf (4 * c + u)) mg pt bd (tk + 1) i z).2.2.2.2.2.1) ((fts on dm rm nc nw (fun u c => qf (4 * c + u)) mg pt bd (tk + 1) i z).2.2.2.2.2.2.1) ((fts on dm rm nc nw (fun u c => qf (4 * c + u)) mg pt bd (tk + 1) i z).2.2.2.2.2.2.2) mg pt bd cx cy ch rm on wx wy dm ((fts on dm rm nc nw (fun u c => qf (4 * c + u)) mg pt bd (tk + 1) i z).1) ((fts on dm rm nc nw (fun u c => qf (4 * c + u)) mg pt bd (tk + 1) i z).2.1) ((fts on dm rm nc nw (fun u c => qf (4 * c + u)) mg pt bd (tk + 1) i z).2.2.1) ((fts on dm rm nc nw (fun u c => qf (4 * c + u)) mg pt bd (tk + 1) i z).2.2.2.1) ((fts on dm rm nc nw (fun u c => qf (4 * c + u)) mg pt bd (tk + 1) i z).2.2.2.2.1)))) (congrArg (fun T : TS => (wQ cI uq qf ++ (wA cI u nc nw (tk + 1) T.2.2.2.2.2.1 T.2.2.2.2.2.2.1 T.2.2.2.2.2.2.2 mg pt bd cx cy ch rm on wx wy dm T.1 T.2.1 T.2.2.1 T.2.2.2.1 T.2.2.2.2.1))) (ft_w3 (on := on) (dm := dm) (rm := rm) (nc := nc) (nw := nw) (QQ := (fun u c => qf (4 * c + u))) (mg := mg) (pt := pt) (bd := bd) (tk := tk + 1) (i := i) (z := z) hnow (by omega) c_204 (show fbo (fun u => ftk on z.1 dm rm nw i u) ((fun u c => qf (4 * c + u)) i) nc = some b by rw [d2, show t = nc by omega]) (Int32.not_lt.mp c_277) (fhe_n c_311) c_362 (frg_o c_401)).symm) ?_
                      refine g_iinc C (nI (i + 1)) [some (.ref (u 0)), some (.ref (u 1)), some (.ref (u 2)), some (.ref uq), some (.int (nI (i + 1))), some (.int (nI ks)), some (.int (nI b)), some (.int 1), none] dL_tick_455 rfl (nI_1 i) (by decide) rfl rfl ?_
                      refine g_goto C 22 dL_tick_458 (by decide) ?_
                      refine g_mask [true, true, true, true, true, false, false, false, false] rfl ?_
                      exact ih (i + 1) (fts on dm rm nc nw (fun u c => qf (4 * c + u)) mg pt bd (tk + 1) i z) ⟨by omega, by rw [ftw, ← h2], fts_sv h3⟩ (by omega)
                    · skip
                      refine g_iconst C 1 dL_tick_404 (by decide +kernel) ?_
                      refine g_goto C 409 dL_tick_405 (by decide) ?_
                      refine g_iadd C (z.2.2.2.2.2.2.1 + 1) dL_tick_409 rfl ?_
                      refine g_iast C 1 0 rfl rfl 4 rfl (by omega) (by decide) (wQ cI uq qf ++ (wA cI u nc nw (tk + 1) (z.2.2.2.2.2.1 + 1) (z.2.2.2.2.2.2.1 + 1) z.2.2.2.2.2.2.2 mg pt bd cx cy ch rm on wx wy dm z.1 (upd z.2.1 i (nI b)) (upd z.2.2.1 i 1) z.2.2.2.1 z.2.2.2.2.1)) (by rw [uc_4]; rfl) dL_tick_410 ?_
                      refine g_aload_n C dL_tick_411 rfl ?_
                      refine g_bipush C 24 dL_tick_412 (by decide +kernel) ?_
                      refine g_iload C dL_tick_414 rfl ?_
                      refine g_iadd C (nI (24 + i)) dL_tick_416 (nI_k 24 i _ rfl) ?_
                      refine g_iload C dL_tick_417 rfl ?_
                      refine g_iast C 3 0 rfl rfl (24 + i) rfl (by omega) (by decide) (wQ cI uq qf ++ (wA cI u nc nw (tk + 1) (z.2.2.2.2.2.1 + 1) (z.2.2.2.2.2.2.1 + 1) z.2.2.2.2.2.2.2 mg pt bd cx cy ch rm on wx wy dm z.1 (upd z.2.1 i (nI b)) (upd z.2.2.1 i 1) (upd z.2.2.2.1 i (nI ks)) z.2.2.2.2.1)) (by rw [uhA_6 (by omega)]; rfl) dL_tick_419 ?_
                      refine g_aload_n C dL_tick_420 rfl ?_
                      refine g_bipush C 28 dL_tick_421 (by decide +kernel) ?_
                      refine g_iload C dL_tick_423 rfl ?_
                      refine g_iadd C (nI (28 + i)) dL_tick_425 (nI_k 28 i _ rfl) ?_
                      refine g_aload_n C dL_tick_426 rfl ?_
                      refine g_iconst C 2 dL_tick_427 (by decide +kernel) ?_
                      refine g_iald C 1 0 rfl rfl 2 rfl (by omega) (by decide) (tk + 1) rfl dL_tick_428 ?_
                      refine g_iast C 3 0 rfl rfl (28 + i) rfl (by omega) (by decide) (wQ cI uq qf ++ (wA cI u nc nw (tk + 1) (z.2.2.2.2.2.1 + 1) (z.2.2.2.2.2.2.1 + 1) z.2.2.2.2.2.2.2 mg pt bd cx cy ch rm on wx wy dm z.1 (upd z.2.1 i (nI b)) (upd z.2.2.1 i 1) (upd z.2.2.2.1 i (nI ks)) (upd z.2.2.2.2.1 i (tk + 1)))) (by rw [uhA_7 (by omega)]; rfl) dL_tick_429 ?_
                      refine g_aload_n C dL_tick_430 rfl ?_
                      refine g_bipush C 12 dL_tick_431 (by decide +kernel) ?_
                      refine g_iload C dL_tick_433 rfl ?_
                      refine g_iadd C (nI (12 + i)) dL_tick_435 (nI_k 12 i _ rfl) ?_
                      refine g_iload C dL_tick_436 rfl ?_
                      refine g_iast C 3 0 rfl rfl (12 + i) rfl (by omega) (by decide) (wQ cI uq qf ++ (wA cI u nc nw (tk + 1) (z.2.2.2.2.2.1 + 1) (z.2.2.2.2.2.2.1 + 1) z.2.2.2.2.2.2.2 mg pt bd cx cy ch rm on wx wy dm (upd z.1 i (nI b)) (upd z.2.1 i (nI b)) (upd z.2.2.1 i 1) (upd z.2.2.2.1 i (nI ks)) (upd z.2.2.2.2.1 i (tk + 1)))) (by rw [uhA_3 (by omega)]; rfl) dL_tick_438 ?_
                      refine g_aload_n C dL_tick_439 rfl ?_
                      refine g_bipush C 16 dL_tick_440 (by decide +kernel) ?_
                      refine g_iload C dL_tick_442 rfl ?_
                      refine g_iadd C (nI (16 + i)) dL_tick_444 (nI_k 16 i _ rfl) ?_
                      refine g_iconst C (-1) dL_tick_445 (by decide +kernel) ?_
                      refine g_iast C 3 0 rfl rfl (16 + i) rfl (by omega) (by decide) (wQ cI uq qf ++ (wA cI u nc nw (tk + 1) (z.2.2.2.2.2.1 + 1) (z.2.2.2.2.2.2.1 + 1) z.2.2.2.2.2.2.2 mg pt bd cx cy ch rm on wx wy dm (upd z.1 i (nI b)) (upd (upd z.2.1 i (nI b)) i ((-1))) (upd z.2.2.1 i 1) (upd z.2.2.2.1 i (nI ks)) (upd z.2.2.2.2.1 i (tk + 1)))) (by rw [uhA_4 (by omega)]; rfl) dL_tick_446 ?_
                      refine g_aload_n C dL_tick_447 rfl ?_
                      refine g_bipush C 20 dL_tick_448 (by decide +kernel) ?_
                      refine g_iload C dL_tick_450 rfl ?_
                      refine g_iadd C (nI (20 + i)) dL_tick_452 (nI_k 20 i _ rfl) ?_
                      refine g_iconst C 0 dL_tick_453 (by decide +kernel) ?_
                      refine g_iast C 3 0 rfl rfl (20 + i) rfl (by omega) (by decide) (wQ cI uq qf ++ (wA cI u nc nw (tk + 1) (z.2.2.2.2.2.1 + 1) (z.2.2.2.2.2.2.1 + 1) z.2.2.2.2.2.2.2 mg pt bd cx cy ch rm on wx wy dm (upd z.1 i (nI b)) (upd (upd z.2.1 i (nI b)) i ((-1))) (upd (upd z.2.2.1 i 1) i 0) (upd z.2.2.2.1 i (nI ks)) (upd z.2.2.2.2.1 i (tk + 1)))) (by rw [uhA_5 (by omega)]; rfl) dL_tick_454 ?_
                      refine g_w (ws' := (wQ cI uq qf ++ (wA cI u nc nw (tk + 1) ((fts on dm rm nc nw (fun u c => qf (4 * c + u)) mg pt bd (tk + 1) i z).2.2.2.2.2.1) ((fts on dm rm nc nw (fun u c => qf (4 * c + u)) mg pt bd (tk + 1) i z).2.2.2.2.2.2.1) ((fts on dm rm nc nw (fun u c => qf (4 * c + u)) mg pt bd (tk + 1) i z).2.2.2.2.2.2.2) mg pt bd cx cy ch rm on wx wy dm ((fts on dm rm nc nw (fun u c => qf (4 * c + u)) mg pt bd (tk + 1) i z).1) ((fts on dm rm nc nw (fun u c => qf (4 * c + u)) mg pt bd (tk + 1) i z).2.1) ((fts on dm rm nc nw (fun u c => qf (4 * c + u)) mg pt bd (tk + 1) i z).2.2.1) ((fts on dm rm nc nw (fun u c => qf (4 * c + u)) mg pt bd (tk + 1) i z).2.2.2.1) ((fts on dm rm nc nw (fun u c => qf (4 * c + u)) mg pt bd (tk + 1) i z).2.2.2.2.1)))) (congrArg (fun T : TS => (wQ cI uq qf ++ (wA cI u nc nw (tk + 1) T.2.2.2.2.2.1 T.2.2.2.2.2.2.1 T.2.2.2.2.2.2.2 mg pt bd cx cy ch rm on wx wy dm T.1 T.2.1 T.2.2.1 T.2.2.2.1 T.2.2.2.2.1))) (ft_w3 (on := on) (dm := dm) (rm := rm) (nc := nc) (nw := nw) (QQ := (fun u c => qf (4 * c + u))) (mg := mg) (pt := pt) (bd := bd) (tk := tk + 1) (i := i) (z := z) hnow (by omega) c_204 (show fbo (fun u => ftk on z.1 dm rm nw i u) ((fun u c => qf (4 * c + u)) i) nc = some b by rw [d2, show t = nc by omega]) (Int32.not_lt.mp c_277) (fhe_n c_311) c_362 (frg_y c_385 (Int32.not_le.mp c_401))).symm) ?_
                      refine g_iinc C (nI (i + 1)) [some (.ref (u 0)), some (.ref (u 1)), some (.ref (u 2)), some (.ref uq), some (.int (nI (i + 1))), some (.int (nI ks)), some (.int (nI b)), some (.int 1), none] dL_tick_455 rfl (nI_1 i) (by decide) rfl rfl ?_
                      refine g_goto C 22 dL_tick_458 (by decide) ?_
                      refine g_mask [true, true, true, true, true, false, false, false, false] rfl ?_
                      exact ih (i + 1) (fts on dm rm nc nw (fun u c => qf (4 * c + u)) mg pt bd (tk + 1) i z) ⟨by omega, by rw [ftw, ← h2], fts_sv h3⟩ (by omega)
              · skip
                refine g_aload_n C dL_tick_314 rfl ?_
                refine g_bipush C 20 dL_tick_315 (by decide +kernel) ?_
                refine g_iload C dL_tick_317 rfl ?_
                refine g_iadd C (nI (20 + i)) dL_tick_319 (nI_k 20 i _ rfl) ?_
                refine g_iald C 3 0 rfl rfl (20 + i) rfl (by omega) (by decide) (z.2.2.1 i) (hA_5 (by omega)) dL_tick_320 ?_
                refine g_iconst C 1 dL_tick_321 (by decide +kernel) ?_
                refine g_iadd C ((z.2.2.1 i) + 1) dL_tick_322 rfl ?_
                refine g_goto C 327 dL_tick_323 (by decide) ?_
                refine g_iast C 3 0 rfl rfl (20 + i) rfl (by omega) (by decide) (wQ cI uq qf ++ (wA cI u nc nw (tk + 1) z.2.2.2.2.2.1 z.2.2.2.2.2.2.1 z.2.2.2.2.2.2.2 mg pt bd cx cy ch rm on wx wy dm z.1 z.2.1 (upd z.2.2.1 i ((z.2.2.1 i) + 1)) z.2.2.2.1 z.2.2.2.2.1)) (by rw [uhA_5 (by omega)]; rfl) dL_tick_327 ?_
                refine g_aload_n C dL_tick_328 rfl ?_
                refine g_bipush C 16 dL_tick_329 (by decide +kernel) ?_
                refine g_iload C dL_tick_331 rfl ?_
                refine g_iadd C (nI (16 + i)) dL_tick_333 (nI_k 16 i _ rfl) ?_
                refine g_iload C dL_tick_334 rfl ?_
                refine g_if_eq C 344 dL_tick_336 (by decide) (fun c9 => absurd c9 (by decide)) (fun _ => ?_)
                refine g_iload C dL_tick_339 rfl ?_
                refine g_goto C 345 dL_tick_341 (by decide) ?_
                refine g_iast C 3 0 rfl rfl (16 + i) rfl (by omega) (by decide) (wQ cI uq qf ++ (wA cI u nc nw (tk + 1) z.2.2.2.2.2.1 z.2.2.2.2.2.2.1 z.2.2.2.2.2.2.2 mg pt bd cx cy ch rm on wx wy dm z.1 (upd z.2.1 i (nI b)) (upd z.2.2.1 i ((z.2.2.1 i) + 1)) z.2.2.2.1 z.2.2.2.2.1)) (by rw [uhA_4 (by omega)]; rfl) dL_tick_345 ?_
                refine g_iload C dL_tick_346 rfl ?_
                refine g_if_eq C 455 dL_tick_348 (by decide) (fun c9 => absurd c9 (by decide)) (fun _ => ?_)
                refine g_aload_n C dL_tick_351 rfl ?_
                refine g_bipush C 20 dL_tick_352 (by decide +kernel) ?_
                refine g_iload C dL_tick_354 rfl ?_
                refine g_iadd C (nI (20 + i)) dL_tick_356 (nI_k 20 i _ rfl) ?_
                refine g_iald C 3 0 rfl rfl (20 + i) rfl (by omega) (by decide) ((z.2.2.1 i) + 1) (by rw [hA_5 (by omega)]; exact upd_at) dL_tick_357 ?_
                refine g_aload_n C dL_tick_358 rfl ?_
                refine g_bipush C 7 dL_tick_359 (by decide +kernel) ?_
                refine g_iald C 1 0 rfl rfl 7 rfl (by omega) (by decide) pt rfl dL_tick_361 ?_
                refine g_icmp_lt C 455 dL_tick_362 (by decide) (fun c_362 => ?_) (fun c_362 => ?_)
                · skip
                  refine g_w (ws' := (wQ cI uq qf ++ (wA cI u nc nw (tk + 1) ((fts on dm rm nc nw (fun u c => qf (4 * c + u)) mg pt bd (tk + 1) i z).2.2.2.2.2.1) ((fts on dm rm nc nw (fun u c => qf (4 * c + u)) mg pt bd (tk + 1) i z).2.2.2.2.2.2.1) ((fts on dm rm nc nw (fun u c => qf (4 * c + u)) mg pt bd (tk + 1) i z).2.2.2.2.2.2.2) mg pt bd cx cy ch rm on wx wy dm ((fts on dm rm nc nw (fun u c => qf (4 * c + u)) mg pt bd (tk + 1) i z).1) ((fts on dm rm nc nw (fun u c => qf (4 * c + u)) mg pt bd (tk + 1) i z).2.1) ((fts on dm rm nc nw (fun u c => qf (4 * c + u)) mg pt bd (tk + 1) i z).2.2.1) ((fts on dm rm nc nw (fun u c => qf (4 * c + u)) mg pt bd (tk + 1) i z).2.2.2.1) ((fts on dm rm nc nw (fun u c => qf (4 * c + u)) mg pt bd (tk + 1) i z).2.2.2.2.1)))) (congrArg (fun T : TS => (wQ cI uq qf ++ (wA cI u nc nw (tk + 1) T.2.2.2.2.2.1 T.2.2.2.2.2.2.1 T.2.2.2.2.2.2.2 mg pt bd cx cy ch rm on wx wy dm T.1 T.2.1 T.2.2.1 T.2.2.2.1 T.2.2.2.2.1))) (ft_w2 (on := on) (dm := dm) (rm := rm) (nc := nc) (nw := nw) (QQ := (fun u c => qf (4 * c + u))) (mg := mg) (pt := pt) (bd := bd) (tk := tk + 1) (i := i) (z := z) hnow (by omega) c_204 (show fbo (fun u => ftk on z.1 dm rm nw i u) ((fun u c => qf (4 * c + u)) i) nc = some b by rw [d2, show t = nc by omega]) (Int32.not_lt.mp c_277) (fhe_y c_311) c_362).symm) ?_
                  refine g_iinc C (nI (i + 1)) [some (.ref (u 0)), some (.ref (u 1)), some (.ref (u 2)), some (.ref uq), some (.int (nI (i + 1))), some (.int (nI ks)), some (.int (nI b)), some (.int 1), none] dL_tick_455 rfl (nI_1 i) (by decide) rfl rfl ?_
                  refine g_goto C 22 dL_tick_458 (by decide) ?_
                  refine g_mask [true, true, true, true, true, false, false, false, false] rfl ?_
                  exact ih (i + 1) (fts on dm rm nc nw (fun u c => qf (4 * c + u)) mg pt bd (tk + 1) i z) ⟨by omega, by rw [ftw, ← h2], fts_sv h3⟩ (by omega)
                · skip
                  refine g_aload_n C dL_tick_365 rfl ?_
                  refine g_iconst C 3 dL_tick_366 (by decide +kernel) ?_
                  refine g_dup2 C dL_tick_367 rfl rfl ?_
                  refine g_iald C 1 0 rfl rfl 3 rfl (by omega) (by decide) z.2.2.2.2.2.1 rfl dL_tick_368 ?_
                  refine g_iconst C 1 dL_tick_369 (by decide +kernel) ?_
                  refine g_iadd C (z.2.2.2.2.2.1 + 1) dL_tick_370 rfl ?_
                  refine g_iast C 1 0 rfl rfl 3 rfl (by omega) (by decide) (wQ cI uq qf ++ (wA cI u nc nw (tk + 1) (z.2.2.2.2.2.1 + 1) z.2.2.2.2.2.2.1 z.2.2.2.2.2.2.2 mg pt bd cx cy ch rm on wx wy dm z.1 (upd z.2.1 i (nI b)) (upd z.2.2.1 i ((z.2.2.1 i) + 1)) z.2.2.2.1 z.2.2.2.2.1)) (by rw [uc_3]; rfl) dL_tick_371 ?_
                  refine g_aload_n C dL_tick_372 rfl ?_
                  refine g_iconst C 4 dL_tick_373 (by decide +kernel) ?_
                  refine g_dup2 C dL_tick_374 rfl rfl ?_
                  refine g_iald C 1 0 rfl rfl 4 rfl (by omega) (by decide) z.2.2.2.2.2.2.1 rfl dL_tick_375 ?_
                  refine g_aload_n C dL_tick_376 rfl ?_
                  refine g_bipush C 24 dL_tick_377 (by decide +kernel) ?_
                  refine g_iload C dL_tick_379 rfl ?_
                  refine g_iadd C (nI (24 + i)) dL_tick_381 (nI_k 24 i _ rfl) ?_
                  refine g_iald C 3 0 rfl rfl (24 + i) rfl (by omega) (by decide) (z.2.2.2.1 i) (hA_6 (by omega)) dL_tick_382 ?_
                  refine g_iload C dL_tick_383 rfl ?_
                  refine g_icmp_ne C 408 dL_tick_385 (by decide) (fun c_385 => ?_) (fun c_385 => ?_)
                  · skip
                    refine g_iconst C 0 dL_tick_408 (by decide +kernel) ?_
                    refine g_iadd C z.2.2.2.2.2.2.1 dL_tick_409 (Int32.add_zero _) ?_
                    refine g_iast C 1 0 rfl rfl 4 rfl (by omega) (by decide) (wQ cI uq qf ++ (wA cI u nc nw (tk + 1) (z.2.2.2.2.2.1 + 1) z.2.2.2.2.2.2.1 z.2.2.2.2.2.2.2 mg pt bd cx cy ch rm on wx wy dm z.1 (upd z.2.1 i (nI b)) (upd z.2.2.1 i ((z.2.2.1 i) + 1)) z.2.2.2.1 z.2.2.2.2.1)) (by rw [uc_4]; rfl) dL_tick_410 ?_
                    refine g_aload_n C dL_tick_411 rfl ?_
                    refine g_bipush C 24 dL_tick_412 (by decide +kernel) ?_
                    refine g_iload C dL_tick_414 rfl ?_
                    refine g_iadd C (nI (24 + i)) dL_tick_416 (nI_k 24 i _ rfl) ?_
                    refine g_iload C dL_tick_417 rfl ?_
                    refine g_iast C 3 0 rfl rfl (24 + i) rfl (by omega) (by decide) (wQ cI uq qf ++ (wA cI u nc nw (tk + 1) (z.2.2.2.2.2.1 + 1) z.2.2.2.2.2.2.1 z.2.2.2.2.2.2.2 mg pt bd cx cy ch rm on wx wy dm z.1 (upd z.2.1 i (nI b)) (upd z.2.2.1 i ((z.2.2.1 i) + 1)) (upd z.2.2.2.1 i (nI ks)) z.2.2.2.2.1)) (by rw [uhA_6 (by omega)]; rfl) dL_tick_419 ?_
                    refine g_aload_n C dL_tick_420 rfl ?_
                    refine g_bipush C 28 dL_tick_421 (by decide +kernel) ?_
                    refine g_iload C dL_tick_423 rfl ?_
                    refine g_iadd C (nI (28 + i)) dL_tick_425 (nI_k 28 i _ rfl) ?_
                    refine g_aload_n C dL_tick_426 rfl ?_
                    refine g_iconst C 2 dL_tick_427 (by decide +kernel) ?_
                    refine g_iald C 1 0 rfl rfl 2 rfl (by omega) (by decide) (tk + 1) rfl dL_tick_428 ?_
                    refine g_iast C 3 0 rfl rfl (28 + i) rfl (by omega) (by decide) (wQ cI uq qf ++ (wA cI u nc nw (tk + 1) (z.2.2.2.2.2.1 + 1) z.2.2.2.2.2.2.1 z.2.2.2.2.2.2.2 mg pt bd cx cy ch rm on wx wy dm z.1 (upd z.2.1 i (nI b)) (upd z.2.2.1 i ((z.2.2.1 i) + 1)) (upd z.2.2.2.1 i (nI ks)) (upd z.2.2.2.2.1 i (tk + 1)))) (by rw [uhA_7 (by omega)]; rfl) dL_tick_429 ?_
                    refine g_aload_n C dL_tick_430 rfl ?_
                    refine g_bipush C 12 dL_tick_431 (by decide +kernel) ?_
                    refine g_iload C dL_tick_433 rfl ?_
                    refine g_iadd C (nI (12 + i)) dL_tick_435 (nI_k 12 i _ rfl) ?_
                    refine g_iload C dL_tick_436 rfl ?_
                    refine g_iast C 3 0 rfl rfl (12 + i) rfl (by omega) (by decide) (wQ cI uq qf ++ (wA cI u nc nw (tk + 1) (z.2.2.2.2.2.1 + 1) z.2.2.2.2.2.2.1 z.2.2.2.2.2.2.2 mg pt bd cx cy ch rm on wx wy dm (upd z.1 i (nI b)) (upd z.2.1 i (nI b)) (upd z.2.2.1 i ((z.2.2.1 i) + 1)) (upd z.2.2.2.1 i (nI ks)) (upd z.2.2.2.2.1 i (tk + 1)))) (by rw [uhA_3 (by omega)]; rfl) dL_tick_438 ?_
                    refine g_aload_n C dL_tick_439 rfl ?_
                    refine g_bipush C 16 dL_tick_440 (by decide +kernel) ?_
                    refine g_iload C dL_tick_442 rfl ?_
                    refine g_iadd C (nI (16 + i)) dL_tick_444 (nI_k 16 i _ rfl) ?_
                    refine g_iconst C (-1) dL_tick_445 (by decide +kernel) ?_
                    refine g_iast C 3 0 rfl rfl (16 + i) rfl (by omega) (by decide) (wQ cI uq qf ++ (wA cI u nc nw (tk + 1) (z.2.2.2.2.2.1 + 1) z.2.2.2.2.2.2.1 z.2.2.2.2.2.2.2 mg pt bd cx cy ch rm on wx wy dm (upd z.1 i (nI b)) (upd (upd z.2.1 i (nI b)) i ((-1))) (upd z.2.2.1 i ((z.2.2.1 i) + 1)) (upd z.2.2.2.1 i (nI ks)) (upd z.2.2.2.2.1 i (tk + 1)))) (by rw [uhA_4 (by omega)]; rfl) dL_tick_446 ?_
                    refine g_aload_n C dL_tick_447 rfl ?_
                    refine g_bipush C 20 dL_tick_448 (by decide +kernel) ?_
                    refine g_iload C dL_tick_450 rfl ?_
                    refine g_iadd C (nI (20 + i)) dL_tick_452 (nI_k 20 i _ rfl) ?_
                    refine g_iconst C 0 dL_tick_453 (by decide +kernel) ?_
                    refine g_iast C 3 0 rfl rfl (20 + i) rfl (by omega) (by decide) (wQ cI uq qf ++ (wA cI u nc nw (tk + 1) (z.2.2.2.2.2.1 + 1) z.2.2.2.2.2.2.1 z.2.2.2.2.2.2.2 mg pt bd cx cy ch rm on wx wy dm (upd z.1 i (nI b)) (upd (upd z.2.1 i (nI b)) i ((-1))) (upd (upd z.2.2.1 i ((z.2.2.1 i) + 1)) i 0) (upd z.2.2.2.1 i (nI ks)) (upd z.2.2.2.2.1 i (tk + 1)))) (by rw [uhA_5 (by omega)]; rfl) dL_tick_454 ?_
                    refine g_w (ws' := (wQ cI uq qf ++ (wA cI u nc nw (tk + 1) ((fts on dm rm nc nw (fun u c => qf (4 * c + u)) mg pt bd (tk + 1) i z).2.2.2.2.2.1) ((fts on dm rm nc nw (fun u c => qf (4 * c + u)) mg pt bd (tk + 1) i z).2.2.2.2.2.2.1) ((fts on dm rm nc nw (fun u c => qf (4 * c + u)) mg pt bd (tk + 1) i z).2.2.2.2.2.2.2) mg pt bd cx cy ch rm on wx wy dm ((fts on dm rm nc nw (fun u c => qf (4 * c + u)) mg pt bd (tk + 1) i z).1) ((fts on dm rm nc nw (fun u c => qf (4 * c + u)) mg pt bd (tk + 1) i z).2.1) ((fts on dm rm nc nw (fun u c => qf (4 * c + u)) mg pt bd (tk + 1) i z).2.2.1) ((fts on dm rm nc nw (fun u c => qf (4 * c + u)) mg pt bd (tk + 1) i z).2.2.2.1) ((fts on dm rm nc nw (fun u c => qf (4 * c + u)) mg pt bd (tk + 1) i z).2.2.2.2.1)))) (congrArg (fun T : TS => (wQ cI uq qf ++ (wA cI u nc nw (tk + 1) T.2.2.2.2.2.1 T.2.2.2.2.2.2.1 T.2.2.2.2.2.2.2 mg pt bd cx cy ch rm on wx wy dm T.1 T.2.1 T.2.2.1 T.2.2.2.1 T.2.2.2.2.1))) (ft_w3 (on := on) (dm := dm) (rm := rm) (nc := nc) (nw := nw) (QQ := (fun u c => qf (4 * c + u))) (mg := mg) (pt := pt) (bd := bd) (tk := tk + 1) (i := i) (z := z) hnow (by omega) c_204 (show fbo (fun u => ftk on z.1 dm rm nw i u) ((fun u c => qf (4 * c + u)) i) nc = some b by rw [d2, show t = nc by omega]) (Int32.not_lt.mp c_277) (fhe_y c_311) c_362 (frg_n c_385)).symm) ?_
                    refine g_iinc C (nI (i + 1)) [some (.ref (u 0)), some (.ref (u 1)), some (.ref (u 2)), some (.ref uq), some (.int (nI (i + 1))), some (.int (nI ks)), some (.int (nI b)), some (.int 1), none] dL_tick_455 rfl (nI_1 i) (by decide) rfl rfl ?_
                    refine g_goto C 22 dL_tick_458 (by decide) ?_
                    refine g_mask [true, true, true, true, true, false, false, false, false] rfl ?_
                    exact ih (i + 1) (fts on dm rm nc nw (fun u c => qf (4 * c + u)) mg pt bd (tk + 1) i z) ⟨by omega, by rw [ftw, ← h2], fts_sv h3⟩ (by omega)
                  · skip
                    refine g_aload_n C dL_tick_388 rfl ?_
                    refine g_iconst C 2 dL_tick_389 (by decide +kernel) ?_
                    refine g_iald C 1 0 rfl rfl 2 rfl (by omega) (by decide) (tk + 1) rfl dL_tick_390 ?_
                    refine g_aload_n C dL_tick_391 rfl ?_
                    refine g_bipush C 28 dL_tick_392 (by decide +kernel) ?_
                    refine g_iload C dL_tick_394 rfl ?_
                    refine g_iadd C (nI (28 + i)) dL_tick_396 (nI_k 28 i _ rfl) ?_
                    refine g_iald C 3 0 rfl rfl (28 + i) rfl (by omega) (by decide) (z.2.2.2.2.1 i) (hA_7 (by omega)) dL_tick_397 ?_
                    refine g_isub C ((tk + 1) - (z.2.2.2.2.1 i)) dL_tick_398 rfl ?_
                    refine g_bipush C 6 dL_tick_399 (by decide +kernel) ?_
                    refine g_icmp_ge C 408 dL_tick_401 (by decide) (fun c_401 => ?_) (fun c_401 => ?_)
                    · skip
                      refine g_iconst C 0 dL_tick_408 (by decide +kernel) ?_
                      refine g_iadd C z.2.2.2.2.2.2.1 dL_tick_409 (Int32.add_zero _) ?_
                      refine g_iast C 1 0 rfl rfl 4 rfl (by omega) (by decide) (wQ cI uq qf ++ (wA cI u nc nw (tk + 1) (z.2.2.2.2.2.1 + 1) z.2.2.2.2.2.2.1 z.2.2.2.2.2.2.2 mg pt bd cx cy ch rm on wx wy dm z.1 (upd z.2.1 i (nI b)) (upd z.2.2.1 i ((z.2.2.1 i) + 1)) z.2.2.2.1 z.2.2.2.2.1)) (by rw [uc_4]; rfl) dL_tick_410 ?_
                      refine g_aload_n C dL_tick_411 rfl ?_
                      refine g_bipush C 24 dL_tick_412 (by decide +kernel) ?_
                      refine g_iload C dL_tick_414 rfl ?_
                      refine g_iadd C (nI (24 + i)) dL_tick_416 (nI_k 24 i _ rfl) ?_
                      refine g_iload C dL_tick_417 rfl ?_
                      refine g_iast C 3 0 rfl rfl (24 + i) rfl (by omega) (by decide) (wQ cI uq qf ++ (wA cI u nc nw (tk + 1) (z.2.2.2.2.2.1 + 1) z.2.2.2.2.2.2.1 z.2.2.2.2.2.2.2 mg pt bd cx cy ch rm on wx wy dm z.1 (upd z.2.1 i (nI b)) (upd z.2.2.1 i ((z.2.2.1 i) + 1)) (upd z.2.2.2.1 i (nI ks)) z.2.2.2.2.1)) (by rw [uhA_6 (by omega)]; rfl) dL_tick_419 ?_
                      refine g_aload_n C dL_tick_420 rfl ?_
                      refine g_bipush C 28 dL_tick_421 (by decide +kernel) ?_
                      refine g_iload C dL_tick_423 rfl ?_
                      refine g_iadd C (nI (28 + i)) dL_tick_425 (nI_k 28 i _ rfl) ?_
                      refine g_aload_n C dL_tick_426 rfl ?_
                      refine g_iconst C 2 dL_tick_427 (by decide +kernel) ?_
                      refine g_iald C 1 0 rfl rfl 2 rfl (by omega) (by decide) (tk + 1) rfl dL_tick_428 ?_
                      refine g_iast C 3 0 rfl rfl (28 + i) rfl (by omega) (by decide) (wQ cI uq qf ++ (wA cI u nc nw (tk + 1) (z.2.2.2.2.2.1 + 1) z.2.2.2.2.2.2.1 z.2.2.2.2.2.2.2 mg pt bd cx cy ch rm on wx wy dm z.1 (upd z.2.1 i (nI b)) (upd z.2.2.1 i ((z.2.2.1 i) + 1)) (upd z.2.2.2.1 i (nI ks)) (upd z.2.2.2.2.1 i (tk + 1)))) (by rw [uhA_7 (by omega)]; rfl) dL_tick_429 ?_
                      refine g_aload_n C dL_tick_430 rfl ?_
                      refine g_bipush C 12 dL_tick_431 (by decide +kernel) ?_
                      refine g_iload C dL_tick_433 rfl ?_
                      refine g_iadd C (nI (12 + i)) dL_tick_435 (nI_k 12 i _ rfl) ?_
                      refine g_iload C dL_tick_436 rfl ?_
                      refine g_iast C 3 0 rfl rfl (12 + i) rfl (by omega) (by decide) (wQ cI uq qf ++ (wA cI u nc nw (tk + 1) (z.2.2.2.2.2.1 + 1) z.2.2.2.2.2.2.1 z.2.2.2.2.2.2.2 mg pt bd cx cy ch rm on wx wy dm (upd z.1 i (nI b)) (upd z.2.1 i (nI b)) (upd z.2.2.1 i ((z.2.2.1 i) + 1)) (upd z.2.2.2.1 i (nI ks)) (upd z.2.2.2.2.1 i (tk + 1)))) (by rw [uhA_3 (by omega)]; rfl) dL_tick_438 ?_
                      refine g_aload_n C dL_tick_439 rfl ?_
                      refine g_bipush C 16 dL_tick_440 (by decide +kernel) ?_
                      refine g_iload C dL_tick_442 rfl ?_
                      refine g_iadd C (nI (16 + i)) dL_tick_444 (nI_k 16 i _ rfl) ?_
                      refine g_iconst C (-1) dL_tick_445 (by decide +kernel) ?_
                      refine g_iast C 3 0 rfl rfl (16 + i) rfl (by omega) (by decide) (wQ cI uq qf ++ (wA cI u nc nw (tk + 1) (z.2.2.2.2.2.1 + 1) z.2.2.2.2.2.2.1 z.2.2.2.2.2.2.2 mg pt bd cx cy ch rm on wx wy dm (upd z.1 i (nI b)) (upd (upd z.2.1 i (nI b)) i ((-1))) (upd z.2.2.1 i ((z.2.2.1 i) + 1)) (upd z.2.2.2.1 i (nI ks)) (upd z.2.2.2.2.1 i (tk + 1)))) (by rw [uhA_4 (by omega)]; rfl) dL_tick_446 ?_
                      refine g_aload_n C dL_tick_447 rfl ?_
                      refine g_bipush C 20 dL_tick_448 (by decide +kernel) ?_
                      refine g_iload C dL_tick_450 rfl ?_
                      refine g_iadd C (nI (20 + i)) dL_tick_452 (nI_k 20 i _ rfl) ?_
                      refine g_iconst C 0 dL_tick_453 (by decide +kernel) ?_
                      refine g_iast C 3 0 rfl rfl (20 + i) rfl (by omega) (by decide) (wQ cI uq qf ++ (wA cI u nc nw (tk + 1) (z.2.2.2.2.2.1 + 1) z.2.2.2.2.2.2.1 z.2.2.2.2.2.2.2 mg pt bd cx cy ch rm on wx wy dm (upd z.1 i (nI b)) (upd (upd z.2.1 i (nI b)) i ((-1))) (upd (upd z.2.2.1 i ((z.2.2.1 i) + 1)) i 0) (upd z.2.2.2.1 i (nI ks)) (upd z.2.2.2.2.1 i (tk + 1)))) (by rw [uhA_5 (by omega)]; rfl) dL_tick_454 ?_
                      refine g_w (ws' := (wQ cI uq qf ++ (wA cI u nc nw (tk + 1) ((fts on dm rm nc nw (fun u c => qf (4 * c + u)) mg pt bd (tk + 1) i z).2.2.2.2.2.1) ((fts on dm rm nc nw (fun u c => qf (4 * c + u)) mg pt bd (tk + 1) i z).2.2.2.2.2.2.1) ((fts on dm rm nc nw (fun u c => qf (4 * c + u)) mg pt bd (tk + 1) i z).2.2.2.2.2.2.2) mg pt bd cx cy ch rm on wx wy dm ((fts on dm rm nc nw (fun u c => qf (4 * c + u)) mg pt bd (tk + 1) i z).1) ((fts on dm rm nc nw (fun u c => qf (4 * c + u)) mg pt bd (tk + 1) i z).2.1) ((fts on dm rm nc nw (fun u c => qf (4 * c + u)) mg pt bd (tk + 1) i z).2.2.1) ((fts on dm rm nc nw (fun u c => qf (4 * c + u)) mg pt bd (tk + 1) i z).2.2.2.1) ((fts on dm rm nc nw (fun u c => qf (4 * c + u)) mg pt bd (tk + 1) i z).2.2.2.2.1)))) (congrArg (fun T : TS => (wQ cI uq qf ++ (wA cI u nc nw (tk + 1) T.2.2.2.2.2.1 T.2.2.2.2.2.2.1 T.2.2.2.2.2.2.2 mg pt bd cx cy ch rm on wx wy dm T.1 T.2.1 T.2.2.1 T.2.2.2.1 T.2.2.2.2.1))) (ft_w3 (on := on) (dm := dm) (rm := rm) (nc := nc) (nw := nw) (QQ := (fun u c => qf (4 * c + u))) (mg := mg) (pt := pt) (bd := bd) (tk := tk + 1) (i := i) (z := z) hnow (by omega) c_204 (show fbo (fun u => ftk on z.1 dm rm nw i u) ((fun u c => qf (4 * c + u)) i) nc = some b by rw [d2, show t = nc by omega]) (Int32.not_lt.mp c_277) (fhe_y c_311) c_362 (frg_o c_401)).symm) ?_
                      refine g_iinc C (nI (i + 1)) [some (.ref (u 0)), some (.ref (u 1)), some (.ref (u 2)), some (.ref uq), some (.int (nI (i + 1))), some (.int (nI ks)), some (.int (nI b)), some (.int 1), none] dL_tick_455 rfl (nI_1 i) (by decide) rfl rfl ?_
                      refine g_goto C 22 dL_tick_458 (by decide) ?_
                      refine g_mask [true, true, true, true, true, false, false, false, false] rfl ?_
                      exact ih (i + 1) (fts on dm rm nc nw (fun u c => qf (4 * c + u)) mg pt bd (tk + 1) i z) ⟨by omega, by rw [ftw, ← h2], fts_sv h3⟩ (by omega)
                    · skip
                      refine g_iconst C 1 dL_tick_404 (by decide +kernel) ?_
                      refine g_goto C 409 dL_tick_405 (by decide) ?_
                      refine g_iadd C (z.2.2.2.2.2.2.1 + 1) dL_tick_409 rfl ?_
                      refine g_iast C 1 0 rfl rfl 4 rfl (by omega) (by decide) (wQ cI uq qf ++ (wA cI u nc nw (tk + 1) (z.2.2.2.2.2.1 + 1) (z.2.2.2.2.2.2.1 + 1) z.2.2.2.2.2.2.2 mg pt bd cx cy ch rm on wx wy dm z.1 (upd z.2.1 i (nI b)) (upd z.2.2.1 i ((z.2.2.1 i) + 1)) z.2.2.2.1 z.2.2.2.2.1)) (by rw [uc_4]; rfl) dL_tick_410 ?_
                      refine g_aload_n C dL_tick_411 rfl ?_
                      refine g_bipush C 24 dL_tick_412 (by decide +kernel) ?_
                      refine g_iload C dL_tick_414 rfl ?_
                      refine g_iadd C (nI (24 + i)) dL_tick_416 (nI_k 24 i _ rfl) ?_
                      refine g_iload C dL_tick_417 rfl ?_
                      refine g_iast C 3 0 rfl rfl (24 + i) rfl (by omega) (by decide) (wQ cI uq qf ++ (wA cI u nc nw (tk + 1) (z.2.2.2.2.2.1 + 1) (z.2.2.2.2.2.2.1 + 1) z.2.2.2.2.2.2.2 mg pt bd cx cy ch rm on wx wy dm z.1 (upd z.2.1 i (nI b)) (upd z.2.2.1 i ((z.2.2.1 i) + 1)) (upd z.2.2.2.1 i (nI ks)) z.2.2.2.2.1)) (by rw [uhA_6 (by omega)]; rfl) dL_tick_419 ?_
                      refine g_aload_n C dL_tick_420 rfl ?_
                      refine g_bipush C 28 dL_tick_421 (by decide +kernel) ?_
                      refine g_iload C dL_tick_423 rfl ?_
                      refine g_iadd C (nI (28 + i)) dL_tick_425 (nI_k 28 i _ rfl) ?_
                      refine g_aload_n C dL_tick_426 rfl ?_
                      refine g_iconst C 2 dL_tick_427 (by decide +kernel) ?_
                      refine g_iald C 1 0 rfl rfl 2 rfl (by omega) (by decide) (tk + 1) rfl dL_tick_428 ?_
                      refine g_iast C 3 0 rfl rfl (28 + i) rfl (by omega) (by decide) (wQ cI uq qf ++ (wA cI u nc nw (tk + 1) (z.2.2.2.2.2.1 + 1) (z.2.2.2.2.2.2.1 + 1) z.2.2.2.2.2.2.2 mg pt bd cx cy ch rm on wx wy dm z.1 (upd z.2.1 i (nI b)) (upd z.2.2.1 i ((z.2.2.1 i) + 1)) (upd z.2.2.2.1 i (nI ks)) (upd z.2.2.2.2.1 i (tk + 1)))) (by rw [uhA_7 (by omega)]; rfl) dL_tick_429 ?_
                      refine g_aload_n C dL_tick_430 rfl ?_
                      refine g_bipush C 12 dL_tick_431 (by decide +kernel) ?_
                      refine g_iload C dL_tick_433 rfl ?_
                      refine g_iadd C (nI (12 + i)) dL_tick_435 (nI_k 12 i _ rfl) ?_
                      refine g_iload C dL_tick_436 rfl ?_
                      refine g_iast C 3 0 rfl rfl (12 + i) rfl (by omega) (by decide) (wQ cI uq qf ++ (wA cI u nc nw (tk + 1) (z.2.2.2.2.2.1 + 1) (z.2.2.2.2.2.2.1 + 1) z.2.2.2.2.2.2.2 mg pt bd cx cy ch rm on wx wy dm (upd z.1 i (nI b)) (upd z.2.1 i (nI b)) (upd z.2.2.1 i ((z.2.2.1 i) + 1)) (upd z.2.2.2.1 i (nI ks)) (upd z.2.2.2.2.1 i (tk + 1)))) (by rw [uhA_3 (by omega)]; rfl) dL_tick_438 ?_
                      refine g_aload_n C dL_tick_439 rfl ?_
                      refine g_bipush C 16 dL_tick_440 (by decide +kernel) ?_
                      refine g_iload C dL_tick_442 rfl ?_
                      refine g_iadd C (nI (16 + i)) dL_tick_444 (nI_k 16 i _ rfl) ?_
                      refine g_iconst C (-1) dL_tick_445 (by decide +kernel) ?_
                      refine g_iast C 3 0 rfl rfl (16 + i) rfl (by omega) (by decide) (wQ cI uq qf ++ (wA cI u nc nw (tk + 1) (z.2.2.2.2.2.1 + 1) (z.2.2.2.2.2.2.1 + 1) z.2.2.2.2.2.2.2 mg pt bd cx cy ch rm on wx wy dm (upd z.1 i (nI b)) (upd (upd z.2.1 i (nI b)) i ((-1))) (upd z.2.2.1 i ((z.2.2.1 i) + 1)) (upd z.2.2.2.1 i (nI ks)) (upd z.2.2.2.2.1 i (tk + 1)))) (by rw [uhA_4 (by omega)]; rfl) dL_tick_446 ?_
                      refine g_aload_n C dL_tick_447 rfl ?_
                      refine g_bipush C 20 dL_tick_448 (by decide +kernel) ?_
                      refine g_iload C dL_tick_450 rfl ?_
                      refine g_iadd C (nI (20 + i)) dL_tick_452 (nI_k 20 i _ rfl) ?_
                      refine g_iconst C 0 dL_tick_453 (by decide +kernel) ?_
                      refine g_iast C 3 0 rfl rfl (20 + i) rfl (by omega) (by decide) (wQ cI uq qf ++ (wA cI u nc nw (tk + 1) (z.2.2.2.2.2.1 + 1) (z.2.2.2.2.2.2.1 + 1) z.2.2.2.2.2.2.2 mg pt bd cx cy ch rm on wx wy dm (upd z.1 i (nI b)) (upd (upd z.2.1 i (nI b)) i ((-1))) (upd (upd z.2.2.1 i ((z.2.2.1 i) + 1)) i 0) (upd z.2.2.2.1 i (nI ks)) (upd z.2.2.2.2.1 i (tk + 1)))) (by rw [uhA_5 (by omega)]; rfl) dL_tick_454 ?_
                      refine g_w (ws' := (wQ cI uq qf ++ (wA cI u nc nw (tk + 1) ((fts on dm rm nc nw (fun u c => qf (4 * c + u)) mg pt bd (tk + 1) i z).2.2.2.2.2.1) ((fts on dm rm nc nw (fun u c => qf (4 * c + u)) mg pt bd (tk + 1) i z).2.2.2.2.2.2.1) ((fts on dm rm nc nw (fun u c => qf (4 * c + u)) mg pt bd (tk + 1) i z).2.2.2.2.2.2.2) mg pt bd cx cy ch rm on wx wy dm ((fts on dm rm nc nw (fun u c => qf (4 * c + u)) mg pt bd (tk + 1) i z).1) ((fts on dm rm nc nw (fun u c => qf (4 * c + u)) mg pt bd (tk + 1) i z).2.1) ((fts on dm rm nc nw (fun u c => qf (4 * c + u)) mg pt bd (tk + 1) i z).2.2.1) ((fts on dm rm nc nw (fun u c => qf (4 * c + u)) mg pt bd (tk + 1) i z).2.2.2.1) ((fts on dm rm nc nw (fun u c => qf (4 * c + u)) mg pt bd (tk + 1) i z).2.2.2.2.1)))) (congrArg (fun T : TS => (wQ cI uq qf ++ (wA cI u nc nw (tk + 1) T.2.2.2.2.2.1 T.2.2.2.2.2.2.1 T.2.2.2.2.2.2.2 mg pt bd cx cy ch rm on wx wy dm T.1 T.2.1 T.2.2.1 T.2.2.2.1 T.2.2.2.2.1))) (ft_w3 (on := on) (dm := dm) (rm := rm) (nc := nc) (nw := nw) (QQ := (fun u c => qf (4 * c + u))) (mg := mg) (pt := pt) (bd := bd) (tk := tk + 1) (i := i) (z := z) hnow (by omega) c_204 (show fbo (fun u => ftk on z.1 dm rm nw i u) ((fun u c => qf (4 * c + u)) i) nc = some b by rw [d2, show t = nc by omega]) (Int32.not_lt.mp c_277) (fhe_y c_311) c_362 (frg_y c_385 (Int32.not_le.mp c_401))).symm) ?_
                      refine g_iinc C (nI (i + 1)) [some (.ref (u 0)), some (.ref (u 1)), some (.ref (u 2)), some (.ref uq), some (.int (nI (i + 1))), some (.int (nI ks)), some (.int (nI b)), some (.int 1), none] dL_tick_455 rfl (nI_1 i) (by decide) rfl rfl ?_
                      refine g_goto C 22 dL_tick_458 (by decide) ?_
                      refine g_mask [true, true, true, true, true, false, false, false, false] rfl ?_
                      exact ih (i + 1) (fts on dm rm nc nw (fun u c => qf (4 * c + u)) mg pt bd (tk + 1) i z) ⟨by omega, by rw [ftw, ← h2], fts_sv h3⟩ (by omega)
          · skip
            refine g_aload_n C dL_tick_207 rfl ?_
            refine g_bipush C 12 dL_tick_208 (by decide +kernel) ?_
            refine g_iload C dL_tick_210 rfl ?_
            refine g_iadd C (nI (12 + i)) dL_tick_212 (nI_k 12 i _ rfl) ?_
            refine g_iconst C (-1) dL_tick_213 (by decide +kernel) ?_
            refine g_iast C 3 0 rfl rfl (12 + i) rfl (by omega) (by decide) (wQ cI uq qf ++ (wA cI u nc nw (tk + 1) z.2.2.2.2.2.1 z.2.2.2.2.2.2.1 z.2.2.2.2.2.2.2 mg pt bd cx cy ch rm on wx wy dm (upd z.1 i ((-1))) z.2.1 z.2.2.1 z.2.2.2.1 z.2.2.2.2.1)) (by rw [uhA_3 (by omega)]; rfl) dL_tick_214 ?_
            refine g_aload_n C dL_tick_215 rfl ?_
            refine g_bipush C 16 dL_tick_216 (by decide +kernel) ?_
            refine g_iload C dL_tick_218 rfl ?_
            refine g_iadd C (nI (16 + i)) dL_tick_220 (nI_k 16 i _ rfl) ?_
            refine g_iconst C (-1) dL_tick_221 (by decide +kernel) ?_
            refine g_iast C 3 0 rfl rfl (16 + i) rfl (by omega) (by decide) (wQ cI uq qf ++ (wA cI u nc nw (tk + 1) z.2.2.2.2.2.1 z.2.2.2.2.2.2.1 z.2.2.2.2.2.2.2 mg pt bd cx cy ch rm on wx wy dm (upd z.1 i ((-1))) (upd z.2.1 i ((-1))) z.2.2.1 z.2.2.2.1 z.2.2.2.2.1)) (by rw [uhA_4 (by omega)]; rfl) dL_tick_222 ?_
            refine g_aload_n C dL_tick_223 rfl ?_
            refine g_bipush C 20 dL_tick_224 (by decide +kernel) ?_
            refine g_iload C dL_tick_226 rfl ?_
            refine g_iadd C (nI (20 + i)) dL_tick_228 (nI_k 20 i _ rfl) ?_
            refine g_iconst C 0 dL_tick_229 (by decide +kernel) ?_
            refine g_iast C 3 0 rfl rfl (20 + i) rfl (by omega) (by decide) (wQ cI uq qf ++ (wA cI u nc nw (tk + 1) z.2.2.2.2.2.1 z.2.2.2.2.2.2.1 z.2.2.2.2.2.2.2 mg pt bd cx cy ch rm on wx wy dm (upd z.1 i ((-1))) (upd z.2.1 i ((-1))) (upd z.2.2.1 i 0) z.2.2.2.1 z.2.2.2.2.1)) (by rw [uhA_5 (by omega)]; rfl) dL_tick_230 ?_
            refine g_aload_n C dL_tick_231 rfl ?_
            refine g_bipush C 24 dL_tick_232 (by decide +kernel) ?_
            refine g_iload C dL_tick_234 rfl ?_
            refine g_iadd C (nI (24 + i)) dL_tick_236 (nI_k 24 i _ rfl) ?_
            refine g_iconst C (-1) dL_tick_237 (by decide +kernel) ?_
            refine g_iast C 3 0 rfl rfl (24 + i) rfl (by omega) (by decide) (wQ cI uq qf ++ (wA cI u nc nw (tk + 1) z.2.2.2.2.2.1 z.2.2.2.2.2.2.1 z.2.2.2.2.2.2.2 mg pt bd cx cy ch rm on wx wy dm (upd z.1 i ((-1))) (upd z.2.1 i ((-1))) (upd z.2.2.1 i 0) (upd z.2.2.2.1 i ((-1))) z.2.2.2.2.1)) (by rw [uhA_6 (by omega)]; rfl) dL_tick_238 ?_
            refine g_aload_n C dL_tick_239 rfl ?_
            refine g_iconst C 5 dL_tick_240 (by decide +kernel) ?_
            refine g_dup2 C dL_tick_241 rfl rfl ?_
            refine g_iald C 1 0 rfl rfl 5 rfl (by omega) (by decide) z.2.2.2.2.2.2.2 rfl dL_tick_242 ?_
            refine g_iconst C 1 dL_tick_243 (by decide +kernel) ?_
            refine g_iadd C (z.2.2.2.2.2.2.2 + 1) dL_tick_244 rfl ?_
            refine g_iast C 1 0 rfl rfl 5 rfl (by omega) (by decide) (wQ cI uq qf ++ (wA cI u nc nw (tk + 1) z.2.2.2.2.2.1 z.2.2.2.2.2.2.1 (z.2.2.2.2.2.2.2 + 1) mg pt bd cx cy ch rm on wx wy dm (upd z.1 i ((-1))) (upd z.2.1 i ((-1))) (upd z.2.2.1 i 0) (upd z.2.2.2.1 i ((-1))) z.2.2.2.2.1)) (by rw [uc_5]; rfl) dL_tick_245 ?_
            refine g_goto C 455 dL_tick_246 (by decide) ?_
            refine g_w (ws' := (wQ cI uq qf ++ (wA cI u nc nw (tk + 1) ((fts on dm rm nc nw (fun u c => qf (4 * c + u)) mg pt bd (tk + 1) i z).2.2.2.2.2.1) ((fts on dm rm nc nw (fun u c => qf (4 * c + u)) mg pt bd (tk + 1) i z).2.2.2.2.2.2.1) ((fts on dm rm nc nw (fun u c => qf (4 * c + u)) mg pt bd (tk + 1) i z).2.2.2.2.2.2.2) mg pt bd cx cy ch rm on wx wy dm ((fts on dm rm nc nw (fun u c => qf (4 * c + u)) mg pt bd (tk + 1) i z).1) ((fts on dm rm nc nw (fun u c => qf (4 * c + u)) mg pt bd (tk + 1) i z).2.1) ((fts on dm rm nc nw (fun u c => qf (4 * c + u)) mg pt bd (tk + 1) i z).2.2.1) ((fts on dm rm nc nw (fun u c => qf (4 * c + u)) mg pt bd (tk + 1) i z).2.2.2.1) ((fts on dm rm nc nw (fun u c => qf (4 * c + u)) mg pt bd (tk + 1) i z).2.2.2.2.1)))) (congrArg (fun T : TS => (wQ cI uq qf ++ (wA cI u nc nw (tk + 1) T.2.2.2.2.2.1 T.2.2.2.2.2.2.1 T.2.2.2.2.2.2.2 mg pt bd cx cy ch rm on wx wy dm T.1 T.2.1 T.2.2.1 T.2.2.2.1 T.2.2.2.2.1))) (ft_lose (on := on) (dm := dm) (rm := rm) (nc := nc) (nw := nw) (QQ := (fun u c => qf (4 * c + u))) (mg := mg) (pt := pt) (bd := bd) (tk := tk + 1) (i := i) (z := z) hnow (by omega) c_204).symm) ?_
            refine g_iinc C (nI (i + 1)) [some (.ref (u 0)), some (.ref (u 1)), some (.ref (u 2)), some (.ref uq), some (.int (nI (i + 1))), some (.int (nI ks)), some (.int (nI b)), some (.int (nI t)), none] dL_tick_455 rfl (nI_1 i) (by decide) rfl rfl ?_
            refine g_goto C 22 dL_tick_458 (by decide) ?_
            refine g_mask [true, true, true, true, true, false, false, false, false] rfl ?_
            exact ih (i + 1) (fts on dm rm nc nw (fun u c => qf (4 * c + u)) mg pt bd (tk + 1) i z) ⟨by omega, by rw [ftw, ← h2], fts_sv h3⟩ (by omega)
      · skip
        have c_50 : ¬ (nc ≤ t) := fun h9 => c_50 ((nI_leI (by omega) (by omega)).mpr h9)
        refine g_iload C dL_tick_53 rfl ?_
        refine g_iload C dL_tick_55 rfl ?_
        refine g_icmp_eq C 100 dL_tick_57 (by decide) (fun c_57 => ?_) (fun c_57 => ?_)
        · skip
          have c_57 : t = ks := (nI_eq (by omega) (by omega)).mp c_57
          have hk0 : ftk on z.1 dm rm nw i t = 0 := ftk_0a (by rw [hnow, c_57])
          refine g_iconst C 0 dL_tick_100 (by decide +kernel) ?_
          refine g_istore C [some (.ref (u 0)), some (.ref (u 1)), some (.ref (u 2)), some (.ref uq), some (.int (nI i)), some (.int (nI ks)), some (.int (en o)), some (.int (nI t)), some (.int 0)] dL_tick_101 (by decide) rfl rfl ?_
          refine g_iload C dL_tick_103 rfl ?_
          refine g_if_eq C 139 dL_tick_105 (by decide) (fun _ => ?_) (fun c9 => absurd rfl c9)
          refine g_iload C dL_tick_139 rfl ?_
          refine g_istore C [some (.ref (u 0)), some (.ref (u 1)), some (.ref (u 2)), some (.ref uq), some (.int (nI i)), some (.int (nI ks)), some (.int (en o)), some (.int (nI t)), some (.int 0)] dL_tick_141 (by decide) rfl rfl ?_
          refine g_iinc C (nI (t + 1)) [some (.ref (u 0)), some (.ref (u 1)), some (.ref (u 2)), some (.ref uq), some (.int (nI i)), some (.int (nI ks)), some (.int (en o)), some (.int (nI (t + 1))), some (.int 0)] dL_tick_143 rfl (nI_1 t) (by decide) rfl rfl ?_
          refine g_goto C 45 dL_tick_146 (by decide) ?_
          refine g_mask [true, true, true, true, true, true, true, true, false] rfl ?_
          exact th (t + 1) o ⟨by omega, by rw [fbo, if_pos hk0, ← d2]⟩ (by omega)
        · skip
          have c_57 : ¬ (t = ks) := fun h9 => c_57 ((nI_eq (by omega) (by omega)).mpr h9)
          have hse : ¬ z.1 i = nI t := by rw [hnow]; exact fun h => c_57 ((nI_eq (by omega) (by omega)).mp h.symm)
          refine g_aload_n C dL_tick_60 rfl ?_
          refine g_bipush C 16 dL_tick_61 (by decide +kernel) ?_
          refine g_iload C dL_tick_63 rfl ?_
          refine g_iadd C (nI (16 + t)) dL_tick_65 (nI_k 16 t _ rfl) ?_
          refine g_iald C 2 0 rfl rfl (16 + t) rfl (by omega) (by decide) (on t) (gA_4 (by omega)) dL_tick_66 ?_
          refine g_iconst C 1 dL_tick_67 (by decide +kernel) ?_
          refine g_icmp_ne C 100 dL_tick_68 (by decide) (fun c_68 => ?_) (fun c_68 => ?_)
          · skip
            have hk0 : ftk on z.1 dm rm nw i t = 0 := ftk_0b (on_1 (hon t (by omega)) c_68)
            refine g_iconst C 0 dL_tick_100 (by decide +kernel) ?_
            refine g_istore C [some (.ref (u 0)), some (.ref (u 1)), some (.ref (u 2)), some (.ref uq), some (.int (nI i)), some (.int (nI ks)), some (.int (en o)), some (.int (nI t)), some (.int 0)] dL_tick_101 (by decide) rfl rfl ?_
            refine g_iload C dL_tick_103 rfl ?_
            refine g_if_eq C 139 dL_tick_105 (by decide) (fun _ => ?_) (fun c9 => absurd rfl c9)
            refine g_iload C dL_tick_139 rfl ?_
            refine g_istore C [some (.ref (u 0)), some (.ref (u 1)), some (.ref (u 2)), some (.ref uq), some (.int (nI i)), some (.int (nI ks)), some (.int (en o)), some (.int (nI t)), some (.int 0)] dL_tick_141 (by decide) rfl rfl ?_
            refine g_iinc C (nI (t + 1)) [some (.ref (u 0)), some (.ref (u 1)), some (.ref (u 2)), some (.ref uq), some (.int (nI i)), some (.int (nI ks)), some (.int (en o)), some (.int (nI (t + 1))), some (.int 0)] dL_tick_143 rfl (nI_1 t) (by decide) rfl rfl ?_
            refine g_goto C 45 dL_tick_146 (by decide) ?_
            refine g_mask [true, true, true, true, true, true, true, true, false] rfl ?_
            exact th (t + 1) o ⟨by omega, by rw [fbo, if_pos hk0, ← d2]⟩ (by omega)
          · skip
            refine g_aload_n C dL_tick_71 rfl ?_
            refine g_aload_n C dL_tick_72 rfl ?_
            refine g_iload C dL_tick_73 rfl ?_
            refine g_callSi C (wQ cI uq qf) (wA cI u nc nw (tk + 1) z.2.2.2.2.2.1 z.2.2.2.2.2.2.1 z.2.2.2.2.2.2.2 mg pt bd cx cy ch rm on wx wy dm z.1 z.2.1 z.2.2.1 z.2.2.2.1 z.2.2.2.2.1) [.ref (u 0), .ref (u 2), .int (nI t)] (t_L_load h6) (va_cwS 3 C.ts gL_tick_L_load rfl rfl rfl (by decide +kernel) ⟨Nat.le_of_ble_eq_true rfl, Nat.le_of_ble_eq_true rfl⟩) rfl rfl rfl (Nat.le_of_ble_eq_true rfl) dL_tick_75 ⟨Nat.le_of_ble_eq_true rfl, Nat.le_of_ble_eq_true rfl⟩ (fun rv3 wv3 hp3 => ?_)
            obtain ⟨rfl, rfl⟩ := hp3
            refine g_aload_n C dL_tick_78 rfl ?_
            refine g_bipush C 8 dL_tick_79 (by decide +kernel) ?_
            refine g_iload C dL_tick_81 rfl ?_
            refine g_iadd C (nI (8 + i)) dL_tick_83 (nI_k 8 i _ rfl) ?_
            refine g_iald C 3 0 rfl rfl (8 + i) rfl (by omega) (by decide) (dm i) (hA_2 (by omega)) dL_tick_84 ?_
            refine g_iadd C ((fld z.1 dm (nI t) nw) + (dm i)) dL_tick_85 rfl ?_
            refine g_aload_n C dL_tick_86 rfl ?_
            refine g_bipush C 12 dL_tick_87 (by decide +kernel) ?_
            refine g_iload C dL_tick_89 rfl ?_
            refine g_iadd C (nI (12 + t)) dL_tick_91 (nI_k 12 t _ rfl) ?_
            refine g_iald C 2 0 rfl rfl (12 + t) rfl (by omega) (by decide) (rm t) (gA_3 (by omega)) dL_tick_92 ?_
            refine g_icmp_gt C 100 dL_tick_93 (by decide) (fun c_93 => ?_) (fun c_93 => ?_)
            · skip
              have hk0 : ftk on z.1 dm rm nw i t = 0 := ftk_0c c_93
              refine g_iconst C 0 dL_tick_100 (by decide +kernel) ?_
              refine g_istore C [some (.ref (u 0)), some (.ref (u 1)), some (.ref (u 2)), some (.ref uq), some (.int (nI i)), some (.int (nI ks)), some (.int (en o)), some (.int (nI t)), some (.int 0)] dL_tick_101 (by decide) rfl rfl ?_
              refine g_iload C dL_tick_103 rfl ?_
              refine g_if_eq C 139 dL_tick_105 (by decide) (fun _ => ?_) (fun c9 => absurd rfl c9)
              refine g_iload C dL_tick_139 rfl ?_
              refine g_istore C [some (.ref (u 0)), some (.ref (u 1)), some (.ref (u 2)), some (.ref uq), some (.int (nI i)), some (.int (nI ks)), some (.int (en o)), some (.int (nI t)), some (.int 0)] dL_tick_141 (by decide) rfl rfl ?_
              refine g_iinc C (nI (t + 1)) [some (.ref (u 0)), some (.ref (u 1)), some (.ref (u 2)), some (.ref uq), some (.int (nI i)), some (.int (nI ks)), some (.int (en o)), some (.int (nI (t + 1))), some (.int 0)] dL_tick_143 rfl (nI_1 t) (by decide) rfl rfl ?_
              refine g_goto C 45 dL_tick_146 (by decide) ?_
              refine g_mask [true, true, true, true, true, true, true, true, false] rfl ?_
              exact th (t + 1) o ⟨by omega, by rw [fbo, if_pos hk0, ← d2]⟩ (by omega)
            · skip
              have hk1 : ¬ ftk on z.1 dm rm nw i t = 0 := ftk_1 (ne_1 c_68) hse c_93
              refine g_iconst C 1 dL_tick_96 (by decide +kernel) ?_
              refine g_goto C 101 dL_tick_97 (by decide) ?_
              refine g_istore C [some (.ref (u 0)), some (.ref (u 1)), some (.ref (u 2)), some (.ref uq), some (.int (nI i)), some (.int (nI ks)), some (.int (en o)), some (.int (nI t)), some (.int 1)] dL_tick_101 (by decide) rfl rfl ?_
              refine g_iload C dL_tick_103 rfl ?_
              refine g_if_eq C 139 dL_tick_105 (by decide) (fun c9 => absurd c9 (by decide)) (fun _ => ?_)
              rcases o with _ | b
              · skip
                refine g_lv (lv' := [some (.ref (u 0)), some (.ref (u 1)), some (.ref (u 2)), some (.ref uq), some (.int (nI i)), some (.int (nI ks)), some (.int ((-1))), some (.int (nI t)), some (.int 1)]) rfl ?_
                refine g_iload C dL_tick_108 rfl ?_
                refine g_if_lt C 134 dL_tick_110 (by decide) (fun _ => ?_) (fun c9 => absurd (by decide) c9)
                refine g_iload C dL_tick_134 rfl ?_
                refine g_goto C 141 dL_tick_136 (by decide) ?_
                refine g_istore C [some (.ref (u 0)), some (.ref (u 1)), some (.ref (u 2)), some (.ref uq), some (.int (nI i)), some (.int (nI ks)), some (.int (nI t)), some (.int (nI t)), some (.int 1)] dL_tick_141 (by decide) rfl rfl ?_
                refine g_iinc C (nI (t + 1)) [some (.ref (u 0)), some (.ref (u 1)), some (.ref (u 2)), some (.ref uq), some (.int (nI i)), some (.int (nI ks)), some (.int (nI t)), some (.int (nI (t + 1))), some (.int 1)] dL_tick_143 rfl (nI_1 t) (by decide) rfl rfl ?_
                refine g_goto C 45 dL_tick_146 (by decide) ?_
                refine g_mask [true, true, true, true, true, true, true, true, false] rfl ?_
                exact th (t + 1) (some t) ⟨by omega, by rw [fbo, if_neg hk1, ← d2]⟩ (by omega)
              · skip
                refine g_lv (lv' := [some (.ref (u 0)), some (.ref (u 1)), some (.ref (u 2)), some (.ref uq), some (.int (nI i)), some (.int (nI ks)), some (.int (nI b)), some (.int (nI t)), some (.int 1)]) rfl ?_
                have hb : b < t := fbo_lt d2.symm
                refine g_iload C dL_tick_108 rfl ?_
                refine g_if_lt C 134 dL_tick_110 (by decide) (fun c9 => absurd c9 (nI_pos (by omega))) (fun _ => ?_)
                refine g_aload_n C dL_tick_113 rfl ?_
                refine g_iconst C 4 dL_tick_114 (by decide +kernel) ?_
                refine g_iload C dL_tick_115 rfl ?_
                refine g_imul C (nI (4 * t)) dL_tick_117 (nI_mk 4 t _ rfl) ?_
                refine g_iload C dL_tick_118 rfl ?_
                refine g_iadd C (nI (4 * t + i)) dL_tick_120 (nI_k (4 * t) i _ rfl) ?_
                refine g_iald C 0 0 rfl rfl (4 * t + i) rfl (by omega) (by decide) (qf (4 * t + i)) rfl dL_tick_121 ?_
                refine g_aload_n C dL_tick_122 rfl ?_
                refine g_iconst C 4 dL_tick_123 (by decide +kernel) ?_
                refine g_iload C dL_tick_124 rfl ?_
                refine g_imul C (nI (4 * b)) dL_tick_126 (nI_mk 4 b _ rfl) ?_
                refine g_iload C dL_tick_127 rfl ?_
                refine g_iadd C (nI (4 * b + i)) dL_tick_129 (nI_k (4 * b) i _ rfl) ?_
                refine g_iald C 0 0 rfl rfl (4 * b + i) rfl (by omega) (by decide) (qf (4 * b + i)) rfl dL_tick_130 ?_
                refine g_icmp_le C 139 dL_tick_131 (by decide) (fun c_131 => ?_) (fun c_131 => ?_)
                · skip
                  refine g_iload C dL_tick_139 rfl ?_
                  refine g_istore C [some (.ref (u 0)), some (.ref (u 1)), some (.ref (u 2)), some (.ref uq), some (.int (nI i)), some (.int (nI ks)), some (.int (nI b)), some (.int (nI t)), some (.int 1)] dL_tick_141 (by decide) rfl rfl ?_
                  refine g_iinc C (nI (t + 1)) [some (.ref (u 0)), some (.ref (u 1)), some (.ref (u 2)), some (.ref uq), some (.int (nI i)), some (.int (nI ks)), some (.int (nI b)), some (.int (nI (t + 1))), some (.int 1)] dL_tick_143 rfl (nI_1 t) (by decide) rfl rfl ?_
                  refine g_goto C 45 dL_tick_146 (by decide) ?_
                  refine g_mask [true, true, true, true, true, true, true, true, false] rfl ?_
                  exact th (t + 1) (some b) ⟨by omega, by rw [fbo, if_neg hk1, ← d2]; exact (if_pos c_131).symm⟩ (by omega)
                · skip
                  refine g_iload C dL_tick_134 rfl ?_
                  refine g_goto C 141 dL_tick_136 (by decide) ?_
                  refine g_istore C [some (.ref (u 0)), some (.ref (u 1)), some (.ref (u 2)), some (.ref uq), some (.int (nI i)), some (.int (nI ks)), some (.int (nI t)), some (.int (nI t)), some (.int 1)] dL_tick_141 (by decide) rfl rfl ?_
                  refine g_iinc C (nI (t + 1)) [some (.ref (u 0)), some (.ref (u 1)), some (.ref (u 2)), some (.ref uq), some (.int (nI i)), some (.int (nI ks)), some (.int (nI t)), some (.int (nI (t + 1))), some (.int 1)] dL_tick_143 rfl (nI_1 t) (by decide) rfl rfl ?_
                  refine g_goto C 45 dL_tick_146 (by decide) ?_
                  refine g_mask [true, true, true, true, true, true, true, true, false] rfl ?_
                  exact th (t + 1) (some t) ⟨by omega, by rw [fbo, if_neg hk1, ← d2]; exact (if_neg c_131).symm⟩ (by omega)
