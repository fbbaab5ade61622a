/-- what holds of a state between the law's steps -/
def JI (nc nw : Nat) (cx cy ch rm on wx wy dm sv hd : Nat → Int32) : Prop := INV nc nw cx cy ch rm wx wy dm sv ∧ nc ≤ 4 ∧ nw ≤ 4 ∧ (∀ c, on c = 0 ∨ on c = 1) ∧ (∀ k, nw ≤ k → hd k = 0) ∧ ∀ j c, j < nw → c < nc → sv j = nI c → ¬ on c = 0
/-- the law's arrays and the system, of one state -/
def ST (cI cZ cG cW : ClassId) (u a b d r r2 : Nat → Nat) (w : va_W) : Prop := ∃ (nc nw : Nat) (tk ho ri lo mg pt bd : Int32) (cx cy ch rm on wx wy dm sv fv hd lf la hp rl cn be mu : Nat → Int32) (bw : Int32) (wo qq : Nat → Nat → Int32), JI nc nw cx cy ch rm on wx wy dm sv hd ∧
  w = (wA cI u nc nw tk ho ri lo mg pt bd cx cy ch rm on wx wy dm sv fv hd lf la ++ ((wCo cI a b d mg pt bd tk ho ri lo fv hd lf la ++ wSo cI cW a b r2 hp rl cn be bw wo) ++ wL cI cZ cG a r nc nw cx cy ch rm on wx wy dm sv mu qq))
section SJ
variable {cI cZ cG cW : ClassId} {u a b d r r2 : Nat → Nat} {nc nw : Nat} {tk ho ri lo mg pt bd : Int32} {cx cy ch rm on wx wy dm sv fv hd lf la hp rl cn be mu : Nat → Int32} {bw : Int32} {wo qq : Nat → Nat → Int32}
theorem ST_mk (h : JI nc nw cx cy ch rm on wx wy dm sv hd) : ST cI cZ cG cW u a b d r r2 (wA cI u nc nw tk ho ri lo mg pt bd cx cy ch rm on wx wy dm sv fv hd lf la ++ ((wCo cI a b d mg pt bd tk ho ri lo fv hd lf la ++ wSo cI cW a b r2 hp rl cn be bw wo) ++ wL cI cZ cG a r nc nw cx cy ch rm on wx wy dm sv mu qq)) :=
  ⟨_, _, _, _, _, _, _, _, _, _, _, _, _, _, _, _, _, _, _, _, _, _, _, _, _, _, _, _, _, _, h, rfl⟩
theorem JI.i (h : JI nc nw cx cy ch rm on wx wy dm sv hd) : INV nc nw cx cy ch rm wx wy dm sv := h.1
theorem JI.n4 (h : JI nc nw cx cy ch rm on wx wy dm sv hd) : nc ≤ 4 := h.2.1
theorem JI.w4 (h : JI nc nw cx cy ch rm on wx wy dm sv hd) : nw ≤ 4 := h.2.2.1
theorem JI.onn (h : JI nc nw cx cy ch rm on wx wy dm sv hd) : ∀ c, c < nc → on c = 0 ∨ on c = 1 := fun c _ => h.2.2.2.1 c
theorem JI.r0 (h : JI nc nw cx cy ch rm on wx wy dm sv hd) : ∀ c, c < nc → ¬ rm c = 0 := fun c hc q => h.1.ihr c hc (by rw [q]; decide)
theorem JI.gq (h : JI nc nw cx cy ch rm on wx wy dm sv hd) (S : Nat → Int32) : ∀ c w, c < nc → w < nw → ¬ 10 + fdi ch on (fus rm S dm nw) (sgw cx cy wx wy w) c nc = 0 := fun _ _ _ hw => tB_ne (h.1.iden (fun _ hn => h.1.ius S hn) hw) (by decide)
theorem JI.svv (h : JI nc nw cx cy ch rm on wx wy dm sv hd) : ∀ j, j < nw → SV nc (sv j) := h.1.2.2.2.2
theorem JI_cell (h : JI nc nw cx cy ch rm on wx wy dm sv hd) {p1 p2 p3 p4 : Int32} (hp : inC p1 p2 p3 p4) (hn : nc < 4) : JI (nc + 1) nw (upd cx nc p1) (upd cy nc p2) (upd ch nc p3) (upd rm nc p4) (upd on nc 1) wx wy dm sv hd := by
  refine ⟨INV_cell h.1 ⟨hp, by omega⟩, by omega, h.2.2.1, fun c => ?_, h.2.2.2.2.1, fun j c hj hc e => ?_⟩
  · by_cases q : c = nc
    · rw [q, upd_at]; exact Or.inr rfl
    · rw [upd_ne q]; exact h.2.2.2.1 c
  · by_cases q : c = nc
    · rw [q, upd_at]; decide
    · rw [upd_ne q]; exact h.2.2.2.2.2 j c hj (by omega) e
theorem JI_walker (h : JI nc nw cx cy ch rm on wx wy dm sv hd) {p1 p2 p3 : Int32} (hp : inW p1 p2 p3) (hn : nw < 4) : JI nc (nw + 1) cx cy ch rm on (upd wx nw p1) (upd wy nw p2) (upd dm nw p3) (upd sv nw (-1)) hd := by
  refine ⟨INV_walker h.1 ⟨hp, by omega⟩, h.2.1, by omega, h.2.2.2.1, fun k hk => h.2.2.2.2.1 k (by omega), fun j c hj hc e => ?_⟩
  have h4 := h.2.1
  by_cases q : j = nw
  · rw [q, upd_at] at e
    exact absurd e.symm (en_m1 (by omega))
  · rw [upd_ne q] at e
    exact h.2.2.2.2.2 j c (by omega) hc e
theorem JI_tune (h : JI nc nw cx cy ch rm on wx wy dm sv hd) {kc : Nat} {p2 : Int32} (hc : kc < nc) (hp : 0 ≤ p2 ∧ p2 ≤ 2) : JI nc nw cx cy (upd ch kc p2) rm on wx wy dm sv hd := by
  have h4 := h.2.1
  have h1 := INV_tune h.1 (p1 := nI kc) ⟨⟨kc, hc, rfl⟩, hp⟩
  rw [nI_clamp (by omega)] at h1
  exact ⟨h1, h.2⟩
theorem JI_move (h : JI nc nw cx cy ch rm on wx wy dm sv hd) {kw : Nat} {x y : Int64} (hw : kw < nw) (hx : rng x 0 63) (hy : rng y 0 63) : JI nc nw cx cy ch rm on (upd wx kw x.toInt32) (upd wy kw y.toInt32) dm sv hd := by
  have h4 := h.2.2.1
  have h1 := INV_move h.1 (p1 := nI kw) hx hy
  rw [nI_clamp (by omega)] at h1
  exact ⟨h1, h.2⟩
/-! turned on and off -/
theorem one_sub {x : Int32} (h : x = 0 ∨ x = 1) : 1 - x = ftn x := by
  rcases h with h | h <;> subst h <;> decide
theorem frw_id {c : Int32} {z : (Nat → Int32) × (Nat → Int32) × (Nat → Int32)} : ∀ n : Nat, (∀ j, j < n → ¬ z.1 j = c) → frw c z n = z
  | 0, _ => rfl
  | n + 1, h => by rw [frw, frw_id n (fun j hj => h j (by omega)), if_neg (h n (by omega))]
theorem frw_hd {c : Int32} {z : (Nat → Int32) × (Nat → Int32) × (Nat → Int32)} {k : Nat} (h : z.2.2 k = 0) : ∀ n : Nat, (frw c z n).2.2 k = 0
  | 0 => h
  | n + 1 => by
    rw [frw]
    split
    · show (if k = n then 0 else (frw c z n).2.2 k) = 0
      rw [frw_hd h n]
      split <;> rfl
    · exact frw_hd h n
theorem frw_off {c : Int32} {z : (Nat → Int32) × (Nat → Int32) × (Nat → Int32)} (hc : ¬ c = -1) : ∀ n : Nat, ∀ j, ((frw c z n).1 j = z.1 j ∨ (frw c z n).1 j = -1) ∧ (j < n → ¬ (frw c z n).1 j = c)
  | 0, j => ⟨Or.inl rfl, fun h => absurd h (Nat.not_lt_zero _)⟩
  | n + 1, j => by
    have ih := frw_off (z := z) hc n j
    rw [frw]
    by_cases q : (frw c z n).1 n = c
    · rw [if_pos q]
      show ((if j = n then -1 else (frw c z n).1 j) = z.1 j ∨ (if j = n then -1 else (frw c z n).1 j) = -1) ∧ (j < n + 1 → ¬ (if j = n then -1 else (frw c z n).1 j) = c)
      by_cases e : j = n
      · rw [if_pos e]; exact ⟨Or.inr rfl, fun _ h => hc h.symm⟩
      · rw [if_neg e]; exact ⟨ih.1, fun h => ih.2 (by omega)⟩
    · rw [if_neg q]
      refine ⟨ih.1, fun h => ?_⟩
      by_cases e : j = n
      · rw [e]; exact q
      · exact ih.2 (by omega)
theorem turn_T (h : JI nc nw cx cy ch rm on wx wy dm sv hd) {kc : Nat} (hc : kc < nc) {T : (Nat → Int32) × (Nat → Int32) × (Nat → Int32)} (e : T = frw (nI kc) (sv, fv, hd) nw) : T = (if on kc = 0 then (sv, fv, hd) else frw (nI kc) (sv, fv, hd) nw) := by
  rw [e]
  by_cases q : on kc = 0
  · rw [if_pos q]
    exact frw_id nw (fun j hj h1 => h.2.2.2.2.2 j kc hj hc h1 q)
  · rw [if_neg q]
theorem JI_turn (h : JI nc nw cx cy ch rm on wx wy dm sv hd) {kc : Nat} (hc : kc < nc) : JI nc nw cx cy ch rm (upd on kc (ftn (on kc))) wx wy dm ((if on kc = 0 then (sv, fv, hd) else frw (nI kc) (sv, fv, hd) nw).1) ((if on kc = 0 then (sv, fv, hd) else frw (nI kc) (sv, fv, hd) nw).2.2) := by
  have h4 := h.2.1
  refine ⟨INV_turn h.1, h.2.1, h.2.2.1, fun c => ?_, fun k hk => ?_, fun j c hj hc2 e => ?_⟩
  · by_cases q : c = kc
    · rw [q, upd_at]
      unfold ftn
      split
      · exact Or.inr rfl
      · exact Or.inl rfl
    · rw [upd_ne q]; exact h.2.2.2.1 c
  · split
    · exact h.2.2.2.2.1 k hk
    · exact frw_hd (z := (sv, fv, hd)) (h.2.2.2.2.1 k hk) nw
  · by_cases q : on kc = 0
    · rw [if_pos q] at e
      by_cases q2 : c = kc
      · rw [q2, upd_at]; unfold ftn; rw [if_pos q]; decide
      · rw [upd_ne q2]; exact h.2.2.2.2.2 j c hj hc2 e
    · rw [if_neg q] at e
      obtain ⟨g1, g2⟩ := frw_off (c := nI kc) (z := (sv, fv, hd)) (en_m1 (by omega)) nw j
      have g2 := g2 hj
      rw [e] at g1 g2
      by_cases q2 : c = kc
      · exact absurd (by rw [q2]) g2
      · rw [upd_ne q2]
        rcases g1 with g1 | g1
        · exact h.2.2.2.2.2 j c hj hc2 g1.symm
        · exact absurd g1 (en_m1 (by omega))
/-! ticks -/
theorem fbo_t {t q : Nat → Int32} : ∀ {n b : Nat}, fbo t q n = some b → ¬ t b = 0
  | 0, b, h => by cases h
  | n + 1, b, h => by
    have ih : ∀ c, fbo t q n = some c → ¬ t c = 0 := fun c hc => fbo_t hc
    unfold fbo at h
    by_cases h0 : t n = 0
    · rw [if_pos h0] at h; exact ih b h
    · rw [if_neg h0] at h
      revert h
      cases hc : fbo t q n with
      | none => intro h; cases h; exact h0
      | some c =>
        intro h
        change (if q n ≤ q c then some c else some n) = some b at h
        by_cases h1 : q n ≤ q c
        · rw [if_pos h1] at h; cases h; exact ih _ hc
        · rw [if_neg h1] at h; cases h; exact h0
theorem ftk_on {on sv dm rm : Nat → Int32} {nw w t : Nat} (h : ¬ ftk on sv dm rm nw w t = 0) : ¬ on t = 0 := fun q => h (ftk_0b q)
/-- what a step of a tick does to served and held -/
theorem fts_new {Q : Nat → Nat → Int32} {w : Nat} {z : TS} : (∀ k, ¬ k = w → (fts on dm rm nc nw Q mg pt bd tk w z).2.2.1 k = z.2.2.1 k) ∧ ∀ j c, (fts on dm rm nc nw Q mg pt bd tk w z).1 j = nI c → c < nc → nc < 2 ^ 31 → z.1 j = nI c ∨ ¬ on c = 0 := by
  have key : ∀ {k c j : Nat}, fbo (fun u => ftk on z.1 dm rm nw w u) (Q w) nc = some k → upd z.1 w (nI k) j = nI c → c < nc → nc < 2 ^ 31 → z.1 j = nI c ∨ ¬ on c = 0 := by
    intro k c j hk e hc hn
    have hkn := fbo_lt hk
    change (if j = w then nI k else z.1 j) = nI c at e
    by_cases q : j = w
    · rw [if_pos q] at e
      have := (nI_eq (by omega) (by omega)).mp e
      subst this
      exact Or.inr (ftk_on (fbo_t hk))
    · rw [if_neg q] at e; exact Or.inl e
  have off : ∀ {c j : Nat}, upd z.1 w (-1) j = nI c → c < nc → nc < 2 ^ 31 → z.1 j = nI c ∨ ¬ on c = 0 := by
    intro c j e hc hn
    change (if j = w then -1 else z.1 j) = nI c at e
    by_cases q : j = w
    · rw [if_pos q] at e
      exact absurd e.symm (en_m1 (by omega))
    · rw [if_neg q] at e; exact Or.inl e
  unfold fts
  split
  · split
    · exact ⟨fun _ _ => rfl, fun j c e _ _ => Or.inl e⟩
    · next k hk =>
      split
      · exact ⟨fun _ _ => rfl, fun j c e _ _ => Or.inl e⟩
      · exact ⟨fun _ _ => rfl, fun j c e h1 h2 => key hk e h1 h2⟩
  · split
    · split
      · exact ⟨fun k hk => upd_ne hk, fun j c e _ _ => Or.inl e⟩
      · next k hk =>
        split
        · split
          · exact ⟨fun k hk => upd_ne hk, fun j c e _ _ => Or.inl e⟩
          · exact ⟨fun k hk => upd_ne hk, fun j c e h1 h2 => key hk e h1 h2⟩
        · exact ⟨fun k hk => upd_ne hk, fun j c e _ _ => Or.inl e⟩
    · exact ⟨fun k hk => upd_ne hk, fun j c e h1 h2 => off e h1 h2⟩
theorem ftw_new {Q : Nat → Nat → Int32} {z : TS} : ∀ n : Nat, (∀ k, n ≤ k → (ftw on dm rm nc nw Q mg pt bd tk z n).2.2.1 k = z.2.2.1 k) ∧ ∀ j c, (ftw on dm rm nc nw Q mg pt bd tk z n).1 j = nI c → c < nc → nc < 2 ^ 31 → z.1 j = nI c ∨ ¬ on c = 0
  | 0 => ⟨fun _ _ => rfl, fun j c e _ _ => Or.inl e⟩
  | n + 1 => by
    obtain ⟨h1, h2⟩ := ftw_new (Q := Q) (z := z) n
    obtain ⟨g1, g2⟩ := fts_new (on := on) (dm := dm) (rm := rm) (nc := nc) (nw := nw) (mg := mg) (pt := pt) (bd := bd) (tk := tk) (Q := Q) (w := n) (z := ftw on dm rm nc nw Q mg pt bd tk z n)
    rw [ftw]
    refine ⟨fun k hk => by rw [g1 k (by omega), h1 k (by omega)], fun j c e hc hn => ?_⟩
    rcases g2 j c e hc hn with q | q
    · exact h2 j c q hc hn
    · exact Or.inr q
/-- the law's ticks -/
abbrev LT : Type := Int32 × TS
def ltk1 (cx cy ch on wx wy rm dm : Nat → Int32) (nc nw : Nat) (mg pt bd : Int32) (x : LT) : LT := (x.1 + 1, ftw on dm rm nc nw (fun k a => fqu cx cy ch on wx wy (fus rm x.2.1 dm nw) nc k a) mg pt bd (x.1 + 1) x.2 nw)
def ltk (cx cy ch on wx wy rm dm : Nat → Int32) (nc nw : Nat) (mg pt bd : Int32) (x : LT) : Nat → LT
  | 0 => x
  | n + 1 => ltk1 cx cy ch on wx wy rm dm nc nw mg pt bd (ltk cx cy ch on wx wy rm dm nc nw mg pt bd x n)
theorem fti_ltk {z : TS} (hc : nc < 2 ^ 31) (hz : ∀ j, j < nw → SV nc (z.1 j)) : ∀ n : Nat, (fti cx cy ch on wx wy rm dm nc nw mg pt bd (tk, mu, qq, z) n).1 = (ltk cx cy ch on wx wy rm dm nc nw mg pt bd (tk, z) n).1 ∧ (fti cx cy ch on wx wy rm dm nc nw mg pt bd (tk, mu, qq, z) n).2.2.2 = (ltk cx cy ch on wx wy rm dm nc nw mg pt bd (tk, z) n).2 ∧ ∀ j, j < nw → SV nc ((ltk cx cy ch on wx wy rm dm nc nw mg pt bd (tk, z) n).2.1 j)
  | 0 => ⟨rfl, rfl, hz⟩
  | n + 1 => by
    obtain ⟨h1, h2, h3⟩ := fti_ltk hc hz n
    rw [fti, ltk]
    generalize fti cx cy ch on wx wy rm dm nc nw mg pt bd (tk, mu, qq, z) n = X at h1 h2
    generalize ltk cx cy ch on wx wy rm dm nc nw mg pt bd (tk, z) n = Y at h1 h2 h3
    unfold fpt ltk1
    refine ⟨by rw [h1], ?_, ftw_sv nw h3⟩
    show ftw on dm rm nc nw _ mg pt bd (X.1 + 1) X.2.2.2 nw = ftw on dm rm nc nw _ mg pt bd (Y.1 + 1) Y.2 nw
    rw [h1, h2]
    refine ftw_cg hc (fun w c hw hcc => ?_) h3 nw (Nat.le_refl _)
    show (if w < nw ∧ c < nc then _ else _) = _
    rw [if_pos ⟨hw, hcc⟩]
    exact fqu_cg (fun n hn => by show (if n < nc then _ else _) = _; rw [if_pos hn])
theorem JI_tick (h : JI nc nw cx cy ch rm on wx wy dm sv hd) : ∀ n : Nat, JI nc nw cx cy ch rm on wx wy dm (ltk cx cy ch on wx wy rm dm nc nw mg pt bd (tk, sv, fv, hd, lf, la, ho, ri, lo) n).2.1 (ltk cx cy ch on wx wy rm dm nc nw mg pt bd (tk, sv, fv, hd, lf, la, ho, ri, lo) n).2.2.2.1
  | 0 => h
  | n + 1 => by
    have ih := JI_tick h n
    rw [ltk]
    generalize ltk cx cy ch on wx wy rm dm nc nw mg pt bd (tk, sv, fv, hd, lf, la, ho, ri, lo) n = Y at ih
    have h4 := h.2.1
    obtain ⟨g1, g2⟩ := ftw_new (on := on) (dm := dm) (rm := rm) (nc := nc) (nw := nw) (mg := mg) (pt := pt) (bd := bd) (tk := Y.1 + 1) (Q := fun k a => fqu cx cy ch on wx wy (fus rm Y.2.1 dm nw) nc k a) (z := Y.2) nw
    refine ⟨INV_sv h.1 (ftw_sv nw ih.svv), h.2.1, h.2.2.1, h.2.2.2.1, fun k hk => ?_, fun j c hj hc e => ?_⟩
    · exact (g1 k hk).trans (ih.2.2.2.2.1 k hk)
    · rcases g2 j c e hc (by omega) with q | q
      · exact ih.2.2.2.2.2 j c hj hc q
      · exact q
end SJ
/-! the arguments that the law draws -/
theorem inC_of {x y c r : Int32} (hx : tB 0 64 x) (hy : tB 0 64 y) (hc : tB 0 3 c) (hr : tB 1 41 r) (h1 : ¬ 63 < x) (h2 : ¬ 63 < y) (h3 : ¬ 2 < c) (h4 : r ≤ 40) : inC x y c r :=
  ⟨⟨i_le.mpr hx.1, Int32.not_lt.mp h1⟩, ⟨i_le.mpr hy.1, Int32.not_lt.mp h2⟩, ⟨i_le.mpr hc.1, Int32.not_lt.mp h3⟩, ⟨i_le.mpr hr.1, h4⟩⟩
theorem inW_of {x y v : Int32} (hx : tB 0 64 x) (hy : tB 0 64 y) (hv : tB 0 10 v) (h1 : ¬ 63 < x) (h2 : ¬ 63 < y) (h3 : 1 ≤ v) : inW x y v :=
  ⟨⟨i_le.mpr hx.1, Int32.not_lt.mp h1⟩, ⟨i_le.mpr hy.1, Int32.not_lt.mp h2⟩, ⟨h3, i_le.mpr hv.2⟩⟩
theorem nI_tB {N : Nat} {x : Int32} (h : tB 0 N x) : ∃ m, m ≤ N ∧ x = nI m := by
  have h0 : ¬ x < 0 := fun q => by
    have h1 := i_lt.mp q
    rw [show (0 : Int32).toInt = 0 from rfl] at h1
    have := h.1
    omega
  obtain ⟨m, hm, rfl⟩ := nI_of h0
  have h2 := h.2
  rw [nI_toInt hm] at h2
  exact ⟨m, by omega, rfl⟩
theorem n4_lt {n : Nat} (h4 : n ≤ 4) (h : ¬ nI n = 4) : n < 4 := by
  rcases Nat.lt_or_ge n 4 with q | q
  · exact q
  · exact absurd (show nI n = 4 by rw [show n = 4 by omega]; rfl) h
theorem mvx_k {f : Nat → Int32} {k : Nat} {x : Int32} (hk : k < 2 ^ 31) : (f k).toInt64 + x.toInt64 = mvx f (nI k) x := by
  unfold mvx
  rw [nI_clamp hk]
theorem mvx_y {f : Nat → Int32} {k : Nat} {x : Int32} (hk : k < 2 ^ 31) (hf : tB 0 63 (f k)) (hx : tB (-6) 6 x) : mvx f (nI k) x = (f k + x).toInt64 := by
  unfold mvx
  rw [nI_clamp hk]
  apply Int64.toInt_inj.mp
  unfold tB at hf hx
  rw [Int64.toInt_add, Int32.toInt_toInt64, Int32.toInt_toInt64, Int32.toInt_toInt64, Int32.toInt_add, bm_id (by omega) (by omega), Int.bmod_eq_of_le (by omega) (by omega)]
theorem fit_no1 {X : Int64} (h : lg_cmp X 0 < 0) : ¬ rng X 0 63 := rng_no1 (a := 0) h
theorem fit_no2 {X : Int64} (h : 0 ≤ lg_cmp X 64) : ¬ rng X 0 63 := fun q => by
  have h1 : ¬ lg_cmp X 64 < 0 := Int32.not_lt.mpr h
  refine h1 ((lg_cmp_lt _ _).mpr ?_)
  have h2 := q.2
  rw [Int64.lt_iff_toInt_lt]
  rw [Int64.le_iff_toInt_le] at h2
  have e1 : (Int32.toInt64 63).toInt = 63 := by decide
  have e2 : (64 : Int64).toInt = 64 := by decide
  omega
theorem fit_yes {X : Int64} (h1 : ¬ lg_cmp X 0 < 0) (h2 : ¬ 0 ≤ lg_cmp X 64) : rng X 0 63 := by
  have h3 := (lg_cmp_lt _ _).mp (Int32.not_le.mp h2)
  have h4 : ¬ X < 0 := fun q => h1 ((lg_cmp_lt _ _).mpr q)
  rw [Int64.lt_iff_toInt_lt] at h3 h4
  have e2 : (64 : Int64).toInt = 64 := by decide
  have e1 : (Int32.toInt64 63).toInt = 63 := by decide
  have e0 : (0 : Int64).toInt = 0 := by decide
  have e3 : (Int32.toInt64 0).toInt = 0 := by decide
  exact ⟨Int64.le_iff_toInt_le.mpr (by omega), Int64.le_iff_toInt_le.mpr (by omega)⟩
theorem rng_y {y : Int32} {X : Int64} (e : X = y.toInt64) : rng X 0 63 ↔ 0 ≤ y ∧ y < 64 := by
  rw [e, rng_i, i_le, i_le, i_lt, show (63 : Int32).toInt = 63 from rfl, show (64 : Int32).toInt = 64 from rfl]
  omega
