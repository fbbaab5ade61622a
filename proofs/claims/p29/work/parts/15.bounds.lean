/-! bounds: no divisor is 0 -/
def tB (lo hi : Int) (x : Int32) : Prop := lo ≤ x.toInt ∧ x.toInt ≤ hi
theorem bm_id {x : Int} (h1 : -2147483648 ≤ x) (h2 : x < 2147483648) : x.bmod (2 ^ 32) = x := Int.bmod_eq_of_le (by omega) (by omega)
theorem tB_add {a b c d : Int} {x y : Int32} (hx : tB a b x) (hy : tB c d y) (h1 : -2147483648 ≤ a + c) (h2 : b + d < 2147483648) : tB (a + c) (b + d) (x + y) := by
  unfold tB at *
  rw [Int32.toInt_add, bm_id (by omega) (by omega)]
  omega
theorem tB_sub {a b c d : Int} {x y : Int32} (hx : tB a b x) (hy : tB c d y) (h1 : -2147483648 ≤ a - d) (h2 : b - c < 2147483648) : tB (a - d) (b - c) (x - y) := by
  unfold tB at *
  rw [Int32.toInt_sub, bm_id (by omega) (by omega)]
  omega
theorem tB_mul {a b c d : Int} {x y : Int32} (hx : tB a b x) (hy : tB c d y) (ha : 0 ≤ a) (hc : 0 ≤ c) (h2 : b * d < 2147483648) : tB (a * c) (b * d) (x * y) := by
  unfold tB at *
  have h3 : x.toInt * y.toInt ≤ b * d := Int.mul_le_mul hx.2 hy.2 (by omega) (by omega)
  have h4 : a * c ≤ x.toInt * y.toInt := Int.mul_le_mul hx.1 hy.1 (by omega) (by omega)
  have h5 : 0 ≤ a * c := Int.mul_nonneg ha hc
  rw [Int32.toInt_mul, bm_id (by omega) (by omega)]
  omega
theorem tB_div {a b : Int} {x y : Int32} (hx : tB 0 b x) (hy : tB 1 a y) : tB 0 b (x / y) := by
  unfold tB at *
  have hb := Int32.toInt_lt x
  have h3 : 0 ≤ x.toInt.tdiv y.toInt := Int.tdiv_nonneg hx.1 (by omega)
  have h4 : x.toInt.tdiv y.toInt ≤ x.toInt := Int.tdiv_le_self _ hx.1
  rw [Int32.toInt_div, bm_id (by omega) (by omega)]
  omega
theorem tB_divk {b : Int} {x : Int32} (k : Int32) (c : Int) (hk : k.toInt = c) (hc : 0 < c) (hx : tB 0 b x) : tB 0 (b / c) (x / k) := by
  unfold tB at *
  have hb := Int32.toInt_lt x
  have h3 : 0 ≤ x.toInt.tdiv c := Int.tdiv_nonneg hx.1 (by omega)
  have h4 : x.toInt.tdiv c ≤ x.toInt := Int.tdiv_le_self _ hx.1
  have h5 : x.toInt.tdiv c = x.toInt / c := Int.tdiv_eq_ediv_of_nonneg hx.1
  rw [Int32.toInt_div, hk, bm_id (by omega) (by omega)]
  exact ⟨h3, by rw [h5]; exact Int.ediv_le_ediv hc hx.2⟩
theorem tB_wk {a b c d : Int} {x : Int32} (h : tB a b x) (h1 : c ≤ a) (h2 : b ≤ d) : tB c d x := ⟨Int.le_trans h1 h.1, Int.le_trans h.2 h2⟩
theorem tB_k (x : Int32) (n : Int) (h : x.toInt = n) : tB n n x := ⟨by rw [h]; exact Int.le_refl _, by rw [h]; exact Int.le_refl _⟩
theorem tB_ne {a b : Int} {x : Int32} (h : tB a b x) (h1 : 0 < a) : ¬ x = 0 := fun e => by
  unfold tB at h
  rw [e, show (0 : Int32).toInt = 0 from rfl] at h
  omega
theorem tB_of {x a b : Int32} (h : a ≤ x ∧ x ≤ b) : tB a.toInt b.toInt x := ⟨Int32.le_iff_toInt_le.mp h.1, Int32.le_iff_toInt_le.mp h.2⟩
theorem tB_ab {x : Int32} (h : tB (-63) 63 x) : tB 0 63 (ab x) := by
  unfold ab
  by_cases h0 : 0 ≤ x
  · rw [if_pos h0]
    exact ⟨Int32.le_iff_toInt_le.mp h0, h.2⟩
  · rw [if_neg h0]
    have h1 : ¬ (0 : Int32).toInt ≤ x.toInt := fun q => h0 (Int32.le_iff_toInt_le.mpr q)
    rw [show (0 : Int32).toInt = 0 from rfl] at h1
    have h2 : tB (-63) (-1) x := ⟨h.1, by omega⟩
    exact tB_wk (tB_sub (tB_k 0 0 rfl) h2 (by decide) (by decide)) (by decide) (by decide)
theorem tB_dsq {x y u v : Int32} (hx : tB 0 63 x) (hy : tB 0 63 y) (hu : tB 0 63 u) (hv : tB 0 63 v) : tB 4 16384 (dsq x y u v) := by
  have h1 := tB_ab (tB_wk (tB_sub hx hu (by decide) (by decide)) (by decide) (by decide))
  have h2 := tB_ab (tB_wk (tB_sub hy hv (by decide) (by decide)) (by decide) (by decide))
  have h3 := tB_add (tB_add h1 h2 (by decide) (by decide)) (tB_k 2 2 rfl) (by decide) (by decide)
  exact tB_wk (tB_mul h3 h3 (by decide) (by decide) (by decide)) (by decide) (by decide)
/-- what holds of every state of the system -/
def INV (nc nw : Nat) (cx cy ch rm wx wy dm sv : Nat → Int32) : Prop := nc ≤ 5 ∧ nw ≤ 6 ∧ (∀ c, c < nc → inC (cx c) (cy c) (ch c) (rm c)) ∧ (∀ w, w < nw → inW (wx w) (wy w) (dm w)) ∧ ∀ j, j < nw → SV nc (sv j)
section BD
variable {nc nw : Nat} {cx cy ch rm wx wy dm sv : Nat → Int32}
theorem INV.ihr (h : INV nc nw cx cy ch rm wx wy dm sv) : ∀ c, c < nc → ¬ rm c ≤ 0 := fun c hc q => by
  have h1 := (tB_of (h.2.2.1 c hc).2.2.2).1
  have h2 := Int32.le_iff_toInt_le.mp q
  rw [show (1 : Int32).toInt = 1 from rfl] at h1
  rw [show (0 : Int32).toInt = 0 from rfl] at h2
  omega
theorem INV.isd (h : INV nc nw cx cy ch rm wx wy dm sv) {c w : Nat} (hc : c < nc) (hw : w < nw) : tB 4 16384 (dsq (cx c) (cy c) (wx w) (wy w)) :=
  tB_dsq (tB_of (h.2.2.1 c hc).1) (tB_of (h.2.2.1 c hc).2.1) (tB_of (h.2.2.2.1 w hw).1) (tB_of (h.2.2.2.1 w hw).2.1)
theorem INV.ihg (h : INV nc nw cx cy ch rm wx wy dm sv) : ∀ c w, c < nc → w < nw → ¬ dsq (cx c) (cy c) (wx w) (wy w) = 0 := fun _ _ hc hw => tB_ne (h.isd hc hw) (by decide)
theorem INV.isg (h : INV nc nw cx cy ch rm wx wy dm sv) {c w : Nat} (hc : c < nc) (hw : w < nw) : tB 0 4000 (sg cx cy wx wy c w) := by
  have h1 := h.isd hc hw
  unfold sg
  generalize dsq (cx c) (cy c) (wx w) (wy w) = y at h1
  have h4 : (16000 : Int).tdiv y.toInt = 16000 / y.toInt := Int.tdiv_eq_ediv_of_nonneg (by decide)
  have h2 : 0 ≤ (16000 : Int) / y.toInt := Int.ediv_nonneg (by decide) (by have := h1.1; omega)
  have h3 : (16000 : Int) / y.toInt ≤ 4000 := by
    apply Int.ediv_le_of_le_mul (by have := h1.1; omega)
    have := h1.1
    omega
  unfold tB
  rw [Int32.toInt_div, show (16000 : Int32).toInt = 16000 from rfl, h4, bm_id (by omega) (by omega)]
  exact ⟨h2, h3⟩
theorem fld_tB {S dm : Nat → Int32} {c : Int32} {nw : Nat} (hd : ∀ w, w < nw → tB 1 10 (dm w)) (h6 : nw ≤ 6) : ∀ n : Nat, n ≤ nw → tB 0 (10 * n) (fld S dm c n)
  | 0, _ => tB_k 0 0 rfl
  | n + 1, hn => by
    have ih := fld_tB (S := S) (c := c) hd h6 n (by omega)
    unfold fld
    split
    · exact tB_wk (tB_add ih (hd n (by omega)) (by omega) (by omega)) (by omega) (by omega)
    · exact tB_wk ih (Int.le_refl _) (by omega)
theorem INV.idm (h : INV nc nw cx cy ch rm wx wy dm sv) : ∀ w, w < nw → tB 1 10 (dm w) := fun w hw => tB_of (h.2.2.2.1 w hw).2.2
theorem INV.ius (h : INV nc nw cx cy ch rm wx wy dm sv) (S : Nat → Int32) {c : Nat} (hc : c < nc) : tB 0 6000 (fus rm S dm nw c) := by
  have h1 : tB 0 60 (fld S dm (nI c) nw) := tB_wk (fld_tB h.idm h.2.1 nw (Nat.le_refl _)) (Int.le_refl _) (by have := h.2.1; omega)
  have h2 : tB 0 6000 (100 * fld S dm (nI c) nw) := tB_wk (tB_mul (tB_k 100 100 rfl) h1 (by decide) (by decide) (by decide)) (by decide) (by decide)
  exact tB_div h2 (tB_of (h.2.2.1 c hc).2.2.2)
theorem fdi_tB {ch on us s : Nat → Int32} {c nc : Nat} (hu : ∀ n, n < nc → tB 0 6000 (us n)) (hs : ∀ n, n < nc → tB 0 4000 (s n)) (h5 : nc ≤ 5) : ∀ n : Nat, n ≤ nc → tB 0 (240000 * n) (fdi ch on us s c n)
  | 0, _ => tB_k 0 0 rfl
  | n + 1, hn => by
    have ih := fdi_tB (ch := ch) (on := on) (c := c) hu hs h5 n (by omega)
    have h1 : tB 0 (24000000 / 100) (s n * us n / 100) := tB_divk 100 100 rfl (by decide) (tB_wk (tB_mul (hs n (by omega)) (hu n (by omega)) (by decide) (by decide) (by decide)) (by decide) (by decide))
    unfold fdi
    split
    · exact tB_wk ih (Int.le_refl _) (by omega)
    · split
      · exact tB_wk ih (Int.le_refl _) (by omega)
      · split
        · exact tB_wk (tB_add ih h1 (by omega) (by omega)) (by omega) (by omega)
        · exact tB_wk ih (Int.le_refl _) (by omega)
theorem INV.iden (h : INV nc nw cx cy ch rm wx wy dm sv) {on us : Nat → Int32} (hu : ∀ n, n < nc → tB 0 6000 (us n)) {c w : Nat} (hw : w < nw) : tB 10 1200010 (10 + fdi ch on us (sgw cx cy wx wy w) c nc) := by
  have h1 : tB 0 1200000 (fdi ch on us (sgw cx cy wx wy w) c nc) := tB_wk (fdi_tB hu (fun n hn => h.isg hn hw) h.1 nc (Nat.le_refl _)) (Int.le_refl _) (by have := h.1; omega)
  exact tB_wk (tB_add (tB_k 10 10 rfl) h1 (by decide) (by decide)) (by decide) (by decide)
theorem INV.ifil (h : INV nc nw cx cy ch rm wx wy dm sv) (S M : Nat → Int32) : ∀ n, n < nc → tB 0 6000 (fil nc (fus rm S dm nw) M n) := fun n hn => by
  unfold fil
  rw [if_pos hn]
  exact h.ius S hn
theorem INV.iGQ (h : INV nc nw cx cy ch rm wx wy dm sv) (on : Nat → Int32) : GQ nc nw cx cy ch on wx wy rm dm := fun S M _ _ _ hw => tB_ne (h.iden (h.ifil S M) hw) (by decide)
theorem INV.iqu (h : INV nc nw cx cy ch rm wx wy dm sv) {on us : Nat → Int32} (hu : ∀ n, n < nc → tB 0 6000 (us n)) {c w : Nat} (hc : c < nc) (hw : w < nw) : tB 0 40000 (fqu cx cy ch on wx wy us nc w c) := by
  have h1 : tB 0 400000 (100 * sg cx cy wx wy c w) := tB_wk (tB_mul (tB_k 100 100 rfl) (h.isg hc hw) (by decide) (by decide) (by decide)) (by decide) (by decide)
  have h2 := h.iden (on := on) hu (c := c) hw
  unfold fqu
  generalize hx : 100 * sg cx cy wx wy c w = x at h1
  generalize 10 + fdi ch on us (sgw cx cy wx wy w) c nc = y at h2
  have h4 : x.toInt.tdiv y.toInt = x.toInt / y.toInt := Int.tdiv_eq_ediv_of_nonneg h1.1
  have h5 : 0 ≤ x.toInt / y.toInt := Int.ediv_nonneg h1.1 (by have := h2.1; omega)
  have h6 : x.toInt / y.toInt ≤ 40000 := by
    apply Int.ediv_le_of_le_mul (by have := h2.1; omega)
    have := h2.1; have := h1.2
    omega
  unfold tB
  rw [Int32.toInt_div, h4, bm_id (by omega) (by omega)]
  exact ⟨h5, h6⟩
end BD
/-! what is measured depends on the first cells' uses alone -/
theorem fdi_cg {ch on us us' s : Nat → Int32} {c nc : Nat} (hu : ∀ n, n < nc → us n = us' n) : ∀ n : Nat, n ≤ nc → fdi ch on us s c n = fdi ch on us' s c n
  | 0, _ => rfl
  | n + 1, hn => by
    unfold fdi
    rw [fdi_cg hu n (by omega), hu n (by omega)]
theorem fqu_cg {cx cy ch on wx wy us us' : Nat → Int32} {nc w c : Nat} (hu : ∀ n, n < nc → us n = us' n) : fqu cx cy ch on wx wy us nc w c = fqu cx cy ch on wx wy us' nc w c := by
  unfold fqu
  rw [fdi_cg hu nc (Nat.le_refl _)]
theorem fil_cg {nc : Nat} {f M M' : Nat → Int32} : ∀ n, n < nc → fil nc f M n = fil nc f M' n := fun n hn => by
  unfold fil
  rw [if_pos hn, if_pos hn]
theorem fqu_fil {cx cy ch on wx wy rm sv dm M M' : Nat → Int32} {nc nw w c : Nat} : fqu cx cy ch on wx wy (fil nc (fus rm sv dm nw) M) nc w c = fqu cx cy ch on wx wy (fil nc (fus rm sv dm nw) M') nc w c := fqu_cg fil_cg
theorem fbo_cg {t q q' : Nat → Int32} : ∀ n : Nat, (∀ c, c < n → q c = q' c) → fbo t q n = fbo t q' n
  | 0, _ => rfl
  | n + 1, h => by
    have ih := fbo_cg (t := t) n (fun c hc => h c (by omega))
    unfold fbo
    rw [← ih]
    cases hb : fbo t q n with
    | none => rfl
    | some b => simp only [h n (by omega), h b (by have := fbo_lt hb; omega)]
theorem fts_cg {on dm rm : Nat → Int32} {nc nw : Nat} {Q Q' : Nat → Nat → Int32} {mg pt bd tk : Int32} {w : Nat} {z : TS} (hc : nc < 2 ^ 31) (h : ∀ c, c < nc → Q w c = Q' w c) (hz : SV nc (z.1 w)) : fts on dm rm nc nw Q mg pt bd tk w z = fts on dm rm nc nw Q' mg pt bd tk w z := by
  unfold fts
  rw [← fbo_cg (q := Q w) (q' := Q' w) nc h]
  by_cases h1 : z.1 w = -1
  · rw [if_pos h1, if_pos h1]
    cases hb : fbo (fun u => ftk on z.1 dm rm nw w u) (Q w) nc with
    | none => rfl
    | some k => simp only [h k (fbo_lt hb)]
  · rw [if_neg h1, if_neg h1]
    have h2 : (z.1 w).toNatClampNeg < nc := by
      rcases hz with hz | ⟨k, hk, hz⟩
      · exact absurd hz h1
      · rw [hz, nI_clamp (by omega)]; exact hk
    rw [← h _ h2]
    cases hb : fbo (fun u => ftk on z.1 dm rm nw w u) (Q w) nc with
    | none => rfl
    | some k => simp only [h k (fbo_lt hb)]
theorem ftw_cg {on dm rm : Nat → Int32} {nc nw : Nat} {Q Q' : Nat → Nat → Int32} {mg pt bd tk : Int32} {z : TS} (hc : nc < 2 ^ 31) (h : ∀ w c, w < nw → c < nc → Q w c = Q' w c) (hz : ∀ j, j < nw → SV nc (z.1 j)) : ∀ n : Nat, n ≤ nw → ftw on dm rm nc nw Q mg pt bd tk z n = ftw on dm rm nc nw Q' mg pt bd tk z n
  | 0, _ => rfl
  | n + 1, hn => by
    unfold ftw
    rw [← ftw_cg hc h hz n (by omega)]
    exact fts_cg hc (fun c hc => h n c (by omega) hc) (ftw_sv n hz n (by omega))
