/-! the class' search: the first of the greatest -/
def Vw (F : Nat → Nat → Int32) (nc : Nat) (d : Nat → Nat) : Nat → Int
  | 0 => 0
  | n + 1 => if nc ≤ d n then Vw F nc d n else Vw F nc d n + (F n (d n)).toInt
/-- what the weights F, and the state, keep to -/
def SH (nc nw : Nat) (on rm dm : Nat → Int32) (bd : Int32) (Q F : Nat → Nat → Int32) : Prop :=
  nc ≤ 5 ∧ nw ≤ 6 ∧ (∀ c, c < nc → tB 1 40 (rm c)) ∧ (∀ w, w < nw → tB 1 10 (dm w)) ∧ (∀ u c, u < nw → c < nc → tB 0 1040000 (F u c)) ∧ ∀ u c, u < nw → c < nc → (F u c ≤ 0 ↔ on c = 0 ∨ Q u c < bd)
def enc (nc x : Nat) : Int32 := if nc ≤ x then -1 else nI x
def feas (nc nw : Nat) (on rm dm : Nat → Int32) (bd : Int32) (Q : Nat → Nat → Int32) (N : Nat) : Prop := fok on rm dm bd Q (dg nc nw N) nc nw = true
/-- the first of the greatest among the numbers below M -/
def Opt (nc nw : Nat) (on rm dm : Nat → Int32) (bd : Int32) (Q F : Nat → Nat → Int32) (M : Nat) (be : Nat → Int32) (bw : Int32) : Prop :=
  (bw.toInt = -1 ∧ ∀ N, N < M → ¬ feas nc nw on rm dm bd Q N) ∨
  ∃ N0, N0 < M ∧ feas nc nw on rm dm bd Q N0 ∧ bw.toInt = Vw F nc (dg nc nw N0) nw ∧ (∀ N, N < M → feas nc nw on rm dm bd Q N → Vw F nc (dg nc nw N) nw ≤ Vw F nc (dg nc nw N0) nw) ∧ (∀ N, N < N0 → feas nc nw on rm dm bd Q N → Vw F nc (dg nc nw N) nw < Vw F nc (dg nc nw N0) nw) ∧ ∀ j, j < nw → be j = enc nc (dg nc nw N0 j)
section SE
variable {nc nw : Nat} {on rm dm : Nat → Int32} {bd : Int32} {Q F : Nat → Nat → Int32}
theorem Vw_cg {d d' : Nat → Nat} : ∀ n : Nat, (∀ j, j < n → d j = d' j) → Vw F nc d n = Vw F nc d' n
  | 0, _ => rfl
  | n + 1, h => by
    unfold Vw
    rw [Vw_cg n (fun j hj => h j (by omega)), h n (by omega)]
theorem fgl_cg {d d' : Nat → Nat} {c : Nat} : ∀ n : Nat, (∀ j, j < n → d j = d' j) → fgl d dm c n = fgl d' dm c n
  | 0, _ => rfl
  | n + 1, h => by
    unfold fgl
    rw [fgl_cg n (fun j hj => h j (by omega)), h n (by omega)]
theorem fok_cg {d d' : Nat → Nat} : ∀ n : Nat, (∀ j, j < n → d j = d' j) → fok on rm dm bd Q d nc n = fok on rm dm bd Q d' nc n
  | 0, _ => rfl
  | n + 1, h => by
    unfold fok
    rw [fok_cg n (fun j hj => h j (by omega)), h n (by omega), fgl_cg (n + 1) h]
theorem fok_pre {d : Nat → Nat} {n m : Nat} (hm : n ≤ m) (h : fok on rm dm bd Q d nc m = true) : fok on rm dm bd Q d nc n = true := by
  cases hb : fok on rm dm bd Q d nc n with
  | true => rfl
  | false => rw [fok_false hm hb] at h; cases h
theorem Vw_b (H : SH nc nw on rm dm bd Q F) {d : Nat → Nat} : ∀ n : Nat, n ≤ nw → 0 ≤ Vw F nc d n ∧ Vw F nc d n ≤ 1040000 * n
  | 0, _ => ⟨Int.le_refl _, Int.le_refl _⟩
  | n + 1, hn => by
    have ih := Vw_b H (d := d) n (by omega)
    unfold Vw
    by_cases h : nc ≤ d n
    · rw [if_pos h]; omega
    · rw [if_neg h]
      have := H.2.2.2.2.1 n (d n) (by omega) (by omega)
      unfold tB at this
      omega
theorem fgl_b (H : SH nc nw on rm dm bd Q F) {d : Nat → Nat} {c : Nat} : ∀ n : Nat, n ≤ nw → tB 0 (10 * n) (fgl d dm c n)
  | 0, _ => tB_k 0 0 rfl
  | n + 1, hn => by
    have ih := fgl_b H (d := d) (c := c) n (by omega)
    have := H.2.1
    unfold fgl
    split
    · exact tB_wk (tB_add ih (H.2.2.2.1 n (by omega)) (by omega) (by omega)) (by omega) (by omega)
    · exact tB_wk ih (Int.le_refl _) (by omega)
theorem dg_pre {N w j : Nat} (hw : w ≤ nw) (hj : j < w) : dg nc nw N j = dg nc w (N / (nc + 1) ^ (nw - w)) j := by
  unfold dg
  rw [Nat.div_div_eq_div_mul, ← Nat.pow_add, show nw - w + (w - 1 - j) = nw - 1 - j by omega]
theorem dg_snoc {a c w : Nat} (hc : c ≤ nc) : dg nc (w + 1) (a * (nc + 1) + c) w = c := by
  unfold dg
  rw [show w + 1 - 1 - w = 0 by omega, Nat.pow_zero, Nat.div_one, Nat.add_comm, Nat.add_mul_mod_self_right, Nat.mod_eq_of_lt (by omega)]
theorem dg_init {a c w j : Nat} (hc : c ≤ nc) (hj : j < w) : dg nc (w + 1) (a * (nc + 1) + c) j = dg nc w a j := by
  rw [dg_pre (nw := w + 1) (w := w) (by omega) hj, show w + 1 - w = 1 by omega, Nat.pow_one, Nat.add_comm, Nat.add_mul_div_right _ _ (Nat.succ_pos nc), Nat.div_eq_of_lt (by omega), Nat.zero_add]
theorem fmx_ge {f : Nat → Int32} {c : Nat} : ∀ n : Nat, c < n → (f c).toInt ≤ (fmx f n).toInt
  | 0, h => by omega
  | n + 1, h => by
    show (f c).toInt ≤ (mx (fmx f n) (f n)).toInt
    unfold mx
    by_cases e : c = n
    · subst e
      split
      · exact Int.le_refl _
      · next q => exact Int32.le_iff_toInt_le.mp (Int32.not_lt.mp q)
    · have ih := fmx_ge (f := f) (c := c) n (by omega)
      split
      · next q => exact Int.le_trans ih (Int.le_of_lt (Int32.lt_iff_toInt_lt.mp q))
      · exact ih
theorem fmx_b {f : Nat → Int32} {b : Int} : ∀ n : Nat, 0 ≤ b → (∀ c, c < n → tB 0 b (f c)) → tB 0 b (fmx f n)
  | 0, hb, _ => ⟨Int.le_refl _, hb⟩
  | n + 1, hb, h => by
    have ih := fmx_b (f := f) n hb (fun c hc => h c (by omega))
    show tB 0 b (mx (fmx f n) (f n))
    unfold mx
    split
    · exact h n (by omega)
    · exact ih
/-- what may be hoped for is never too little -/
theorem fho_b (H : SH nc nw on rm dm bd Q F) : ∀ i : Nat, i ≤ nw → tB 0 (1040000 * i) (fho (fun u => fmx (F u) nc) nw i)
  | 0, _ => tB_k 0 0 rfl
  | i + 1, hi => by
    have ih := fho_b H i (by omega)
    have h2 : tB 0 1040000 (fmx (F (nw - (i + 1))) nc) := fmx_b nc (by decide) (fun c hc => H.2.2.2.2.1 _ c (by omega) hc)
    have := H.2.1
    unfold fho
    exact tB_wk (tB_add ih h2 (by omega) (by omega)) (by omega) (by omega)
theorem fho_ge (H : SH nc nw on rm dm bd Q F) {d : Nat → Nat} : ∀ i : Nat, i ≤ nw → Vw F nc d nw - Vw F nc d (nw - i) ≤ (fho (fun u => fmx (F u) nc) nw i).toInt
  | 0, _ => by rw [Nat.sub_zero, Int.sub_self]; exact Int.le_refl _
  | i + 1, hi => by
    have ih := fho_ge H (d := d) i (by omega)
    have h1 := fho_b H i (by omega)
    have h2 : tB 0 1040000 (fmx (F (nw - (i + 1))) nc) := fmx_b nc (by decide) (fun c hc => H.2.2.2.2.1 _ c (by omega) hc)
    have h6 := H.2.1
    have e : Vw F nc d (nw - i) = (if nc ≤ d (nw - (i + 1)) then Vw F nc d (nw - (i + 1)) else Vw F nc d (nw - (i + 1)) + (F (nw - (i + 1)) (d (nw - (i + 1)))).toInt) := by
      rw [show nw - i = (nw - (i + 1)) + 1 by omega]
      rfl
    unfold fho
    unfold tB at h1 h2
    rw [Int32.toInt_add, bm_id (by omega) (by omega)]
    by_cases h : nc ≤ d (nw - (i + 1))
    · rw [if_pos h] at e; omega
    · rw [if_neg h] at e
      have := fmx_ge (f := F (nw - (i + 1))) (c := d (nw - (i + 1))) nc (by omega)
      omega
theorem Opt_skip (H : SH nc nw on rm dm bd Q F) {M M' : Nat} {be : Nat → Int32} {bw : Int32} (h : Opt nc nw on rm dm bd Q F M be bw) (hm : M ≤ M') (hs : ∀ N, M ≤ N → N < M' → feas nc nw on rm dm bd Q N → Vw F nc (dg nc nw N) nw ≤ bw.toInt) : Opt nc nw on rm dm bd Q F M' be bw := by
  rcases h with ⟨h1, h2⟩ | ⟨N0, g1, g2, g3, g4, g5, g6⟩
  · refine Or.inl ⟨h1, fun N hN hf => ?_⟩
    by_cases q : N < M
    · exact h2 N q hf
    · have h3 := hs N (by omega) hN hf
      have h4 := (Vw_b H (d := dg nc nw N) nw (Nat.le_refl _)).1
      omega
  · refine Or.inr ⟨N0, by omega, g2, g3, fun N hN hf => ?_, g5, g6⟩
    by_cases q : N < M
    · exact g4 N q hf
    · rw [← g3]; exact hs N (by omega) hN hf
theorem Opt_take {M : Nat} {be be' : Nat → Int32} {bw bw' : Int32} (h : Opt nc nw on rm dm bd Q F M be bw) (hf : feas nc nw on rm dm bd Q M) (hb : bw'.toInt = Vw F nc (dg nc nw M) nw) (hlt : bw.toInt < bw'.toInt) (he : ∀ j, j < nw → be' j = enc nc (dg nc nw M j)) : Opt nc nw on rm dm bd Q F (M + 1) be' bw' := by
  have key : ∀ N, N < M → feas nc nw on rm dm bd Q N → Vw F nc (dg nc nw N) nw < Vw F nc (dg nc nw M) nw := by
    intro N hN hq
    rcases h with ⟨h1, h2⟩ | ⟨N0, g1, g2, g3, g4, g5, g6⟩
    · exact absurd hq (h2 N hN)
    · have := g4 N hN hq
      omega
  refine Or.inr ⟨M, by omega, hf, hb, fun N hN hq => ?_, key, he⟩
  by_cases q : N < M
  · exact Int.le_of_lt (key N q hq)
  · rw [show N = M by omega]; exact Int.le_refl _
/-- of the numbers in a part: their first digits -/
theorem part_pre {a w N : Nat} (hw : w ≤ nw) (h1 : a * (nc + 1) ^ (nw - w) ≤ N) (h2 : N < (a + 1) * (nc + 1) ^ (nw - w)) : ∀ j, j < w → dg nc nw N j = dg nc w a j := by
  intro j hj
  have : N / (nc + 1) ^ (nw - w) = a := Nat.div_eq_of_lt_le h1 h2
  rw [dg_pre hw hj, this]
/-- the state of the search at a place: the first w walkers' digits are a's -/
def AT (nc nw : Nat) (on rm dm : Nat → Int32) (bd : Int32) (Q F : Nat → Nat → Int32) (a w : Nat) (g : Int32) (s : S4) : Prop :=
  fok on rm dm bd Q (dg nc w a) nc w = true ∧ (∀ c, c < nc → s.1 c = rm c - fgl (dg nc w a) dm c w) ∧ (∀ j, j < w → s.2.1 j = enc nc (dg nc w a j)) ∧ g.toInt = Vw F nc (dg nc w a) w ∧ Opt nc nw on rm dm bd Q F (a * (nc + 1) ^ (nw - w)) s.2.2.1 s.2.2.2
def DN (nc nw : Nat) (on rm dm : Nat → Int32) (bd : Int32) (Q F : Nat → Nat → Int32) (M w : Nat) (s s' : S4) : Prop :=
  (∀ c, c < nc → s'.1 c = s.1 c) ∧ (∀ j, j < w → s'.2.1 j = s.2.1 j) ∧ Opt nc nw on rm dm bd Q F M s'.2.2.1 s'.2.2.2
theorem fok_snoc {a c w : Nat} (hc : c ≤ nc) : fok on rm dm bd Q (dg nc (w + 1) (a * (nc + 1) + c)) nc (w + 1) = (if fok on rm dm bd Q (dg nc w a) nc w = true then (if nc ≤ c then true else if on c = 0 then false else if Q w c < bd then false else if fgl (dg nc w a) dm c w + dm w ≤ rm c then true else false) else false) := by
  have e1 : fok on rm dm bd Q (dg nc (w + 1) (a * (nc + 1) + c)) nc w = fok on rm dm bd Q (dg nc w a) nc w := fok_cg w (fun j hj => dg_init hc hj)
  have e2 : fgl (dg nc (w + 1) (a * (nc + 1) + c)) dm c w = fgl (dg nc w a) dm c w := fgl_cg w (fun j hj => dg_init hc hj)
  rw [fok, e1, dg_snoc hc, fgl, dg_snoc hc, if_pos (rfl : c = c), e2]
theorem fgl_snoc {a c c2 w : Nat} (hc : c ≤ nc) : fgl (dg nc (w + 1) (a * (nc + 1) + c)) dm c2 (w + 1) = (if c = c2 then fgl (dg nc w a) dm c2 w + dm w else fgl (dg nc w a) dm c2 w) := by
  have e2 : fgl (dg nc (w + 1) (a * (nc + 1) + c)) dm c2 w = fgl (dg nc w a) dm c2 w := fgl_cg w (fun j hj => dg_init hc hj)
  rw [fgl, dg_snoc hc, e2]
theorem Vw_snoc {a c w : Nat} (hc : c ≤ nc) : Vw F nc (dg nc (w + 1) (a * (nc + 1) + c)) (w + 1) = (if nc ≤ c then Vw F nc (dg nc w a) w else Vw F nc (dg nc w a) w + (F w c).toInt) := by
  have e2 : Vw F nc (dg nc (w + 1) (a * (nc + 1) + c)) w = Vw F nc (dg nc w a) w := Vw_cg w (fun j hj => dg_init hc hj)
  rw [Vw, dg_snoc hc, e2]
theorem pw_step {B a c k : Nat} (hk : 0 < k) : (a * B + c) * B ^ (k - 1) = a * B ^ k + c * B ^ (k - 1) := by
  rw [Nat.add_mul, Nat.mul_assoc, ← Nat.pow_succ', show (k - 1).succ = k by omega]
/-- one cell after another -/
theorem fpi_ok (H : SH nc nw on rm dm bd Q F) {wo : Nat → Nat → Int32} {f : Int32 → S4 → S4} {a w : Nat} {g : Int32} {s : S4} (hw : w < nw) (hwo : ∀ c, c < nc → wo w c = F w c)
    (hf : ∀ (c : Nat) (g' : Int32) (s' : S4), c < nc → AT nc nw on rm dm bd Q F (a * (nc + 1) + c) (w + 1) g' s' → DN nc nw on rm dm bd Q F ((a * (nc + 1) + c + 1) * (nc + 1) ^ (nw - (w + 1))) (w + 1) s' (f g' s'))
    (hA : AT nc nw on rm dm bd Q F a w g s) : ∀ c : Nat, c ≤ nc → DN nc nw on rm dm bd Q F ((a * (nc + 1) + c) * (nc + 1) ^ (nw - (w + 1))) w s (fpi f (wo w) (dm w) w g s c)
  | 0, _ => by
    refine ⟨fun _ _ => rfl, fun _ _ => rfl, ?_⟩
    have e : (a * (nc + 1) + 0) * (nc + 1) ^ (nw - (w + 1)) = a * (nc + 1) ^ (nw - w) := by
      rw [Nat.add_zero, Nat.mul_assoc, ← Nat.pow_succ', show (nw - (w + 1)).succ = nw - w by omega]
    rw [e]
    exact hA.2.2.2.2
  | c + 1, hc => by
    have ih := fpi_ok H hw hwo hf hA c (by omega)
    obtain ⟨i1, i2, i3⟩ := ih
    have h6 := H.2.1
    have hskip : fok on rm dm bd Q (dg nc (w + 1) (a * (nc + 1) + c)) nc (w + 1) = false → Opt nc nw on rm dm bd Q F ((a * (nc + 1) + (c + 1)) * (nc + 1) ^ (nw - (w + 1))) (fpi f (wo w) (dm w) w g s c).2.2.1 (fpi f (wo w) (dm w) w g s c).2.2.2 := by
      intro hno
      refine Opt_skip H i3 (Nat.mul_le_mul_right _ (by omega)) (fun N h1 h2 h3 => ?_)
      have h4 := part_pre (nc := nc) (nw := nw) (a := a * (nc + 1) + c) (w := w + 1) (by omega) h1 h2
      have h5 := fok_pre (show w + 1 ≤ nw by omega) h3
      rw [fok_cg (w + 1) h4, hno] at h5
      cases h5
    have hfw := H.2.2.2.2.2 w c hw (by omega)
    have hgl := fgl_b H (d := dg nc w a) (c := c) w (by omega)
    have hrm := H.2.2.1 c (by omega)
    have hdm := H.2.2.2.1 w hw
    have hrl : (fpi f (wo w) (dm w) w g s c).1 c = rm c - fgl (dg nc w a) dm c w := by rw [i1 c (by omega), hA.2.1 c (by omega)]
    have hroom : ((fpi f (wo w) (dm w) w g s c).1 c < dm w) ↔ ¬ (fgl (dg nc w a) dm c w + dm w ≤ rm c) := by
      rw [hrl, Int32.lt_iff_toInt_lt, Int32.le_iff_toInt_le]
      unfold tB at hgl hrm hdm
      rw [Int32.toInt_sub, Int32.toInt_add, bm_id (by omega) (by omega), bm_id (by omega) (by omega)]
      omega
    have hsn := fok_snoc (on := on) (rm := rm) (dm := dm) (bd := bd) (Q := Q) (a := a) (w := w) (show c ≤ nc by omega)
    rw [if_pos hA.1, if_neg (show ¬ nc ≤ c by omega)] at hsn
    unfold fpi
    by_cases c1 : wo w c ≤ 0
    · rw [if_pos c1]
      refine ⟨i1, i2, hskip ?_⟩
      rw [hwo c (by omega)] at c1
      rw [hsn]
      rcases hfw.mp c1 with q | q
      · rw [if_pos q]
      · rw [if_pos q]; split <;> rfl
    · rw [if_neg c1]
      rw [hwo c (by omega)] at c1
      have n1 : ¬ on c = 0 := fun q => c1 (hfw.mpr (Or.inl q))
      have n2 : ¬ Q w c < bd := fun q => c1 (hfw.mpr (Or.inr q))
      rw [if_neg n1, if_neg n2] at hsn
      by_cases c2 : (fpi f (wo w) (dm w) w g s c).1 c < dm w
      · rw [if_pos c2]
        refine ⟨i1, i2, hskip ?_⟩
        rw [hsn, if_neg (hroom.mp c2)]
      · rw [if_neg c2]
        have n3 : fgl (dg nc w a) dm c w + dm w ≤ rm c := by
          by_cases q : fgl (dg nc w a) dm c w + dm w ≤ rm c
          · exact q
          · exact absurd (hroom.mpr q) c2
        rw [if_pos n3] at hsn
        have hV := Vw_b H (d := dg nc w a) w (by omega)
        have hF := H.2.2.2.2.1 w c hw (by omega)
        have hat : AT nc nw on rm dm bd Q F (a * (nc + 1) + c) (w + 1) (g + wo w c) (upd (fpi f (wo w) (dm w) w g s c).1 c ((fpi f (wo w) (dm w) w g s c).1 c - dm w), upd (fpi f (wo w) (dm w) w g s c).2.1 w (nI c), (fpi f (wo w) (dm w) w g s c).2.2.1, (fpi f (wo w) (dm w) w g s c).2.2.2) := by
          refine ⟨hsn, fun c2 hc2 => ?_, fun j hj => ?_, ?_, i3⟩
          · show (if c2 = c then _ else _) = _
            rw [fgl_snoc (by omega)]
            by_cases q : c2 = c
            · subst q
              rw [if_pos rfl, if_pos rfl, hrl, Int32.sub_sub]
            · rw [if_neg q, if_neg (fun h => q h.symm), i1 c2 hc2, hA.2.1 c2 hc2]
          · show (if j = w then _ else _) = _
            by_cases q : j = w
            · subst q
              rw [if_pos rfl, dg_snoc (by omega), enc, if_neg (by omega)]
            · rw [if_neg q, dg_init (by omega) (by omega), i2 j (by omega), hA.2.2.1 j (by omega)]
          · rw [Vw_snoc (by omega), if_neg (by omega), hwo c (by omega), Int32.toInt_add, hA.2.2.2.1]
            unfold tB at hF
            rw [bm_id (by omega) (by omega)]
        obtain ⟨r1, r2, r3⟩ := hf c _ _ (by omega) hat
        refine ⟨fun c2 hc2 => ?_, fun j hj => ?_, r3⟩
        · show (if c2 = c then _ else _) = _
          by_cases q : c2 = c
          · rw [if_pos q, r1 c (by omega), q]
            show (if c = c then (fpi f (wo w) (dm w) w g s c).1 c - dm w else _) + dm w = _
            rw [if_pos rfl, Int32.sub_add_cancel, i1 c (by omega)]
          · rw [if_neg q, r1 c2 hc2]
            show (if c2 = c then _ else _) = _
            rw [if_neg q, i1 c2 hc2]
        · show _ = s.2.1 j
          rw [r2 j (by omega)]
          show (if j = w then _ else _) = _
          rw [if_neg (by omega), i2 j hj]
/-- the search from a place on -/
theorem fpl_ok (H : SH nc nw on rm dm bd Q F) {hp : Nat → Int32} {wo : Nat → Nat → Int32} (hhp : ∀ t, t ≤ nw → hp t = fho (fun u => fmx (F u) nc) nw (nw - t)) (hwo : ∀ t c, t < nw → c < nc → wo t c = F t c) : ∀ (k a w : Nat) (g : Int32) (s : S4), w ≤ nw → nw + 1 ≤ w + k → AT nc nw on rm dm bd Q F a w g s → DN nc nw on rm dm bd Q F ((a + 1) * (nc + 1) ^ (nw - w)) w s (fpl hp wo dm nc nw k w g s)
  | 0, a, w, g, s, h1, h2, _ => absurd h2 (by omega)
  | k + 1, a, w, g, s, hw, hk, hA => by
    have h6 := H.2.1
    have hV := Vw_b H (d := dg nc w a) w hw
    have hh := fho_b H (nw - w) (by omega)
    have hgh : (g + hp w).toInt = Vw F nc (dg nc w a) w + (hp w).toInt := by
      rw [← hhp w hw] at hh
      unfold tB at hh
      rw [Int32.toInt_add, hA.2.2.2.1, bm_id (by omega) (by omega)]
    unfold fpl
    by_cases c1 : g + hp w ≤ s.2.2.2
    · rw [if_pos c1]
      refine ⟨fun _ _ => rfl, fun _ _ => rfl, Opt_skip H hA.2.2.2.2 (Nat.mul_le_mul_right _ (by omega)) (fun N h1 h2 h3 => ?_)⟩
      have h4 := part_pre (nc := nc) hw h1 h2
      have h5 := fho_ge H (d := dg nc nw N) (nw - w) (by omega)
      rw [show nw - (nw - w) = w by omega, Vw_cg w h4, ← hhp w hw] at h5
      have h7 := Int32.le_iff_toInt_le.mp c1
      omega
    · rw [if_neg c1]
      have c1' := Int32.lt_iff_toInt_lt.mp (Int32.not_le.mp c1)
      by_cases c2 : nw ≤ w
      · rw [if_pos c2]
        have hwn : w = nw := by omega
        subst hwn
        refine ⟨fun _ _ => rfl, fun _ _ => rfl, ?_⟩
        have hO := hA.2.2.2.2
        rw [Nat.sub_self, Nat.pow_zero, Nat.mul_one] at hO ⊢
        rw [hhp w (Nat.le_refl _), Nat.sub_self] at hgh c1'
        have h0 : (fho (fun u => fmx (F u) nc) w 0).toInt = 0 := rfl
        exact Opt_take hO hA.1 hA.2.2.2.1 (by rw [hA.2.2.2.1]; omega) (fun j hj => by show va_cpy s.2.1 s.2.2.1 0 0 w j = _; rw [pk_cpy_in (by omega) (by omega), show 0 + (j - 0) = j by omega]; exact hA.2.2.1 j hj)
      · rw [if_neg c2]
        have hw2 : w < nw := by omega
        have hin := fpi_ok H (wo := wo) (f := fpl hp wo dm nc nw k (w + 1)) hw2 (fun c hc => hwo w c hw2 hc) (fun c g' s' hc hat => fpl_ok H hhp hwo k _ (w + 1) g' s' (by omega) (by omega) hat) hA nc (Nat.le_refl _)
        obtain ⟨i1, i2, i3⟩ := hin
        have hat : AT nc nw on rm dm bd Q F (a * (nc + 1) + nc) (w + 1) g ((fpi (fpl hp wo dm nc nw k (w + 1)) (wo w) (dm w) w g s nc).1, upd (fpi (fpl hp wo dm nc nw k (w + 1)) (wo w) (dm w) w g s nc).2.1 w (-1), (fpi (fpl hp wo dm nc nw k (w + 1)) (wo w) (dm w) w g s nc).2.2.1, (fpi (fpl hp wo dm nc nw k (w + 1)) (wo w) (dm w) w g s nc).2.2.2) := by
          refine ⟨?_, fun c2 hc2 => ?_, fun j hj => ?_, ?_, i3⟩
          · rw [fok_snoc (Nat.le_refl _), if_pos hA.1, if_pos (Nat.le_refl _)]
          · show (fpi (fpl hp wo dm nc nw k (w + 1)) (wo w) (dm w) w g s nc).1 c2 = _
            rw [fgl_snoc (Nat.le_refl _), if_neg (by omega), i1 c2 hc2, hA.2.1 c2 hc2]
          · show (if j = w then _ else _) = _
            by_cases q : j = w
            · subst q
              rw [if_pos rfl, dg_snoc (Nat.le_refl _), enc, if_pos (Nat.le_refl _)]
            · rw [if_neg q, dg_init (Nat.le_refl _) (by omega), i2 j (by omega), hA.2.2.1 j (by omega)]
          · rw [Vw_snoc (Nat.le_refl _), if_pos (Nat.le_refl _)]
            exact hA.2.2.2.1
        obtain ⟨r1, r2, r3⟩ := fpl_ok H hhp hwo k _ (w + 1) g _ (by omega) (by omega) hat
        refine ⟨fun c hc => (r1 c hc).trans (i1 c hc), fun j hj => ?_, ?_⟩
        · rw [r2 j (by omega)]
          show (if j = w then _ else _) = _
          rw [if_neg (by omega), i2 j hj]
        · have e : (a * (nc + 1) + nc + 1) * (nc + 1) ^ (nw - (w + 1)) = (a + 1) * (nc + 1) ^ (nw - w) := by
            rw [Nat.add_assoc, show a * (nc + 1) + (nc + 1) = (a + 1) * (nc + 1) by rw [Nat.add_mul, Nat.one_mul], Nat.mul_assoc, ← Nat.pow_succ', show (nw - (w + 1)).succ = nw - w by omega]
          rw [e] at r3
          exact r3
end SE
