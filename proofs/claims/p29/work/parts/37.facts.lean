/-! the law's assignments: digits to the base 5, the first walker's the lowest, 4 being none -/
def kok (on rm dm : Nat → Int32) (bd : Int32) (Q : Nat → Nat → Int32) (nc : Nat) (g : Nat → Nat) : Nat → Bool
  | 0 => true
  | n + 1 => if kok on rm dm bd Q nc g n = true then (if 4 ≤ g n then true else if nc ≤ g n then false else if on (g n) = 0 then false else if Q n (g n) < bd then false else if fgl g dm (g n) (n + 1) ≤ rm (g n) then true else false) else false
def kbz : Bool → Int32
  | true => 1
  | false => 0
theorem kbz_0 {b : Bool} (h : kbz b = 0) : ¬ b = true := fun e => by rw [e] at h; exact absurd h (by decide)
theorem kbz_1 {b : Bool} (h : ¬ kbz b = 0) : b = true := by
  cases b with
  | true => rfl
  | false => exact absurd rfl h
def dl (N j : Nat) : Nat := N / 5 ^ j % 5
def psi (nc : Nat) (g : Nat → Nat) : Nat → Nat := fun j => if 4 ≤ g j then nc else g j
def chi (nc : Nat) (d : Nat → Nat) : Nat → Nat := fun j => if nc ≤ d j then 4 else d j
def LX (nw : Nat) (g b : Nat → Nat) : Prop := ∃ t, t < nw ∧ (∀ j, j < t → g j = b j) ∧ g t < b t
def kv (Q : Nat → Nat → Int32) (nw : Nat) (g : Nat → Nat) : Int := 1000000 * (fsv g 4 nw).toInt + (fsu Q g 4 nw).toInt
/-- the best of the numbers below M -/
def RB (nc nw : Nat) (on rm dm : Nat → Int32) (bd : Int32) (Q : Nat → Nat → Int32) (M : Nat) (ms sm : Int32) (B : Nat → Nat) : Prop :=
  (∀ j, j < nw → B j ≤ 4) ∧ kok on rm dm bd Q nc B nw = true ∧ ms = fsv B 4 nw ∧ sm = fsu Q B 4 nw ∧
  ∀ N, N < M → kok on rm dm bd Q nc (dl N) nw = true → kv Q nw (dl N) ≤ kv Q nw B ∧ (kv Q nw (dl N) = kv Q nw B → ¬ LX nw (dl N) B)
/-- the greatest demand of the numbers below M -/
def RD (nc nw : Nat) (on rm dm : Nat → Int32) (bd : Int32) (Q : Nat → Nat → Int32) (M : Nat) (de : Int32) : Prop :=
  (∀ N, N < M → kok on rm dm bd Q nc (dl N) nw = true → (fsd dm (dl N) 4 nw).toInt ≤ de.toInt) ∧ ∃ g : Nat → Nat, (∀ j, j < nw → g j ≤ 4) ∧ kok on rm dm bd Q nc g nw = true ∧ de = fsd dm g 4 nw
theorem dl_le {N j : Nat} : dl N j ≤ 4 := Nat.lt_succ_iff.mp (Nat.mod_lt _ (by decide))
theorem LX_irr {nw : Nat} {g : Nat → Nat} : ¬ LX nw g g := fun ⟨_, _, _, h⟩ => Nat.lt_irrefl _ h
theorem LX_tr {nw : Nat} {a b c : Nat → Nat} (h1 : LX nw a b) (h2 : LX nw b c) : LX nw a c := by
  obtain ⟨t, p1, p2, p3⟩ := h1
  obtain ⟨u, q1, q2, q3⟩ := h2
  rcases Nat.lt_trichotomy t u with e | e | e
  · exact ⟨t, p1, fun j hj => (p2 j hj).trans (q2 j (by omega)), by rw [← q2 t e]; exact p3⟩
  · subst e; exact ⟨t, p1, fun j hj => (p2 j hj).trans (q2 j hj), by omega⟩
  · exact ⟨u, q1, fun j hj => (p2 j (by omega)).trans (q2 j hj), by rw [p2 u e]; exact q3⟩
theorem LX_no {nw t : Nat} {g b : Nat → Nat} (h : ∀ j, j < t → g j = b j) (hn : t < nw → b t < g t ∨ False) : ¬ LX nw g b := by
  rintro ⟨u, q1, q2, q3⟩
  rcases Nat.lt_trichotomy u t with e | e | e
  · have := h u e; omega
  · subst e
    rcases hn q1 with h2 | h2
    · omega
    · exact h2
  · have h1 := q2 t e
    rcases hn (by omega) with h2 | h2
    · omega
    · exact h2
section KQ
variable {nc nw : Nat} {on rm dm : Nat → Int32} {bd : Int32} {Q : Nat → Nat → Int32}
theorem kok4 {g : Nat → Nat} {n : Nat} (h : 4 ≤ g n) : kok on rm dm bd Q nc g (n + 1) = kok on rm dm bd Q nc g n := by
  rw [kok, if_pos h]
  cases kok on rm dm bd Q nc g n <;> rfl
theorem kok_dom {g : Nat → Nat} : ∀ n : Nat, kok on rm dm bd Q nc g n = true → ∀ j, j < n → g j < nc ∨ 4 ≤ g j
  | 0, _, j, hj => absurd hj (Nat.not_lt_zero _)
  | n + 1, h, j, hj => by
    rw [kok] at h
    by_cases h1 : kok on rm dm bd Q nc g n = true
    · rw [if_pos h1] at h
      by_cases e : j = n
      · subst e
        by_cases h4 : 4 ≤ g j
        · exact Or.inr h4
        · rw [if_neg h4] at h
          by_cases h5 : nc ≤ g j
          · rw [if_pos h5] at h; cases h
          · exact Or.inl (by omega)
      · exact kok_dom n h1 j (by omega)
    · rw [if_neg h1] at h; cases h
theorem fgl_psi {g : Nat → Nat} {c : Nat} (h4 : nc ≤ 4) (hc : c < nc) : ∀ n : Nat, fgl (psi nc g) dm c n = fgl g dm c n
  | 0 => rfl
  | n + 1 => by
    rw [fgl, fgl, fgl_psi h4 hc n]
    by_cases e : g n = c
    · rw [if_pos e, if_pos (show psi nc g n = c by unfold psi; rw [if_neg (by omega)]; exact e)]
    · rw [if_neg e, if_neg (show ¬ psi nc g n = c by unfold psi; split <;> omega)]
theorem kok_fok {g : Nat → Nat} (h4 : nc ≤ 4) : ∀ n : Nat, (∀ j, j < n → g j < nc ∨ 4 ≤ g j) → kok on rm dm bd Q nc g n = fok on rm dm bd Q (psi nc g) nc n
  | 0, _ => rfl
  | n + 1, h => by
    rw [kok, fok, kok_fok h4 n (fun j hj => h j (by omega))]
    by_cases h0 : fok on rm dm bd Q (psi nc g) nc n = true
    · rw [if_pos h0, if_pos h0]
      by_cases h1 : 4 ≤ g n
      · rw [if_pos h1, if_pos (show nc ≤ psi nc g n by unfold psi; rw [if_pos h1]; exact Nat.le_refl _)]
      · have e : psi nc g n = g n := by unfold psi; rw [if_neg h1]
        have h2 : ¬ nc ≤ g n := by have := h n (by omega); omega
        rw [if_neg h1, e, if_neg h2, if_neg h2, fgl_psi h4 (by omega)]
    · rw [if_neg h0, if_neg h0]
theorem fsv_psi {g : Nat → Nat} (h4 : nc ≤ 4) : ∀ n : Nat, (∀ j, j < n → g j < nc ∨ 4 ≤ g j) → fsv (psi nc g) nc n = fsv g 4 n
  | 0, _ => rfl
  | n + 1, h => by
    rw [fsv, fsv, fsv_psi h4 n (fun j hj => h j (by omega))]
    have h0 := h n (by omega)
    by_cases h1 : 4 ≤ g n
    · rw [if_pos h1, if_pos (show nc ≤ psi nc g n by unfold psi; rw [if_pos h1]; exact Nat.le_refl _)]
    · rw [if_neg h1, if_neg (show ¬ nc ≤ psi nc g n by unfold psi; rw [if_neg h1]; omega)]
theorem fsd_psi {g : Nat → Nat} (h4 : nc ≤ 4) : ∀ n : Nat, (∀ j, j < n → g j < nc ∨ 4 ≤ g j) → fsd dm (psi nc g) nc n = fsd dm g 4 n
  | 0, _ => rfl
  | n + 1, h => by
    rw [fsd, fsd, fsd_psi h4 n (fun j hj => h j (by omega))]
    have h0 := h n (by omega)
    by_cases h1 : 4 ≤ g n
    · rw [if_pos h1, if_pos (show nc ≤ psi nc g n by unfold psi; rw [if_pos h1]; exact Nat.le_refl _)]
    · rw [if_neg h1, if_neg (show ¬ nc ≤ psi nc g n by unfold psi; rw [if_neg h1]; omega)]
theorem fsu_psi {g : Nat → Nat} (h4 : nc ≤ 4) : ∀ n : Nat, (∀ j, j < n → g j < nc ∨ 4 ≤ g j) → fsu Q (psi nc g) nc n = fsu Q g 4 n
  | 0, _ => rfl
  | n + 1, h => by
    rw [fsu, fsu, fsu_psi h4 n (fun j hj => h j (by omega))]
    have h0 := h n (by omega)
    by_cases h1 : 4 ≤ g n
    · rw [if_pos h1, if_pos (show nc ≤ psi nc g n by unfold psi; rw [if_pos h1]; exact Nat.le_refl _)]
    · have e : psi nc g n = g n := by unfold psi; rw [if_neg h1]
      rw [if_neg h1, e, if_neg (show ¬ nc ≤ g n by omega)]
theorem fsv_cg {d d' : Nat → Nat} {k : Nat} : ∀ n : Nat, (∀ j, j < n → d j = d' j) → fsv d k n = fsv d' k n
  | 0, _ => rfl
  | n + 1, h => by rw [fsv, fsv, fsv_cg n (fun j hj => h j (by omega)), h n (by omega)]
theorem fsd_cg {d d' : Nat → Nat} {k : Nat} : ∀ n : Nat, (∀ j, j < n → d j = d' j) → fsd dm d k n = fsd dm d' k n
  | 0, _ => rfl
  | n + 1, h => by rw [fsd, fsd, fsd_cg n (fun j hj => h j (by omega)), h n (by omega)]
theorem fsu_cg {d d' : Nat → Nat} {k : Nat} : ∀ n : Nat, (∀ j, j < n → d j = d' j) → fsu Q d k n = fsu Q d' k n
  | 0, _ => rfl
  | n + 1, h => by rw [fsu, fsu, fsu_cg n (fun j hj => h j (by omega)), h n (by omega)]
theorem kok_cg {d d' : Nat → Nat} : ∀ n : Nat, (∀ j, j < n → d j = d' j) → kok on rm dm bd Q nc d n = kok on rm dm bd Q nc d' n
  | 0, _ => rfl
  | n + 1, h => by
    unfold kok
    rw [kok_cg n (fun j hj => h j (by omega)), h n (by omega), fgl_cg (n + 1) h]
theorem kv_cg {d d' : Nat → Nat} (h : ∀ j, j < nw → d j = d' j) : kv Q nw d = kv Q nw d' := by unfold kv; rw [fsv_cg nw h, fsu_cg nw h]
theorem LX_cg {d d' b : Nat → Nat} (h : ∀ j, j < nw → d j = d' j) (q : LX nw d b) : LX nw d' b := by
  obtain ⟨t, q1, q2, q3⟩ := q
  exact ⟨t, q1, fun j hj => (h j (by omega)).symm.trans (q2 j hj), by rw [← h t q1]; exact q3⟩
theorem psi_chi {d : Nat → Nat} (h4 : nc ≤ 4) {j : Nat} (h : d j ≤ nc) : psi nc (chi nc d) j = d j := by
  unfold psi chi
  by_cases h1 : nc ≤ d j
  · rw [if_pos h1, if_pos (Nat.le_refl _)]; omega
  · rw [if_neg h1, if_neg (by omega)]
/-- every row of digits is a number's -/
theorem dl_up : ∀ (w : Nat) (g : Nat → Nat), (∀ j, j < w → g j ≤ 4) → ∃ N, N < 5 ^ w ∧ ∀ j, j < w → dl N j = g j
  | 0, g, _ => ⟨0, by decide, fun j hj => absurd hj (Nat.not_lt_zero _)⟩
  | w + 1, g, h => by
    obtain ⟨N, h1, h2⟩ := dl_up w (fun j => g (j + 1)) (fun j hj => h (j + 1) (by omega))
    have h0 := h 0 (by omega)
    refine ⟨N * 5 + g 0, by rw [Nat.pow_succ]; omega, fun j hj => ?_⟩
    cases j with
    | zero => unfold dl; rw [Nat.pow_zero, Nat.div_one]; omega
    | succ j =>
      have := h2 j (by omega)
      unfold dl at this ⊢
      rw [Nat.pow_succ, Nat.mul_comm (5 ^ j) 5, ← Nat.div_div_eq_div_mul, show (N * 5 + g 0) / 5 = N by omega]
      exact this
theorem dg_up : ∀ (w : Nat) (d : Nat → Nat), (∀ j, j < w → d j ≤ nc) → ∃ N, N < (nc + 1) ^ w ∧ ∀ j, j < w → dg nc w N j = d j
  | 0, d, _ => ⟨0, by rw [Nat.pow_zero]; decide, fun j hj => absurd hj (Nat.not_lt_zero _)⟩
  | w + 1, d, h => by
    obtain ⟨N, h1, h2⟩ := dg_up w d (fun j hj => h j (by omega))
    have h0 := h w (by omega)
    refine ⟨N * (nc + 1) + d w, ?_, fun j hj => ?_⟩
    · rw [Nat.pow_succ]
      have : (N + 1) * (nc + 1) ≤ (nc + 1) ^ w * (nc + 1) := Nat.mul_le_mul_right _ h1
      rw [Nat.add_mul, Nat.one_mul] at this
      omega
    · by_cases e : j = w
      · rw [e]; exact dg_snoc h0
      · rw [dg_init h0 (by omega)]; exact h2 j (by omega)
theorem dg_last {N w : Nat} : dg nc (w + 1) N w = N % (nc + 1) := by
  unfold dg
  rw [show w + 1 - 1 - w = 0 by omega, Nat.pow_zero, Nat.div_one]
theorem dg_head {N w j : Nat} (h : j < w) : dg nc (w + 1) N j = dg nc w (N / (nc + 1)) j := by
  rw [dg_pre (Nat.le_succ w) h, show w.succ - w = 1 by omega, Nat.pow_one]
theorem dg_inj : ∀ (w N M : Nat), N < (nc + 1) ^ w → M < (nc + 1) ^ w → (∀ j, j < w → dg nc w N j = dg nc w M j) → N = M
  | 0, N, M, h1, h2, _ => by rw [Nat.pow_zero] at h1 h2; omega
  | w + 1, N, M, h1, h2, h => by
    rw [Nat.pow_succ] at h1 h2
    have e := dg_inj w (N / (nc + 1)) (M / (nc + 1)) (Nat.div_lt_of_lt_mul (by rw [Nat.mul_comm]; exact h1)) (Nat.div_lt_of_lt_mul (by rw [Nat.mul_comm]; exact h2)) (fun j hj => by
      rw [← dg_head hj, ← dg_head hj]; exact h j (by omega))
    have e2 := h w (by omega)
    rw [dg_last, dg_last] at e2
    rw [← Nat.div_add_mod N (nc + 1), ← Nat.div_add_mod M (nc + 1), e, e2]
theorem dg_lex : ∀ (w N M : Nat), N < (nc + 1) ^ w → M < (nc + 1) ^ w → LX w (dg nc w N) (dg nc w M) → N < M
  | 0, N, M, _, _, h => by obtain ⟨t, q, _⟩ := h; omega
  | w + 1, N, M, h1, h2, h => by
    rw [Nat.pow_succ] at h1 h2
    have g1 : N / (nc + 1) < (nc + 1) ^ w := Nat.div_lt_of_lt_mul (by rw [Nat.mul_comm]; exact h1)
    have g2 : M / (nc + 1) < (nc + 1) ^ w := Nat.div_lt_of_lt_mul (by rw [Nat.mul_comm]; exact h2)
    obtain ⟨t, q1, q2, q3⟩ := h
    have e1 := Nat.div_add_mod N (nc + 1)
    have e2 := Nat.div_add_mod M (nc + 1)
    have m1 : N % (nc + 1) < nc + 1 := Nat.mod_lt N (Nat.succ_pos nc)
    have m2 : M % (nc + 1) < nc + 1 := Nat.mod_lt M (Nat.succ_pos nc)
    by_cases e : t = w
    · subst e
      have e3 := dg_inj t _ _ g1 g2 (fun j hj => by rw [← dg_head hj, ← dg_head hj]; exact q2 j hj)
      rw [dg_last, dg_last] at q3
      rw [e3] at e1
      omega
    · have h9 := dg_lex w _ _ g1 g2 ⟨t, by omega, fun j hj => by rw [← dg_head (by omega), ← dg_head (by omega)]; exact q2 j hj, by rw [← dg_head (by omega), ← dg_head (by omega)]; exact q3⟩
      have h8 : (nc + 1) * (N / (nc + 1) + 1) ≤ (nc + 1) * (M / (nc + 1)) := Nat.mul_le_mul_left _ h9
      rw [Nat.mul_add, Nat.mul_one] at h8
      omega
/-- an assignment of the law's is one of the class' -/
theorem BR1 {g : Nat → Nat} (h4 : nc ≤ 4) (hk : kok on rm dm bd Q nc g nw = true) : ∃ N, N < (nc + 1) ^ nw ∧ feas nc nw on rm dm bd Q N ∧ (∀ j, j < nw → dg nc nw N j = psi nc g j) ∧ fsv (dg nc nw N) nc nw = fsv g 4 nw ∧ fsu Q (dg nc nw N) nc nw = fsu Q g 4 nw ∧ fsd dm (dg nc nw N) nc nw = fsd dm g 4 nw := by
  have hd := kok_dom nw hk
  obtain ⟨N, h1, h2⟩ := dg_up (nc := nc) nw (psi nc g) (fun j hj => by unfold psi; split <;> have := hd j hj <;> omega)
  refine ⟨N, h1, ?_, h2, ?_, ?_, ?_⟩
  · show fok on rm dm bd Q (dg nc nw N) nc nw = true
    rw [fok_cg nw h2, ← kok_fok h4 nw hd]
    exact hk
  · rw [fsv_cg nw h2, fsv_psi h4 nw hd]
  · rw [fsu_cg nw h2, fsu_psi h4 nw hd]
  · rw [fsd_cg nw h2, fsd_psi h4 nw hd]
theorem BR2 {N : Nat} (h4 : nc ≤ 4) (hf : feas nc nw on rm dm bd Q N) : ∃ M, M < 5 ^ nw ∧ kok on rm dm bd Q nc (dl M) nw = true ∧ (∀ j, j < nw → dl M j = chi nc (dg nc nw N) j) ∧ fsv (dl M) 4 nw = fsv (dg nc nw N) nc nw ∧ fsu Q (dl M) 4 nw = fsu Q (dg nc nw N) nc nw ∧ fsd dm (dl M) 4 nw = fsd dm (dg nc nw N) nc nw := by
  have hle : ∀ j, dg nc nw N j ≤ nc := fun j => dg_le
  obtain ⟨M, h1, h2⟩ := dl_up nw (chi nc (dg nc nw N)) (fun j hj => by unfold chi; split <;> have := hle j <;> omega)
  have hd : ∀ j, j < nw → chi nc (dg nc nw N) j < nc ∨ 4 ≤ chi nc (dg nc nw N) j := fun j _ => by
    unfold chi
    by_cases q : nc ≤ dg nc nw N j
    · rw [if_pos q]; exact Or.inr (Nat.le_refl _)
    · rw [if_neg q]; exact Or.inl (by omega)
  have hp : ∀ j, j < nw → psi nc (chi nc (dg nc nw N)) j = dg nc nw N j := fun j _ => psi_chi h4 (hle j)
  refine ⟨M, h1, ?_, h2, ?_, ?_, ?_⟩
  · rw [kok_cg nw h2, kok_fok h4 nw hd, fok_cg nw hp]
    exact hf
  · rw [fsv_cg nw h2, ← fsv_psi h4 nw hd, fsv_cg nw hp]
  · rw [fsu_cg nw h2, ← fsu_psi h4 nw hd, fsu_cg nw hp]
  · rw [fsd_cg nw h2, ← fsd_psi h4 nw hd, fsd_cg nw hp]
theorem kv_b (H : QB nc nw rm dm Q) (h4 : nc ≤ 4) {g : Nat → Nat} (hk : kok on rm dm bd Q nc g nw = true) : 0 ≤ (fsu Q g 4 nw).toInt ∧ (fsu Q g 4 nw).toInt < 1000000 := by
  have hd := kok_dom nw hk
  have h := (fsu_b (d := psi nc g) H.2.1 H.2.2.2.2 nw (Nat.le_refl _)).1
  rw [fsu_psi h4 nw hd] at h
  have := H.2.1
  unfold tB at h
  omega
/-! step by step -/
theorem RB_0 : RB nc nw on rm dm bd Q 0 0 0 (fun _ => 4) := by
  have k : ∀ n, kok on rm dm bd Q nc (fun _ => 4) n = true := fun n => by
    induction n with
    | zero => rfl
    | succ n ih => rw [kok4 (Nat.le_refl _)]; exact ih
  have v : ∀ n, fsv (fun _ => 4) 4 n = 0 := fun n => by
    induction n with
    | zero => rfl
    | succ n ih => rw [fsv, if_pos (Nat.le_refl _)]; exact ih
  have s : ∀ n, fsu Q (fun _ => 4) 4 n = 0 := fun n => by
    induction n with
    | zero => rfl
    | succ n ih => rw [fsu, if_pos (Nat.le_refl _)]; exact ih
  exact ⟨fun _ _ => Nat.le_refl _, k nw, (v nw).symm, (s nw).symm, fun N h => absurd h (Nat.not_lt_zero _)⟩
theorem RD_0 : RD nc nw on rm dm bd Q 0 0 := by
  have k : ∀ n, kok on rm dm bd Q nc (fun _ => 4) n = true := fun n => by
    induction n with
    | zero => rfl
    | succ n ih => rw [kok4 (Nat.le_refl _)]; exact ih
  have s : ∀ n, fsd dm (fun _ => 4) 4 n = 0 := fun n => by
    induction n with
    | zero => rfl
    | succ n ih => rw [fsd, if_pos (Nat.le_refl _)]; exact ih
  exact ⟨fun N h => absurd h (Nat.not_lt_zero _), fun _ => 4, fun _ _ => Nat.le_refl _, k nw, (s nw).symm⟩
theorem RD_skip {M : Nat} {de : Int32} (h : RD nc nw on rm dm bd Q M de) (hk : ¬ kok on rm dm bd Q nc (dl M) nw = true) : RD nc nw on rm dm bd Q (M + 1) de :=
  ⟨fun N hN hq => by
    by_cases e : N = M
    · subst e; exact absurd hq hk
    · exact h.1 N (by omega) hq, h.2⟩
theorem RD_keep {M : Nat} {de : Int32} (h : RD nc nw on rm dm bd Q M de) (hl : fsd dm (dl M) 4 nw ≤ de) : RD nc nw on rm dm bd Q (M + 1) de :=
  ⟨fun N hN hq => by
    by_cases e : N = M
    · subst e; exact i_le.mp hl
    · exact h.1 N (by omega) hq, h.2⟩
theorem RD_take {M : Nat} {de : Int32} (h : RD nc nw on rm dm bd Q M de) (hk : kok on rm dm bd Q nc (dl M) nw = true) (hl : ¬ fsd dm (dl M) 4 nw ≤ de) : RD nc nw on rm dm bd Q (M + 1) (fsd dm (dl M) 4 nw) :=
  ⟨fun N hN hq => by
    have hl2 := i_lt.mp (Int32.not_le.mp hl)
    by_cases e : N = M
    · subst e; exact Int.le_refl _
    · have := h.1 N (by omega) hq
      omega, dl M, fun _ _ => dl_le, hk, rfl⟩
theorem RB_skip {M : Nat} {ms sm : Int32} {B : Nat → Nat} (h : RB nc nw on rm dm bd Q M ms sm B) (hk : ¬ kok on rm dm bd Q nc (dl M) nw = true) : RB nc nw on rm dm bd Q (M + 1) ms sm B :=
  ⟨h.1, h.2.1, h.2.2.1, h.2.2.2.1, fun N hN hq => by
    by_cases e : N = M
    · subst e; exact absurd hq hk
    · exact h.2.2.2.2 N (by omega) hq⟩
theorem RB_keep (H : QB nc nw rm dm Q) (h4 : nc ≤ 4) {M : Nat} {ms sm : Int32} {B : Nat → Nat} (h : RB nc nw on rm dm bd Q M ms sm B)
    (hn : fsv (dl M) 4 nw < ms ∨ (fsv (dl M) 4 nw = ms ∧ (fsu Q (dl M) 4 nw < sm ∨ (fsu Q (dl M) 4 nw = sm ∧ ¬ LX nw (dl M) B)))) : RB nc nw on rm dm bd Q (M + 1) ms sm B := by
  refine ⟨h.1, h.2.1, h.2.2.1, h.2.2.2.1, fun N hN hq => ?_⟩
  by_cases e : N = M
  · subst e
    have b1 := kv_b H h4 hq
    have b2 := kv_b H h4 h.2.1
    rw [h.2.2.1, h.2.2.2.1] at hn
    unfold kv
    rcases hn with q | ⟨q, q2 | ⟨q2, q3⟩⟩
    · have := i_lt.mp q
      exact ⟨by omega, fun e => by omega⟩
    · have := i_lt.mp q2
      rw [q]
      exact ⟨by omega, fun e => by omega⟩
    · rw [q, q2]
      exact ⟨Int.le_refl _, fun _ => q3⟩
  · exact h.2.2.2.2 N (by omega) hq
theorem RB_take (H : QB nc nw rm dm Q) (h4 : nc ≤ 4) {M : Nat} {ms sm : Int32} {B : Nat → Nat} (h : RB nc nw on rm dm bd Q M ms sm B) (hk : kok on rm dm bd Q nc (dl M) nw = true)
    (hb : ms < fsv (dl M) 4 nw ∨ (fsv (dl M) 4 nw = ms ∧ (sm < fsu Q (dl M) 4 nw ∨ (fsu Q (dl M) 4 nw = sm ∧ LX nw (dl M) B)))) : RB nc nw on rm dm bd Q (M + 1) (fsv (dl M) 4 nw) (fsu Q (dl M) 4 nw) (dl M) := by
  refine ⟨fun _ _ => dl_le, hk, rfl, rfl, fun N hN hq => ?_⟩
  by_cases e : N = M
  · subst e; exact ⟨Int.le_refl _, fun _ => LX_irr⟩
  · obtain ⟨g1, g2⟩ := h.2.2.2.2 N (by omega) hq
    have b1 := kv_b H h4 hk
    have b2 := kv_b H h4 h.2.1
    rw [h.2.2.1, h.2.2.2.1] at hb
    have hle : kv Q nw B < kv Q nw (dl M) ∨ (kv Q nw B = kv Q nw (dl M) ∧ LX nw (dl M) B) := by
      unfold kv
      rcases hb with q | ⟨q, q2 | ⟨q2, q3⟩⟩
      · have := i_lt.mp q
        exact Or.inl (by omega)
      · have := i_lt.mp q2
        rw [q]
        exact Or.inl (by omega)
      · rw [q, q2]
        exact Or.inr ⟨rfl, q3⟩
    rcases hle with q | ⟨q, q3⟩
    · exact ⟨by omega, fun e => by omega⟩
    · exact ⟨by omega, fun e hx => g2 (by omega) (LX_tr hx q3)⟩
/-- beyond all numbers: every assignment -/
theorem RB_all {ms sm : Int32} {B : Nat → Nat} (h : RB nc nw on rm dm bd Q (5 ^ nw) ms sm B) {g : Nat → Nat} (hg : ∀ j, j < nw → g j ≤ 4) (hk : kok on rm dm bd Q nc g nw = true) : kv Q nw g ≤ kv Q nw B ∧ (kv Q nw g = kv Q nw B → ¬ LX nw g B) := by
  obtain ⟨N, h1, h2⟩ := dl_up nw g hg
  have h3 := h.2.2.2.2 N h1 (by rw [kok_cg nw h2]; exact hk)
  rw [kv_cg h2] at h3
  exact ⟨h3.1, fun e q => h3.2 e (LX_cg (fun j hj => (h2 j hj).symm) q)⟩
theorem ag_s2 (H : QB nc nw rm dm Q) (h4 : nc ≤ 4) {be : Nat → Int32} {bw : Int32} (h1 : Opt nc nw on rm dm bd Q (Fw on dm bd Q 1 0 0) ((nc + 1) ^ nw) be bw) {ms sm : Int32} {B : Nat → Nat} (h : RB nc nw on rm dm bd Q (5 ^ nw) ms sm B) : bw = ms := by
  obtain ⟨N1, a1, a2, a3, a4, a5, a6⟩ := Opt_max h1
  obtain ⟨M1, b1, b2, b3, b4, b5, b6⟩ := BR2 h4 a2
  obtain ⟨N2, c1, c2, c3, c4, c5, c6⟩ := BR1 h4 h.2.1
  apply tB_eq
  rw [a3, Vw_S H a2, h.2.2.1]
  have d1 := a4 N2 c1 c2
  rw [Vw_S H a2, Vw_S H c2] at d1
  have d2 := (h.2.2.2.2 M1 b1 b2).1
  have u1 := kv_b H h4 b2
  have u2 := kv_b H h4 h.2.1
  unfold vS at d1 ⊢
  unfold kv at d2
  rw [c4] at d1
  rw [b4] at d2
  omega
theorem ag_d2 (H : QB nc nw rm dm Q) (h4 : nc ≤ 4) {be : Nat → Int32} {bw : Int32} (h1 : Opt nc nw on rm dm bd Q (Fw on dm bd Q 0 1 0) ((nc + 1) ^ nw) be bw) {de : Int32} (h : RD nc nw on rm dm bd Q (5 ^ nw) de) : bw = de := by
  obtain ⟨N1, a1, a2, a3, a4, a5, a6⟩ := Opt_max h1
  obtain ⟨M1, b1, b2, b3, b4, b5, b6⟩ := BR2 h4 a2
  obtain ⟨h2, g, hg, hk, rfl⟩ := h
  obtain ⟨N2, c1, c2, c3, c4, c5, c6⟩ := BR1 h4 hk
  apply tB_eq
  rw [a3, Vw_D H a2]
  have d1 := a4 N2 c1 c2
  rw [Vw_D H a2, Vw_D H c2] at d1
  have d2 := h2 M1 b1 b2
  unfold vD at d1 ⊢
  rw [c6] at d1
  rw [b6] at d2
  omega
theorem ag_b2 (H : QB nc nw rm dm Q) (h4 : nc ≤ 4) {be : Nat → Int32} {bw : Int32} (h1 : Opt nc nw on rm dm bd Q (Fw on dm bd Q 1000000 0 1) ((nc + 1) ^ nw) be bw) {ms sm : Int32} {B : Nat → Nat} (h : RB nc nw on rm dm bd Q (5 ^ nw) ms sm B) : ∀ j, j < nw → be j = (if 4 ≤ B j then -1 else nI (B j)) := by
  obtain ⟨N1, a1, a2, a3, a4, a5, a6⟩ := Opt_max h1
  obtain ⟨M1, b1, b2, b3, b4, b5, b6⟩ := BR2 h4 a2
  obtain ⟨N2, c1, c2, c3, c4, c5, c6⟩ := BR1 h4 h.2.1
  have hB := kok_dom nw h.2.1
  have hle : ∀ j, dg nc nw N1 j ≤ nc := fun j => dg_le
  have d1 := a4 N2 c1 c2
  rw [Vw_B H a2, Vw_B H c2] at d1
  have d2 := h.2.2.2.2 M1 b1 b2
  unfold vB at d1
  rw [c4, c5] at d1
  have e1 : kv Q nw (dl M1) = 1000000 * (fsv (dg nc nw N1) nc nw).toInt + (fsu Q (dg nc nw N1) nc nw).toInt := by unfold kv; rw [b4, b5]
  have e2 : kv Q nw (dl M1) = kv Q nw B := by
    have := d2.1
    rw [e1] at this ⊢
    unfold kv at this ⊢
    omega
  have nolx := d2.2 e2
  have same : ∀ n, n ≤ nw → ∀ j, j < n → dg nc nw N1 j = psi nc B j := by
    intro n
    induction n with
    | zero => intro _ j hj; omega
    | succ n ih =>
      intro hn j hj
      have ih := ih (by omega)
      by_cases e : j = n
      · subst e
        rcases Nat.lt_trichotomy (dg nc nw N1 j) (psi nc B j) with q | q | q
        · exfalso
          refine nolx ⟨j, by omega, fun i hi => ?_, ?_⟩
          · rw [b3 i (by omega)]
            have e3 := ih i hi
            have e4 := hB i (by omega)
            have e5 := h.1 i (by omega)
            unfold chi
            unfold psi at e3
            rw [e3]
            by_cases q4 : 4 ≤ B i
            · rw [if_pos q4, if_pos (Nat.le_refl _)]; omega
            · rw [if_neg q4, if_neg (by omega)]
          · rw [b3 j (by omega)]
            have e4 := hB j (by omega)
            unfold chi
            unfold psi at q
            by_cases q4 : 4 ≤ B j
            · rw [if_pos q4] at q
              rw [if_neg (by omega)]; omega
            · rw [if_neg q4] at q
              rw [if_neg (by omega)]; exact q
        · exact q
        · exfalso
          have hlt : N2 < N1 := dg_lex nw N2 N1 c1 a1 ⟨j, by omega, fun i hi => by rw [c3 i (by omega)]; exact (ih i hi).symm, by rw [c3 j (by omega)]; exact q⟩
          have := a5 N2 hlt c2
          rw [Vw_B H a2, Vw_B H c2] at this
          unfold vB at this
          rw [c4, c5, ← e1, e2] at this
          unfold kv at this
          omega
      · exact ih j (by omega)
  intro j hj
  rw [a6 j hj, same nw (Nat.le_refl _) j hj]
  have e4 := hB j hj
  unfold enc psi
  by_cases q4 : 4 ≤ B j
  · rw [if_pos q4, if_pos q4, if_pos (Nat.le_refl _)]
  · rw [if_neg q4, if_neg q4, if_neg (by omega)]
end KQ
