/-! the reference's assignments, and the class' -/
theorem tB_eq {x y : Int32} (h : x.toInt = y.toInt) : x = y := Int32.toInt_inj.mp h
section AG
variable {nc nw : Nat} {on rm dm : Nat → Int32} {bd : Int32} {Q F : Nat → Nat → Int32}
theorem fsv_b {d : Nat → Nat} (h6 : nw ≤ 6) : ∀ n : Nat, n ≤ nw → tB 0 n (fsv d nc n) ∧ (fsv d nc (n + 1)).toInt = (if nc ≤ d n then (fsv d nc n).toInt else (fsv d nc n).toInt + 1)
  | 0, _ => by
    refine ⟨tB_k 0 0 rfl, ?_⟩
    unfold fsv
    split <;> rfl
  | n + 1, hn => by
    obtain ⟨h1, h2⟩ := fsv_b h6 (d := d) n (by omega)
    have hb : tB 0 ((n + 1 : Nat) : Int) (fsv d nc (n + 1)) := by
      unfold tB at h1 ⊢
      rw [h2]
      split <;> omega
    refine ⟨hb, ?_⟩
    rw [fsv]
    split
    · rfl
    · unfold tB at hb
      rw [Int32.toInt_add, show (1 : Int32).toInt = 1 from rfl, bm_id (by omega) (by omega)]
theorem fsu_b {d : Nat → Nat} (h6 : nw ≤ 6) (hQ : ∀ u c, u < nw → c < nc → tB 0 40000 (Q u c)) : ∀ n : Nat, n ≤ nw → tB 0 (40000 * n) (fsu Q d nc n) ∧ (n < nw → (fsu Q d nc (n + 1)).toInt = (if nc ≤ d n then (fsu Q d nc n).toInt else (fsu Q d nc n).toInt + (Q n (d n)).toInt))
  | 0, _ => by
    refine ⟨tB_k 0 0 rfl, fun hn => ?_⟩
    unfold fsu
    split
    · rfl
    · show ((0 : Int32) + Q 0 (d 0)).toInt = (0 : Int32).toInt + _
      rw [Int32.zero_add, show (0 : Int32).toInt = 0 from rfl, Int.zero_add]
  | n + 1, hn => by
    obtain ⟨h1, h2⟩ := fsu_b h6 hQ (d := d) n (by omega)
    have hb : tB 0 (40000 * ((n + 1 : Nat) : Int)) (fsu Q d nc (n + 1)) := by
      unfold tB at h1 ⊢
      rw [h2 (by omega)]
      split
      · omega
      · have := hQ n (d n) (by omega) (by omega)
        unfold tB at this
        omega
    refine ⟨hb, fun hn => ?_⟩
    rw [fsu]
    split
    · rfl
    · have := hQ (n + 1) (d (n + 1)) hn (by omega)
      unfold tB at hb this
      rw [Int32.toInt_add, bm_id (by omega) (by omega)]
theorem fsd_b {d : Nat → Nat} (h6 : nw ≤ 6) (hD : ∀ u, u < nw → tB 1 10 (dm u)) : ∀ n : Nat, n ≤ nw → tB 0 (10 * n) (fsd dm d nc n) ∧ (n < nw → (fsd dm d nc (n + 1)).toInt = (if nc ≤ d n then (fsd dm d nc n).toInt else (fsd dm d nc n).toInt + (dm n).toInt))
  | 0, _ => by
    refine ⟨tB_k 0 0 rfl, fun hn => ?_⟩
    unfold fsd
    split
    · rfl
    · show ((0 : Int32) + dm 0).toInt = (0 : Int32).toInt + _
      rw [Int32.zero_add, show (0 : Int32).toInt = 0 from rfl, Int.zero_add]
  | n + 1, hn => by
    obtain ⟨h1, h2⟩ := fsd_b h6 hD (d := d) n (by omega)
    have hb : tB 0 (10 * ((n + 1 : Nat) : Int)) (fsd dm d nc (n + 1)) := by
      unfold tB at h1 ⊢
      rw [h2 (by omega)]
      split
      · omega
      · have := hD n (by omega)
        unfold tB at this
        omega
    refine ⟨hb, fun hn => ?_⟩
    rw [fsd]
    split
    · rfl
    · have := hD (n + 1) hn
      unfold tB at hb this
      rw [Int32.toInt_add, bm_id (by omega) (by omega)]
/-- of an assignment that can be, the sum of the weights -/
theorem Vw_sum {A : Nat → Nat → Int} {S : Nat → Int} {d : Nat → Nat} (hA : ∀ u c, u < nw → c < nc → ¬ on c = 0 → ¬ Q u c < bd → (F u c).toInt = A u c) (h0 : S 0 = 0) (hS : ∀ n, n < nw → S (n + 1) = (if nc ≤ d n then S n else S n + A n (d n))) : ∀ n : Nat, n ≤ nw → fok on rm dm bd Q d nc n = true → Vw F nc d n = S n
  | 0, _, _ => h0.symm
  | n + 1, hn, hf => by
    have ih := Vw_sum hA h0 hS n (by omega) (fok_pre (by omega) hf)
    rw [Vw, hS n (by omega), ih]
    by_cases h : nc ≤ d n
    · rw [if_pos h, if_pos h]
    · rw [if_neg h, if_neg h]
      have hf2 := fok_pre (show n ≤ n + 1 by omega) hf
      rw [fok, if_pos hf2, if_neg h] at hf
      by_cases n1 : on (d n) = 0
      · rw [if_pos n1] at hf; cases hf
      · rw [if_neg n1] at hf
        by_cases n2 : Q n (d n) < bd
        · rw [if_pos n2] at hf; cases hf
        · rw [hA n (d n) (by omega) (by omega) n1 n2]
def vS (nc nw N : Nat) : Int := (fsv (dg nc nw N) nc nw).toInt
def vD (dm : Nat → Int32) (nc nw N : Nat) : Int := (fsd dm (dg nc nw N) nc nw).toInt
def vB (Q : Nat → Nat → Int32) (nc nw N : Nat) : Int := 1000000 * (fsv (dg nc nw N) nc nw).toInt + (fsu Q (dg nc nw N) nc nw).toInt
/-- what the reference has found, among the numbers below M -/
def RI (nc nw : Nat) (on rm dm : Nat → Int32) (bd : Int32) (Q : Nat → Nat → Int32) (M : Nat) (x : AS) : Prop :=
  ((∀ N, N < M → feas nc nw on rm dm bd Q N → vD dm nc nw N ≤ x.2.2.1.toInt) ∧ (x.2.2.1 = 0 ∨ ∃ N, N < M ∧ feas nc nw on rm dm bd Q N ∧ x.2.2.1.toInt = vD dm nc nw N)) ∧
  ((x.1 = 0 ∧ x.2.1 = -1 ∧ ∀ N, N < M → ¬ feas nc nw on rm dm bd Q N) ∨
   ∃ N0, N0 < M ∧ feas nc nw on rm dm bd Q N0 ∧ x.1 = fsv (dg nc nw N0) nc nw ∧ x.2.1 = fsu Q (dg nc nw N0) nc nw ∧ (∀ N, N < M → feas nc nw on rm dm bd Q N → vB Q nc nw N ≤ vB Q nc nw N0) ∧ (∀ N, N < N0 → feas nc nw on rm dm bd Q N → vB Q nc nw N < vB Q nc nw N0) ∧ ∀ j, j < nw → x.2.2.2 j = nI (dg nc nw N0 j))
theorem RI_all (h6 : nw ≤ 6) (hQ : ∀ u c, u < nw → c < nc → tB 0 40000 (Q u c)) (b0 : Nat → Int32) : ∀ M : Nat, RI nc nw on rm dm bd Q M (fas on rm dm bd Q nc nw b0 M)
  | 0 => ⟨⟨fun N h => absurd h (by omega), Or.inl rfl⟩, Or.inl ⟨rfl, rfl, fun N h => absurd h (by omega)⟩⟩
  | M + 1 => by
    obtain ⟨⟨d1, d2⟩, hb⟩ := RI_all h6 hQ b0 M
    rw [fas]
    generalize fas on rm dm bd Q nc nw b0 M = x at d1 d2 hb
    have hsv := (fsv_b (nc := nc) (d := dg nc nw M) h6 nw (Nat.le_refl _)).1
    have hsu := (fsu_b (d := dg nc nw M) h6 hQ nw (Nat.le_refl _)).1
    unfold tB at hsv hsu
    by_cases hf : fok on rm dm bd Q (dg nc nw M) nc nw = true
    · -- the greatest demand
      have hd : (∀ N, N < M + 1 → feas nc nw on rm dm bd Q N → vD dm nc nw N ≤ (if fsd dm (dg nc nw M) nc nw ≤ x.2.2.1 then x.2.2.1 else fsd dm (dg nc nw M) nc nw).toInt) ∧ ((if fsd dm (dg nc nw M) nc nw ≤ x.2.2.1 then x.2.2.1 else fsd dm (dg nc nw M) nc nw) = 0 ∨ ∃ N, N < M + 1 ∧ feas nc nw on rm dm bd Q N ∧ (if fsd dm (dg nc nw M) nc nw ≤ x.2.2.1 then x.2.2.1 else fsd dm (dg nc nw M) nc nw).toInt = vD dm nc nw N) := by
        by_cases c : fsd dm (dg nc nw M) nc nw ≤ x.2.2.1
        · rw [if_pos c]
          refine ⟨fun N hN hq => ?_, d2.imp id (fun ⟨N, a, b⟩ => ⟨N, by omega, b⟩)⟩
          by_cases q : N < M
          · exact d1 N q hq
          · rw [show N = M by omega]; exact Int32.le_iff_toInt_le.mp c
        · rw [if_neg c]
          refine ⟨fun N hN hq => ?_, Or.inr ⟨M, by omega, hf, rfl⟩⟩
          by_cases q : N < M
          · have := d1 N q hq
            have := Int32.lt_iff_toInt_lt.mp (Int32.not_le.mp c)
            omega
          · rw [show N = M by omega]; exact Int.le_refl _
      have take : (∀ N, N < M → feas nc nw on rm dm bd Q N → vB Q nc nw N < vB Q nc nw M) → ∃ N0, N0 < M + 1 ∧ feas nc nw on rm dm bd Q N0 ∧ fsv (dg nc nw M) nc nw = fsv (dg nc nw N0) nc nw ∧ fsu Q (dg nc nw M) nc nw = fsu Q (dg nc nw N0) nc nw ∧ (∀ N, N < M + 1 → feas nc nw on rm dm bd Q N → vB Q nc nw N ≤ vB Q nc nw N0) ∧ (∀ N, N < N0 → feas nc nw on rm dm bd Q N → vB Q nc nw N < vB Q nc nw N0) ∧ ∀ j, j < nw → fil nw (fun j => nI (dg nc nw M j)) x.2.2.2 j = nI (dg nc nw N0 j) := by
        intro key
        refine ⟨M, by omega, hf, rfl, rfl, fun N hN hq => ?_, key, fun j hj => ?_⟩
        · by_cases q : N < M
          · exact Int.le_of_lt (key N q hq)
          · rw [show N = M by omega]; exact Int.le_refl _
        · unfold fil; rw [if_pos hj]
      unfold fst
      rw [if_pos hf]
      by_cases c1 : x.1 < fsv (dg nc nw M) nc nw
      · rw [if_pos c1]
        refine ⟨hd, Or.inr (take (fun N hN hq => ?_))⟩
        rcases hb with ⟨_, _, h3⟩ | ⟨N0, g1, g2, g3, g4, g5, _⟩
        · exact absurd hq (h3 N hN)
        · have h1 := g5 N hN hq
          have h2 := Int32.lt_iff_toInt_lt.mp c1
          have h3 := (fsu_b (d := dg nc nw N0) h6 hQ nw (Nat.le_refl _)).1
          rw [g3] at h2
          unfold tB at h3
          unfold vB at h1 ⊢
          omega
      · rw [if_neg c1]
        by_cases c2 : fsv (dg nc nw M) nc nw = x.1
        · rw [if_pos c2]
          by_cases c3 : fsu Q (dg nc nw M) nc nw ≤ x.2.1
          · rw [if_pos c3]
            refine ⟨hd, ?_⟩
            have c3' := Int32.le_iff_toInt_le.mp c3
            rcases hb with ⟨_, h2, _⟩ | ⟨N0, g1, g2, g3, g4, g5, g6, g7⟩
            · rw [h2, show (-1 : Int32).toInt = -1 from rfl] at c3'
              omega
            · refine Or.inr ⟨N0, by omega, g2, g3, g4, fun N hN hq => ?_, g6, g7⟩
              by_cases q : N < M
              · exact g5 N q hq
              · rw [show N = M by omega]
                unfold vB
                rw [c2, g3]
                rw [g4] at c3'
                omega
          · rw [if_neg c3]
            refine ⟨hd, Or.inr ?_⟩
            refine take (fun N hN hq => ?_)
            rcases hb with ⟨_, _, h3⟩ | ⟨N0, g1, g2, g3, g4, g5, _⟩
            · exact absurd hq (h3 N hN)
            · have h1 := g5 N hN hq
              have h2 := Int32.lt_iff_toInt_lt.mp (Int32.not_le.mp c3)
              rw [g4] at h2
              unfold vB at h1 ⊢
              rw [c2, g3]
              omega
        · rw [if_neg c2]
          refine ⟨hd, ?_⟩
          have c1' : ¬ x.1.toInt < (fsv (dg nc nw M) nc nw).toInt := fun q => c1 (Int32.lt_iff_toInt_lt.mpr q)
          have c2' : ¬ (fsv (dg nc nw M) nc nw).toInt = x.1.toInt := fun q => c2 (tB_eq q)
          rcases hb with ⟨h1, _, _⟩ | ⟨N0, g1, g2, g3, g4, g5, g6, g7⟩
          · rw [h1, show (0 : Int32).toInt = 0 from rfl] at c1' c2'
            omega
          · refine Or.inr ⟨N0, by omega, g2, g3, g4, fun N hN hq => ?_, g6, g7⟩
            by_cases q : N < M
            · exact g5 N q hq
            · rw [show N = M by omega]
              have h3 := (fsu_b (d := dg nc nw N0) h6 hQ nw (Nat.le_refl _)).1
              unfold tB at h3
              rw [g3] at c1' c2'
              unfold vB
              omega
    · unfold fst
      rw [if_neg hf]
      refine ⟨⟨fun N hN hq => ?_, d2.imp id (fun ⟨N, a, b⟩ => ⟨N, by omega, b⟩)⟩, ?_⟩
      · by_cases q : N < M
        · exact d1 N q hq
        · rw [show N = M by omega] at hq; exact absurd hq hf
      · rcases hb with ⟨h1, h2, h3⟩ | ⟨N0, g1, g2, g3, g4, g5, g6, g7⟩
        · refine Or.inl ⟨h1, h2, fun N hN hq => ?_⟩
          by_cases q : N < M
          · exact h3 N q hq
          · rw [show N = M by omega] at hq; exact absurd hq hf
        · refine Or.inr ⟨N0, by omega, g2, g3, g4, fun N hN hq => ?_, g6, g7⟩
          by_cases q : N < M
          · exact g5 N q hq
          · rw [show N = M by omega] at hq; exact absurd hq hf
/-- the last number: none is served -/
theorem dig_top {B n i : Nat} (hB : 0 < B) (hi : i < n) : (B ^ n - 1) / B ^ i % B = B - 1 := by
  have hp : 0 < B ^ i := Nat.pow_pos hB
  have hm : 0 < B ^ (n - i) := Nat.pow_pos hB
  have e : B ^ n = B ^ (n - i) * B ^ i := by rw [← Nat.pow_add, Nat.sub_add_cancel (by omega)]
  have h1 : (B ^ n - 1) / B ^ i = B ^ (n - i) - 1 := by
    apply Nat.div_eq_of_lt_le
    · rw [e, Nat.sub_mul, Nat.one_mul]; omega
    · rw [Nat.sub_add_cancel hm, ← e]
      have : 0 < B ^ n := Nat.pow_pos hB
      omega
  have h2 : B ^ (n - i) = B ^ (n - i - 1) * B := by rw [← Nat.pow_succ, show (n - i - 1).succ = n - i by omega]
  have hq : 0 < B ^ (n - i - 1) := Nat.pow_pos hB
  have h3 : B ^ (n - i) - 1 = (B - 1) + (B ^ (n - i - 1) - 1) * B := by
    rw [h2, Nat.sub_mul, Nat.one_mul]
    have : B ≤ B ^ (n - i - 1) * B := Nat.le_mul_of_pos_left _ hq
    omega
  rw [h1, h3, Nat.add_mul_mod_self_right, Nat.mod_eq_of_lt (by omega)]
theorem fok_none {d : Nat → Nat} : ∀ n : Nat, (∀ j, j < n → d j = nc) → fok on rm dm bd Q d nc n = true
  | 0, _ => rfl
  | n + 1, h => by
    rw [fok, if_pos (fok_none n (fun j hj => h j (by omega))), if_pos (by rw [h n (by omega)]; exact Nat.le_refl _)]
theorem feas_top : feas nc nw on rm dm bd Q ((nc + 1) ^ nw - 1) := by
  refine fok_none nw (fun j hj => ?_)
  unfold dg
  rw [dig_top (Nat.succ_pos nc) (by omega)]
  omega
/-- the greatest weight, and the assignment, are one -/
theorem Opt_max {be : Nat → Int32} {bw : Int32} (h : Opt nc nw on rm dm bd Q F ((nc + 1) ^ nw) be bw) : ∃ N0, N0 < (nc + 1) ^ nw ∧ feas nc nw on rm dm bd Q N0 ∧ bw.toInt = Vw F nc (dg nc nw N0) nw ∧ (∀ N, N < (nc + 1) ^ nw → feas nc nw on rm dm bd Q N → Vw F nc (dg nc nw N) nw ≤ Vw F nc (dg nc nw N0) nw) ∧ (∀ N, N < N0 → feas nc nw on rm dm bd Q N → Vw F nc (dg nc nw N) nw < Vw F nc (dg nc nw N0) nw) ∧ ∀ j, j < nw → be j = enc nc (dg nc nw N0 j) := by
  rcases h with ⟨_, h⟩ | h
  · have : 0 < (nc + 1) ^ nw := Nat.pow_pos (Nat.succ_pos nc)
    exact absurd feas_top (h _ (by omega))
  · exact h
theorem RI_max {x : AS} (h : RI nc nw on rm dm bd Q ((nc + 1) ^ nw) x) : ∃ N0, N0 < (nc + 1) ^ nw ∧ feas nc nw on rm dm bd Q N0 ∧ x.1 = fsv (dg nc nw N0) nc nw ∧ x.2.1 = fsu Q (dg nc nw N0) nc nw ∧ (∀ N, N < (nc + 1) ^ nw → feas nc nw on rm dm bd Q N → vB Q nc nw N ≤ vB Q nc nw N0) ∧ (∀ N, N < N0 → feas nc nw on rm dm bd Q N → vB Q nc nw N < vB Q nc nw N0) ∧ ∀ j, j < nw → x.2.2.2 j = nI (dg nc nw N0 j) := by
  rcases h.2 with ⟨_, _, h⟩ | h
  · have : 0 < (nc + 1) ^ nw := Nat.pow_pos (Nat.succ_pos nc)
    exact absurd feas_top (h _ (by omega))
  · exact h
end AG
/-! the three weights -/
def Fw (on dm : Nat → Int32) (bd : Int32) (Q : Nat → Nat → Int32) (pw pd pq : Int32) : Nat → Nat → Int32 := fun u c => fwv on bd (pw + pd * dm u) pq (Q u) c
/-- the state's bounds, as the search needs them -/
def QB (nc nw : Nat) (rm dm : Nat → Int32) (Q : Nat → Nat → Int32) : Prop := nc ≤ 5 ∧ nw ≤ 6 ∧ (∀ c, c < nc → tB 1 40 (rm c)) ∧ (∀ w, w < nw → tB 1 10 (dm w)) ∧ ∀ u c, u < nw → c < nc → tB 0 40000 (Q u c)
section AH
variable {nc nw : Nat} {on rm dm : Nat → Int32} {bd : Int32} {Q : Nat → Nat → Int32} {pw pd pq : Int32}
theorem SH_of (H : QB nc nw rm dm Q) (hg : ∀ u, u < nw → tB 1 1000000 (pw + pd * dm u)) (hp : ∀ u c, u < nw → c < nc → tB 0 40000 (pq * Q u c)) : SH nc nw on rm dm bd Q (Fw on dm bd Q pw pd pq) := by
  refine ⟨H.1, H.2.1, H.2.2.1, H.2.2.2.1, fun u c hu hc => ?_, fun u c hu hc => ?_⟩
  · show tB 0 1040000 (fwv on bd (pw + pd * dm u) pq (Q u) c)
    unfold fwv
    split
    · exact ⟨by decide, by decide⟩
    · split
      · exact ⟨by decide, by decide⟩
      · exact tB_wk (tB_add (hg u hu) (hp u c hu hc) (by decide) (by decide)) (by decide) (by decide)
  · show fwv on bd (pw + pd * dm u) pq (Q u) c ≤ 0 ↔ _
    unfold fwv
    by_cases n1 : on c = 0
    · rw [if_pos n1]
      exact ⟨fun _ => Or.inl n1, fun _ => by decide⟩
    · rw [if_neg n1]
      by_cases n2 : Q u c < bd
      · rw [if_pos n2]
        exact ⟨fun _ => Or.inr n2, fun _ => by decide⟩
      · rw [if_neg n2]
        refine ⟨fun h => ?_, fun h => h.elim (fun h => absurd h n1) (fun h => absurd h n2)⟩
        have h1 := tB_add (hg u hu) (hp u c hu hc) (by decide) (by decide)
        have h2 := Int32.le_iff_toInt_le.mp h
        rw [show (0 : Int32).toInt = 0 from rfl] at h2
        unfold tB at h1
        omega
theorem Fw_val {u c : Nat} (n1 : ¬ on c = 0) (n2 : ¬ Q u c < bd) : Fw on dm bd Q pw pd pq u c = pw + pd * dm u + pq * Q u c := by
  show fwv on bd (pw + pd * dm u) pq (Q u) c = _
  unfold fwv
  rw [if_neg n1, if_neg n2]
theorem gS {x : Int32} (h : tB 1 10 x) : tB 1 1 (1 + 0 * x) := tB_wk (tB_add (tB_k 1 1 rfl) (tB_mul (tB_k 0 0 rfl) h (by decide) (by decide) (by decide)) (by decide) (by decide)) (by decide) (by decide)
theorem gD {x : Int32} (h : tB 1 10 x) : tB 1 10 (0 + 1 * x) := tB_wk (tB_add (tB_k 0 0 rfl) (tB_mul (tB_k 1 1 rfl) h (by decide) (by decide) (by decide)) (by decide) (by decide)) (by decide) (by decide)
theorem gB {x : Int32} (h : tB 1 10 x) : tB 1000000 1000000 (1000000 + 0 * x) := tB_wk (tB_add (tB_k 1000000 1000000 rfl) (tB_mul (tB_k 0 0 rfl) h (by decide) (by decide) (by decide)) (by decide) (by decide)) (by decide) (by decide)
theorem q0 {x : Int32} (h : tB 0 40000 x) : tB 0 0 (0 * x) := tB_wk (tB_mul (tB_k 0 0 rfl) h (by decide) (by decide) (by decide)) (by decide) (by decide)
theorem q1 {x : Int32} (h : tB 0 40000 x) : tB 0 40000 (1 * x) := tB_wk (tB_mul (tB_k 1 1 rfl) h (by decide) (by decide) (by decide)) (by decide) (by decide)
theorem SH_S (H : QB nc nw rm dm Q) : SH nc nw on rm dm bd Q (Fw on dm bd Q 1 0 0) := SH_of H (fun u hu => tB_wk (gS (H.2.2.2.1 u hu)) (by decide) (by decide)) (fun u c hu hc => tB_wk (q0 (H.2.2.2.2 u c hu hc)) (by decide) (by decide))
theorem SH_D (H : QB nc nw rm dm Q) : SH nc nw on rm dm bd Q (Fw on dm bd Q 0 1 0) := SH_of H (fun u hu => tB_wk (gD (H.2.2.2.1 u hu)) (by decide) (by decide)) (fun u c hu hc => tB_wk (q0 (H.2.2.2.2 u c hu hc)) (by decide) (by decide))
theorem SH_B (H : QB nc nw rm dm Q) : SH nc nw on rm dm bd Q (Fw on dm bd Q 1000000 0 1) := SH_of H (fun u hu => tB_wk (gB (H.2.2.2.1 u hu)) (by decide) (by decide)) (fun u c hu hc => tB_wk (q1 (H.2.2.2.2 u c hu hc)) (by decide) (by decide))
theorem Vw_S (H : QB nc nw rm dm Q) {N : Nat} (hf : feas nc nw on rm dm bd Q N) : Vw (Fw on dm bd Q 1 0 0) nc (dg nc nw N) nw = vS nc nw N := by
  refine Vw_sum (A := fun _ _ => 1) (S := fun n => (fsv (dg nc nw N) nc n).toInt) (fun u c hu hc n1 n2 => ?_) rfl (fun n hn => (fsv_b H.2.1 n (by omega)).2) nw (Nat.le_refl _) hf
  have h := tB_add (gS (H.2.2.2.1 u hu)) (q0 (H.2.2.2.2 u c hu hc)) (by decide) (by decide)
  rw [Fw_val n1 n2]
  unfold tB at h
  omega
theorem Vw_D (H : QB nc nw rm dm Q) {N : Nat} (hf : feas nc nw on rm dm bd Q N) : Vw (Fw on dm bd Q 0 1 0) nc (dg nc nw N) nw = vD dm nc nw N := by
  refine Vw_sum (A := fun u _ => (dm u).toInt) (S := fun n => (fsd dm (dg nc nw N) nc n).toInt) (fun u c hu hc n1 n2 => ?_) rfl (fun n hn => (fsd_b H.2.1 H.2.2.2.1 n (by omega)).2 hn) nw (Nat.le_refl _) hf
  rw [Fw_val n1 n2, Int32.zero_add, Int32.one_mul, Int32.zero_mul, Int32.add_zero]
theorem Vw_B (H : QB nc nw rm dm Q) {N : Nat} (hf : feas nc nw on rm dm bd Q N) : Vw (Fw on dm bd Q 1000000 0 1) nc (dg nc nw N) nw = vB Q nc nw N := by
  refine Vw_sum (A := fun u c => 1000000 + (Q u c).toInt) (S := fun n => 1000000 * (fsv (dg nc nw N) nc n).toInt + (fsu Q (dg nc nw N) nc n).toInt) (fun u c hu hc n1 n2 => ?_) rfl (fun n hn => ?_) nw (Nat.le_refl _) hf
  · have h := H.2.2.2.2 u c hu hc
    unfold tB at h
    rw [Fw_val n1 n2, Int32.zero_mul, Int32.add_zero, Int32.one_mul, Int32.toInt_add, show (1000000 : Int32).toInt = 1000000 from rfl, bm_id (by omega) (by omega)]
  · show 1000000 * (fsv (dg nc nw N) nc (n + 1)).toInt + (fsu Q (dg nc nw N) nc (n + 1)).toInt = _
    rw [(fsv_b H.2.1 n (by omega)).2, (fsu_b H.2.1 H.2.2.2.2 n (by omega)).2 hn]
    split <;> omega
theorem ag_served (H : QB nc nw rm dm Q) {be : Nat → Int32} {bw : Int32} {x : AS} (h1 : Opt nc nw on rm dm bd Q (Fw on dm bd Q 1 0 0) ((nc + 1) ^ nw) be bw) (h2 : RI nc nw on rm dm bd Q ((nc + 1) ^ nw) x) : bw = x.1 := by
  obtain ⟨N1, a1, a2, a3, a4, a5, a6⟩ := Opt_max h1
  obtain ⟨N2, b1, b2, b3, b4, b5, b6, b7⟩ := RI_max h2
  apply tB_eq
  rw [a3, Vw_S H a2, b3]
  have c1 := a4 N2 b1 b2
  rw [Vw_S H a2, Vw_S H b2] at c1
  have c2 := b5 N1 a1 a2
  have u1 := (fsu_b (d := dg nc nw N1) H.2.1 H.2.2.2.2 nw (Nat.le_refl _)).1
  have u2 := (fsu_b (d := dg nc nw N2) H.2.1 H.2.2.2.2 nw (Nat.le_refl _)).1
  have h6 := H.2.1
  unfold tB at u1 u2
  unfold vB at c2
  unfold vS at c1 ⊢
  omega
theorem ag_demand (H : QB nc nw rm dm Q) {be : Nat → Int32} {bw : Int32} {x : AS} (h1 : Opt nc nw on rm dm bd Q (Fw on dm bd Q 0 1 0) ((nc + 1) ^ nw) be bw) (h2 : RI nc nw on rm dm bd Q ((nc + 1) ^ nw) x) : bw = x.2.2.1 := by
  obtain ⟨N1, a1, a2, a3, a4, a5, a6⟩ := Opt_max h1
  obtain ⟨⟨b1, b2⟩, _⟩ := h2
  apply tB_eq
  have c0 := b1 N1 a1 a2
  rw [a3, Vw_D H a2]
  rcases b2 with b2 | ⟨N2, g1, g2, g3⟩
  · have u1 := (fsd_b (nc := nc) (d := dg nc nw N1) H.2.1 H.2.2.2.1 nw (Nat.le_refl _)).1
    unfold tB at u1
    rw [b2, show (0 : Int32).toInt = 0 from rfl] at c0 ⊢
    unfold vD at c0 ⊢
    omega
  · have c1 := a4 N2 g1 g2
    rw [Vw_D H a2, Vw_D H g2] at c1
    omega
theorem ag_best (H : QB nc nw rm dm Q) {be : Nat → Int32} {bw : Int32} {x : AS} (h1 : Opt nc nw on rm dm bd Q (Fw on dm bd Q 1000000 0 1) ((nc + 1) ^ nw) be bw) (h2 : RI nc nw on rm dm bd Q ((nc + 1) ^ nw) x) : ∀ j, j < nw → be j = (if nI nc ≤ x.2.2.2 j then -1 else x.2.2.2 j) := by
  obtain ⟨N1, a1, a2, a3, a4, a5, a6⟩ := Opt_max h1
  obtain ⟨N2, b1, b2, b3, b4, b5, b6, b7⟩ := RI_max h2
  have e : N1 = N2 := by
    have c1 := a4 N2 b1 b2
    have c2 := b5 N1 a1 a2
    rw [Vw_B H a2, Vw_B H b2] at c1
    rcases Nat.lt_trichotomy N1 N2 with q | q | q
    · have := b6 N1 q a2; omega
    · exact q
    · have := a5 N2 q b2
      rw [Vw_B H a2, Vw_B H b2] at this
      omega
  subst e
  intro j hj
  have h5 := H.1
  have hd : dg nc nw N1 j ≤ nc := dg_le
  rw [a6 j hj, b7 j hj]
  unfold enc
  by_cases q : nc ≤ dg nc nw N1 j
  · rw [if_pos q, if_pos ((nI_leI (by omega) (by omega)).mpr q)]
  · rw [if_neg q, if_neg (fun h => q ((nI_leI (by omega) (by omega)).mp h))]
theorem fho_cg {f f' : Nat → Int32} {nw : Nat} : ∀ i : Nat, i ≤ nw → (∀ u, u < nw → f u = f' u) → fho f nw i = fho f' nw i
  | 0, _, _ => rfl
  | i + 1, hi, h => by
    unfold fho
    rw [fho_cg i (by omega) h, h _ (by omega)]
theorem fmx_cg {f f' : Nat → Int32} : ∀ n : Nat, (∀ c, c < n → f c = f' c) → fmx f n = fmx f' n
  | 0, _ => rfl
  | n + 1, h => by
    unfold fmx
    rw [fmx_cg n (fun c hc => h c (by omega)), h n (by omega)]
/-- what greatestWorth leaves is the first of the greatest -/
theorem GW_opt (H : SH nc nw on rm dm bd Q (Fw on dm bd Q pw pd pq)) {qq : Nat → Nat → Int32} {rl cn be hp : Nat → Int32} {wo : Nat → Nat → Int32} {z : S4} (hq : ∀ u c, u < nw → c < nc → qq u c = Q u c) (hG : GW nc nw rm on dm qq bd pw pd pq rl cn be hp wo z) : Opt nc nw on rm dm bd Q (Fw on dm bd Q pw pd pq) ((nc + 1) ^ nw) z.2.2.1 z.2.2.2 := by
  obtain ⟨rfl, h1, h2⟩ := hG
  have e : ∀ u c, u < nw → c < nc → fwv on bd (pw + pd * dm u) pq (qq u) c = Fw on dm bd Q pw pd pq u c := fun u c hu hc => by
    show fwv on bd (pw + pd * dm u) pq (qq u) c = fwv on bd (pw + pd * dm u) pq (Q u) c
    unfold fwv
    rw [hq u c hu hc]
  have h := fpl_ok H (hp := hp) (wo := wo) (fun t ht => by rw [h1 t ht]; exact fho_cg _ (by omega) (fun u hu => fmx_cg nc (fun c hc => e u c hu hc))) (fun t c ht hc => by rw [h2 t c ht hc, e t c ht hc]) 7 0 0 0 (va_cpy rm rl 0 0 nc, cn, be, -1) (by omega) (by have := H.2.1; omega)
    ⟨rfl, fun c hc => by
      show va_cpy rm rl 0 0 nc c = _
      rw [pk_cpy_in (by omega) (by omega), show 0 + (c - 0) = c by omega]
      show rm c = rm c - 0
      rw [Int32.sub_zero], fun j hj => absurd hj (by omega), rfl, Or.inl ⟨rfl, fun N hN => absurd hN (by omega)⟩⟩
  have h3 := h.2.2
  rw [show (0 + 1) * (nc + 1) ^ (nw - 0) = (nc + 1) ^ nw by rw [Nat.zero_add, Nat.one_mul, Nat.sub_zero]] at h3
  exact h3
end AH
