/-! the next number's digits -/
theorem dig_all {B N : Nat} (hB : 0 < B) : ∀ k : Nat, (∀ i, i < k → N / B ^ i % B = B - 1) → N % B ^ k = B ^ k - 1
  | 0, _ => by rw [Nat.pow_zero, Nat.mod_one]
  | k + 1, h => by
    have ih := dig_all hB k (fun i hi => h i (by omega))
    have hp : 0 < B ^ k := Nat.pow_pos hB
    rw [Nat.mod_pow_succ, ih, h k (by omega), Nat.pow_succ, Nat.mul_sub, Nat.mul_one]
    have : B ^ k ≤ B ^ k * B := Nat.le_mul_of_pos_right _ hB
    omega
theorem dig_lo {B a k i : Nat} (hB : 0 < B) (h : i < k) : B ^ k * (a + 1) / B ^ i % B = 0 := by
  have e : B ^ k * (a + 1) = B ^ i * (B * (B ^ (k - i - 1) * (a + 1))) := by
    rw [← Nat.mul_assoc, ← Nat.mul_assoc, ← Nat.pow_succ, ← Nat.pow_add]
    congr 2
    omega
  rw [e, Nat.mul_div_cancel_left _ (Nat.pow_pos hB), Nat.mul_mod_right]
theorem succ_div {B a : Nat} (h : a % B + 1 < B) : (a + 1) / B = a / B ∧ (a + 1) % B = a % B + 1 := by
  have h1 := Nat.div_add_mod a B
  have hB : 0 < B := by omega
  have h2 : (a + 1) / B = a / B := by
    apply Nat.div_eq_of_lt_le
    · have := Nat.div_mul_le_self a B; omega
    · rw [Nat.add_mul, Nat.one_mul, Nat.mul_comm]; omega
  refine ⟨h2, ?_⟩
  have h3 := Nat.div_add_mod (a + 1) B
  rw [h2] at h3
  omega
theorem NXT_all (nc nw : Nat) (h5 : nc ≤ 5) : NXT nc nw := by
  intro N gv gw r hN hd hG
  obtain ⟨t, ht, hz, hc⟩ := hG
  have hB : 0 < nc + 1 := Nat.succ_pos _
  have hinj : ∀ {x y : Nat}, x ≤ 5 → y ≤ 5 → nI x = nI y → x = y := fun hx hy e => (nI_eq (by omega) (by omega)).mp e
  have hdl : ∀ j, dg nc nw N j ≤ nc := fun j => dg_le
  have hk : N % (nc + 1) ^ (nw - t) = (nc + 1) ^ (nw - t) - 1 := by
    refine dig_all hB _ (fun i hi => ?_)
    have h1 := (hz (nw - 1 - i) (by omega) (by omega)).1
    rw [hd _ (by omega)] at h1
    have h2 := hinj (Nat.le_trans (hdl _) h5) h5 h1
    unfold dg at h2
    rw [show nw - 1 - (nw - 1 - i) = i by omega] at h2
    rw [h2]
    omega
  have hp : 0 < (nc + 1) ^ (nw - t) := Nat.pow_pos hB
  rcases hc with ⟨rfl, rfl⟩ | ⟨h0, hne, rfl, hg, hs⟩
  · rw [Nat.sub_zero, Nat.mod_eq_of_lt hN] at hk
    rw [Nat.sub_zero] at hp
    have : ¬ N + 1 < (nc + 1) ^ nw := by omega
    exact ⟨by rw [decide_eq_false this]; rfl, fun q => absurd q this⟩
  · have e1 : N + 1 = (nc + 1) ^ (nw - t) * (N / (nc + 1) ^ (nw - t) + 1) := by
      have := Nat.div_add_mod N ((nc + 1) ^ (nw - t))
      rw [hk] at this
      rw [Nat.mul_add, Nat.mul_one]
      omega
    generalize ha : N / (nc + 1) ^ (nw - t) = a at e1
    have hda : dg nc nw N (t - 1) = a % (nc + 1) := by
      unfold dg
      rw [show nw - 1 - (t - 1) = nw - t by omega, ha]
    have hlt : a % (nc + 1) + 1 < nc + 1 := by
      have h1 := hdl (t - 1)
      rw [hd _ (by omega)] at hne
      have h2 : ¬ dg nc nw N (t - 1) = nc := fun q => hne (by rw [q])
      rw [hda] at h1 h2
      omega
    obtain ⟨hs1, hs2⟩ := succ_div hlt
    have hpw : (nc + 1) ^ nw = (nc + 1) ^ (nw - t) * (nc + 1) ^ t := by rw [← Nat.pow_add, Nat.sub_add_cancel ht]
    have hat : a < (nc + 1) ^ t := by
      rw [← ha]
      exact Nat.div_lt_of_lt_mul (by rw [← hpw]; exact hN)
    have hat1 : a + 1 < (nc + 1) ^ t := by
      by_cases q : a + 1 = (nc + 1) ^ t
      · have h3 : (a + 1) % (nc + 1) = 0 := by
          rw [q, show t = (t - 1) + 1 by omega, Nat.pow_succ, Nat.mul_mod_left]
        omega
      · omega
    have hlt2 : N + 1 < (nc + 1) ^ nw := by
      rw [e1, hpw]
      exact Nat.mul_lt_mul_of_pos_left hat1 hp
    refine ⟨by rw [decide_eq_true hlt2]; rfl, fun _ j hj => ?_⟩
    by_cases h1 : t ≤ j
    · rw [(hz j h1 hj).2]
      unfold dg
      rw [e1, dig_lo hB (by omega)]
      rfl
    · by_cases h2 : j = t - 1
      · subst h2
        rw [hg, hd _ hj, hda]
        unfold dg
        rw [show nw - 1 - (t - 1) = nw - t by omega, e1, Nat.mul_div_cancel_left _ hp, hs2]
        exact nI_1 _
      · rw [hs j (by omega), hd j hj]
        unfold dg
        have e2 : (nc + 1) ^ (nw - 1 - j) = (nc + 1) ^ (nw - t) * ((nc + 1) * (nc + 1) ^ (t - 2 - j)) := by
          rw [Nat.mul_comm (nc + 1) ((nc + 1) ^ (t - 2 - j)), ← Nat.pow_succ, ← Nat.pow_add]
          congr 1
          omega
        rw [e2, ← Nat.div_div_eq_div_mul, ← Nat.div_div_eq_div_mul (N + 1), ha, e1, Nat.mul_div_cancel_left _ hp, ← Nat.div_div_eq_div_mul, ← Nat.div_div_eq_div_mul, hs1]
