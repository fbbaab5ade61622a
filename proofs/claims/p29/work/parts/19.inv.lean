/-! what holds of a state, behind each call -/
theorem IC_lt {n : Nat} {x : Int32} (hn : n < 2 ^ 31) (h : IC n x) : x.toNatClampNeg < n := by
  obtain ⟨k, hk, rfl⟩ := h
  rw [nI_clamp (by omega)]
  exact hk
section IN
variable {nc nw : Nat} {cx cy ch rm wx wy dm sv : Nat → Int32}
theorem SV_mono {a b : Nat} {x : Int32} (h : a ≤ b) (q : SV a x) : SV b x := q.imp id (fun ⟨k, hk, e⟩ => ⟨k, by omega, e⟩)
theorem INV_cell (h : INV nc nw cx cy ch rm wx wy dm sv) {p1 p2 p3 p4 : Int32} (hp : inC p1 p2 p3 p4 ∧ nc < 5) : INV (nc + 1) nw (upd cx nc p1) (upd cy nc p2) (upd ch nc p3) (upd rm nc p4) wx wy dm sv := by
  refine ⟨by omega, h.2.1, fun c hc => ?_, h.2.2.2.1, fun j hj => SV_mono (by omega) (h.2.2.2.2 j hj)⟩
  by_cases q : c = nc
  · subst q
    rw [upd_at, upd_at, upd_at, upd_at]
    exact hp.1
  · rw [upd_ne q, upd_ne q, upd_ne q, upd_ne q]
    exact h.2.2.1 c (by omega)
theorem INV_walker (h : INV nc nw cx cy ch rm wx wy dm sv) {p1 p2 p3 : Int32} (hp : inW p1 p2 p3 ∧ nw < 6) : INV nc (nw + 1) cx cy ch rm (upd wx nw p1) (upd wy nw p2) (upd dm nw p3) (upd sv nw (-1)) := by
  refine ⟨h.1, by omega, h.2.2.1, fun w hw => ?_, fun j hj => ?_⟩
  · by_cases q : w = nw
    · subst q
      rw [upd_at, upd_at, upd_at]
      exact hp.1
    · rw [upd_ne q, upd_ne q, upd_ne q]
      exact h.2.2.2.1 w (by omega)
  · by_cases q : j = nw
    · subst q
      rw [upd_at]
      exact Or.inl rfl
    · rw [upd_ne q]
      exact h.2.2.2.2 j (by omega)
theorem INV_tune (h : INV nc nw cx cy ch rm wx wy dm sv) {p1 p2 : Int32} (hp : IC nc p1 ∧ (0 ≤ p2 ∧ p2 ≤ 2)) : INV nc nw cx cy (upd ch p1.toNatClampNeg p2) rm wx wy dm sv := by
  refine ⟨h.1, h.2.1, fun c hc => ?_, h.2.2.2.1, h.2.2.2.2⟩
  have h1 := h.2.2.1 c hc
  by_cases q : c = p1.toNatClampNeg
  · subst q
    rw [upd_at]
    exact ⟨h1.1, h1.2.1, hp.2, h1.2.2.2⟩
  · rw [upd_ne q]
    exact h1
theorem rng_32 {x : Int64} (h : rng x 0 63) : 0 ≤ x.toInt32 ∧ x.toInt32 ≤ 63 := by
  have h1 := Int64.le_iff_toInt_le.mp h.1
  have h2 := Int64.le_iff_toInt_le.mp h.2
  rw [Int32.toInt_toInt64, show (0 : Int32).toInt = 0 from rfl] at h1
  rw [Int32.toInt_toInt64, show (63 : Int32).toInt = 63 from rfl] at h2
  have h3 : x.toInt32.toInt = x.toInt := by rw [Int64.toInt_toInt32, bm_id (by omega) (by omega)]
  refine ⟨Int32.le_iff_toInt_le.mpr ?_, Int32.le_iff_toInt_le.mpr ?_⟩
  · rw [h3, show (0 : Int32).toInt = 0 from rfl]; exact h1
  · rw [h3, show (63 : Int32).toInt = 63 from rfl]; exact h2
theorem INV_move (h : INV nc nw cx cy ch rm wx wy dm sv) {p1 : Int32} {x y : Int64} (hx : rng x 0 63) (hy : rng y 0 63) : INV nc nw cx cy ch rm (upd wx p1.toNatClampNeg x.toInt32) (upd wy p1.toNatClampNeg y.toInt32) dm sv := by
  refine ⟨h.1, h.2.1, h.2.2.1, fun w hw => ?_, h.2.2.2.2⟩
  have h1 := h.2.2.2.1 w hw
  by_cases q : w = p1.toNatClampNeg
  · subst q
    rw [upd_at, upd_at]
    exact ⟨rng_32 hx, rng_32 hy, h1.2.2⟩
  · rw [upd_ne q, upd_ne q]
    exact h1
theorem INV_sv (h : INV nc nw cx cy ch rm wx wy dm sv) {sv' : Nat → Int32} (hs : ∀ j, j < nw → SV nc (sv' j)) : INV nc nw cx cy ch rm wx wy dm sv' := ⟨h.1, h.2.1, h.2.2.1, h.2.2.2.1, hs⟩
theorem frw_sv {c : Int32} {z : (Nat → Int32) × (Nat → Int32) × (Nat → Int32)} {P : Nat → Prop} (h : ∀ j, P j → SV nc (z.1 j)) : ∀ n : Nat, ∀ j, P j → SV nc ((frw c z n).1 j)
  | 0 => h
  | n + 1 => by
    have ih := frw_sv (c := c) h n
    unfold frw
    split
    · exact SV_upd ih (Or.inl rfl)
    · exact ih
theorem INV_turn (h : INV nc nw cx cy ch rm wx wy dm sv) {p1 x : Int32} {fv hd : Nat → Int32} : INV nc nw cx cy ch rm wx wy dm ((if x = 0 then (sv, fv, hd) else frw p1 (sv, fv, hd) nw).1) := by
  refine INV_sv h (fun j hj => ?_)
  split
  · exact h.2.2.2.2 j hj
  · exact frw_sv (z := (sv, fv, hd)) (P := fun j => j < nw) h.2.2.2.2 nw j hj
theorem INV.QB (h : INV nc nw cx cy ch rm wx wy dm sv) (on us : Nat → Int32) : QB nc nw rm dm (fqu cx cy ch on wx wy (fil nc (fus rm sv dm nw) us) nc) := ⟨h.1, h.2.1, fun c hc => tB_of (h.2.2.1 c hc).2.2.2, h.idm, fun _ _ hu hc => h.iqu (h.ifil sv us) hc hu⟩
theorem QF_eq {on mu us : Nat → Int32} {qq : Nat → Nat → Int32} : ∀ u c, u < nw → c < nc → fil2 nw nc (fun w c => fqu cx cy ch on wx wy (fil nc (fus rm sv dm nw) mu) nc w c) qq u c = fqu cx cy ch on wx wy (fil nc (fus rm sv dm nw) us) nc u c := fun u c hu hc => by
  show (if u < nw ∧ c < nc then _ else _) = _
  rw [if_pos ⟨hu, hc⟩]
  exact fqu_fil
end IN
