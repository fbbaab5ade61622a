/-! the reference -/
/-! the reference's own words -/
def bz : Bool → Int32
  | true => 1
  | false => 0
def mth (b : Bool) : Int32 := bz (!b)
def mbt (a b : Bool) : Int32 := if a = false then 1 else if b = false then 2 else 0
theorem bz_nar (b : Bool) : narrow .boolean (.int (bz b)) = .int (bz b) := by cases b <;> rfl
theorem bz_0 {b : Bool} (h : bz b = 0) : b = false := by
  cases b
  · rfl
  · exact absurd h (by decide)
theorem bz_1 {b : Bool} (h : ¬ bz b = 0) : b = true := by
  cases b
  · exact absurd rfl h
  · rfl
theorem mth_0 {b : Bool} (h : ¬ bz b = 0) : mth b = 0 := by rw [bz_1 h]; rfl
theorem mth_1 {b : Bool} (h : bz b = 0) : mth b = 1 := by rw [bz_0 h]; rfl
def icb (n : Nat) (p : Int32) : Bool := decide (0 ≤ p) && decide (p < nI n)
def lnb (p : Int64) : Bool := decide (0 ≤ p) && decide (p ≤ 63)
theorem icb_yes {n : Nat} {p : Int32} (hn : n < 2 ^ 31) (h : icb n p = true) : IC n p := by
  simp only [icb, Bool.and_eq_true, decide_eq_true_eq] at h
  exact IC_yes hn (Int32.not_lt.mpr h.1) h.2
theorem icb_of {n : Nat} {p : Int32} (hn : n < 2 ^ 31) (h : IC n p) : icb n p = true := by
  obtain ⟨k, hk, rfl⟩ := h
  simp only [icb, Bool.and_eq_true, decide_eq_true_eq]
  exact ⟨nI_pos' (by omega), nI_lt hk hn⟩
theorem icb_no {n : Nat} {p : Int32} (hn : n < 2 ^ 31) (h : icb n p = false) : ¬ IC n p := fun q => by rw [icb_of hn q] at h; cases h
theorem lnb_iff {p : Int64} : lnb p = true ↔ rng p 0 63 := by
  simp only [lnb, Bool.and_eq_true, decide_eq_true_eq, rng]
  rw [show (0 : Int32).toInt64 = 0 from by decide, show (63 : Int32).toInt64 = 63 from by decide]
theorem lnb_yes {p : Int64} (h : ¬ bz (lnb p) = 0) : rng p 0 63 := lnb_iff.mp (bz_1 h)
theorem lnb_no {p : Int64} (h : bz (lnb p) = 0) : ¬ rng p 0 63 := fun q => by rw [lnb_iff.mpr q] at h; exact absurd h (by decide)
theorem ab_p {x : Int32} (h : 0 ≤ x) : ab x = x := if_pos h
theorem ab_n {x : Int32} (h : ¬ 0 ≤ x) : ab x = -x := by
  unfold ab
  rw [if_neg h]
  apply Int32.toBitVec_inj.mp
  simp
theorem Int32_add0 (x : Int32) : x + 0 = x := by
  apply Int32.toBitVec_inj.mp
  simp
theorem Int32_or0 (x : Int32) : x ||| 0 = x := by
  apply Int32.toBitVec_inj.mp
  simp
theorem nI_pred1 (n : Nat) : nI (n + 1) - 1 = nI n := nI_pred n
/-- a tick of the reference: ticks, uses, the walkers' -/
abbrev PM : Type := Int32 × (Nat → Int32) × TS
def fmt (cx cy ch on wx wy rm dm : Nat → Int32) (nc nw : Nat) (mg pt bd : Int32) (x : PM) : PM :=
  (x.1 + 1, fil nc (fus rm x.2.2.1 dm nw) x.2.1, ftw on dm rm nc nw (fqu cx cy ch on wx wy (fil nc (fus rm x.2.2.1 dm nw) x.2.1) nc) mg pt bd (x.1 + 1) x.2.2 nw)
def fmi (cx cy ch on wx wy rm dm : Nat → Int32) (nc nw : Nat) (mg pt bd : Int32) (x : PM) : Nat → PM
  | 0 => x
  | n + 1 => fmt cx cy ch on wx wy rm dm nc nw mg pt bd (fmi cx cy ch on wx wy rm dm nc nw mg pt bd x n)
theorem iX3_thrown_X3 : ∀ w ∈ u_ws RX3 TX3 30, w ∈ wsX3_thrown := by decide +kernel
set_option maxHeartbeats 1000000 in
set_option maxRecDepth 100000 in
theorem t_X3_thrown {l : Launch} {D : va_G} {cI cZ cJ cG cW : ClassId} {q : Nat → Nat} {nc nw : Nat} {cx cy ch rm on wx wy dm sv fv hd lf la : Nat → Int32} {mg pt bd tk ho ri lo : Int32} {us gv bs ld qs : Nat → Int32} {mS mD th : Int32}   : CtI l yX3_thrown wsX3_thrown 0 0 0 0 D (T5 cI cZ cJ cG cW) [.ref (q 0)] (wM cI cZ q nc nw cx cy ch rm on wx wy dm sv fv hd lf la mg pt bd tk ho ri lo us gv bs ld qs mS mD th) (fun rv wv => rv = th ∧ wv = (wM cI cZ q nc nw cx cy ch rm on wx wy dm sv fv hd lf la mg pt bd tk ho ri lo us gv bs ld qs mS mD th)) := by
  refine ctI_of (cc := cX3_thrown) (maxL := 1) RX3 0 [some (.ref (q 0))] (by decide +kernel) rfl rfl (Nat.le_of_ble_eq_true rfl) rfl (fun p_ e_ s_ m_ as_ bl_ me_ co_ C hret => ?_)
  have f75 := C.ts (.fieldLink RX3 75 "CellPlannerModel" "thrown" "I") (by decide +kernel)
  refine g_aload_n C dX3_thrown_0 rfl ?_
  refine g_get C 0 iX3_thrown_X3 rfl rfl 29 (by decide) f75 rfl dX3_thrown_1 ?_
  exact g_iret C hret dX3_thrown_4 (Nat.le_of_ble_eq_true rfl) (Nat.le_of_ble_eq_true rfl) ⟨rfl, rfl⟩
theorem iX3_ticks_X3 : ∀ w ∈ u_ws RX3 TX3 30, w ∈ wsX3_ticks := by decide +kernel
set_option maxHeartbeats 1000000 in
set_option maxRecDepth 100000 in
theorem t_X3_ticks {l : Launch} {D : va_G} {cI cZ cJ cG cW : ClassId} {q : Nat → Nat} {nc nw : Nat} {cx cy ch rm on wx wy dm sv fv hd lf la : Nat → Int32} {mg pt bd tk ho ri lo : Int32} {us gv bs ld qs : Nat → Int32} {mS mD th : Int32}   : CtI l yX3_ticks wsX3_ticks 0 0 0 0 D (T5 cI cZ cJ cG cW) [.ref (q 0)] (wM cI cZ q nc nw cx cy ch rm on wx wy dm sv fv hd lf la mg pt bd tk ho ri lo us gv bs ld qs mS mD th) (fun rv wv => rv = tk ∧ wv = (wM cI cZ q nc nw cx cy ch rm on wx wy dm sv fv hd lf la mg pt bd tk ho ri lo us gv bs ld qs mS mD 0)) := by
  refine ctI_of (cc := cX3_ticks) (maxL := 1) RX3 0 [some (.ref (q 0))] (by decide +kernel) rfl rfl (Nat.le_of_ble_eq_true rfl) rfl (fun p_ e_ s_ m_ as_ bl_ me_ co_ C hret => ?_)
  have f75 := C.ts (.fieldLink RX3 75 "CellPlannerModel" "thrown" "I") (by decide +kernel)
  have f129 := C.ts (.fieldLink RX3 129 "CellPlannerModel" "ticks" "I") (by decide +kernel)
  refine g_aload_n C dX3_ticks_0 rfl ?_
  refine g_iconst C 0 dX3_ticks_1 (by decide +kernel) ?_
  refine g_put C 0 iX3_ticks_X3 rfl rfl 29 (by decide) f75 rfl tyX3 tyX3_ok nmX3 (ty := .int) (by decide +kernel) rfl rfl (Nat.le_of_ble_eq_true rfl) (wM cI cZ q nc nw cx cy ch rm on wx wy dm sv fv hd lf la mg pt bd tk ho ri lo us gv bs ld qs mS mD 0) rfl dX3_ticks_2 ?_
  refine g_aload_n C dX3_ticks_5 rfl ?_
  refine g_get C 0 iX3_ticks_X3 rfl rfl 18 (by decide) f129 rfl dX3_ticks_6 ?_
  exact g_iret C hret dX3_ticks_9 (Nat.le_of_ble_eq_true rfl) (Nat.le_of_ble_eq_true rfl) ⟨rfl, rfl⟩
theorem iX3_cells_X3 : ∀ w ∈ u_ws RX3 TX3 30, w ∈ wsX3_cells := by decide +kernel
set_option maxHeartbeats 1000000 in
set_option maxRecDepth 100000 in
theorem t_X3_cells {l : Launch} {D : va_G} {cI cZ cJ cG cW : ClassId} {q : Nat → Nat} {nc nw : Nat} {cx cy ch rm on wx wy dm sv fv hd lf la : Nat → Int32} {mg pt bd tk ho ri lo : Int32} {us gv bs ld qs : Nat → Int32} {mS mD th : Int32}   : CtI l yX3_cells wsX3_cells 0 0 0 0 D (T5 cI cZ cJ cG cW) [.ref (q 0)] (wM cI cZ q nc nw cx cy ch rm on wx wy dm sv fv hd lf la mg pt bd tk ho ri lo us gv bs ld qs mS mD th) (fun rv wv => rv = nI nc ∧ wv = (wM cI cZ q nc nw cx cy ch rm on wx wy dm sv fv hd lf la mg pt bd tk ho ri lo us gv bs ld qs mS mD 0)) := by
  refine ctI_of (cc := cX3_cells) (maxL := 1) RX3 0 [some (.ref (q 0))] (by decide +kernel) rfl rfl (Nat.le_of_ble_eq_true rfl) rfl (fun p_ e_ s_ m_ as_ bl_ me_ co_ C hret => ?_)
  have f75 := C.ts (.fieldLink RX3 75 "CellPlannerModel" "thrown" "I") (by decide +kernel)
  have f78 := C.ts (.fieldLink RX3 78 "CellPlannerModel" "cells" "I") (by decide +kernel)
  refine g_aload_n C dX3_cells_0 rfl ?_
  refine g_iconst C 0 dX3_cells_1 (by decide +kernel) ?_
  refine g_put C 0 iX3_cells_X3 rfl rfl 29 (by decide) f75 rfl tyX3 tyX3_ok nmX3 (ty := .int) (by decide +kernel) rfl rfl (Nat.le_of_ble_eq_true rfl) (wM cI cZ q nc nw cx cy ch rm on wx wy dm sv fv hd lf la mg pt bd tk ho ri lo us gv bs ld qs mS mD 0) rfl dX3_cells_2 ?_
  refine g_aload_n C dX3_cells_5 rfl ?_
  refine g_get C 0 iX3_cells_X3 rfl rfl 0 (by decide) f78 rfl dX3_cells_6 ?_
  exact g_iret C hret dX3_cells_9 (Nat.le_of_ble_eq_true rfl) (Nat.le_of_ble_eq_true rfl) ⟨rfl, rfl⟩
theorem iX3_walkers_X3 : ∀ w ∈ u_ws RX3 TX3 30, w ∈ wsX3_walkers := by decide +kernel
set_option maxHeartbeats 1000000 in
set_option maxRecDepth 100000 in
theorem t_X3_walkers {l : Launch} {D : va_G} {cI cZ cJ cG cW : ClassId} {q : Nat → Nat} {nc nw : Nat} {cx cy ch rm on wx wy dm sv fv hd lf la : Nat → Int32} {mg pt bd tk ho ri lo : Int32} {us gv bs ld qs : Nat → Int32} {mS mD th : Int32}   : CtI l yX3_walkers wsX3_walkers 0 0 0 0 D (T5 cI cZ cJ cG cW) [.ref (q 0)] (wM cI cZ q nc nw cx cy ch rm on wx wy dm sv fv hd lf la mg pt bd tk ho ri lo us gv bs ld qs mS mD th) (fun rv wv => rv = nI nw ∧ wv = (wM cI cZ q nc nw cx cy ch rm on wx wy dm sv fv hd lf la mg pt bd tk ho ri lo us gv bs ld qs mS mD 0)) := by
  refine ctI_of (cc := cX3_walkers) (maxL := 1) RX3 0 [some (.ref (q 0))] (by decide +kernel) rfl rfl (Nat.le_of_ble_eq_true rfl) rfl (fun p_ e_ s_ m_ as_ bl_ me_ co_ C hret => ?_)
  have f75 := C.ts (.fieldLink RX3 75 "CellPlannerModel" "thrown" "I") (by decide +kernel)
  have f81 := C.ts (.fieldLink RX3 81 "CellPlannerModel" "walkers" "I") (by decide +kernel)
  refine g_aload_n C dX3_walkers_0 rfl ?_
  refine g_iconst C 0 dX3_walkers_1 (by decide +kernel) ?_
  refine g_put C 0 iX3_walkers_X3 rfl rfl 29 (by decide) f75 rfl tyX3 tyX3_ok nmX3 (ty := .int) (by decide +kernel) rfl rfl (Nat.le_of_ble_eq_true rfl) (wM cI cZ q nc nw cx cy ch rm on wx wy dm sv fv hd lf la mg pt bd tk ho ri lo us gv bs ld qs mS mD 0) rfl dX3_walkers_2 ?_
  refine g_aload_n C dX3_walkers_5 rfl ?_
  refine g_get C 0 iX3_walkers_X3 rfl rfl 6 (by decide) f81 rfl dX3_walkers_6 ?_
  exact g_iret C hret dX3_walkers_9 (Nat.le_of_ble_eq_true rfl) (Nat.le_of_ble_eq_true rfl) ⟨rfl, rfl⟩
theorem iX3_handovers_X3 : ∀ w ∈ u_ws RX3 TX3 30, w ∈ wsX3_handovers := by decide +kernel
set_option maxHeartbeats 1000000 in
set_option maxRecDepth 100000 in
theorem t_X3_handovers {l : Launch} {D : va_G} {cI cZ cJ cG cW : ClassId} {q : Nat → Nat} {nc nw : Nat} {cx cy ch rm on wx wy dm sv fv hd lf la : Nat → Int32} {mg pt bd tk ho ri lo : Int32} {us gv bs ld qs : Nat → Int32} {mS mD th : Int32}   : CtI l yX3_handovers wsX3_handovers 0 0 0 0 D (T5 cI cZ cJ cG cW) [.ref (q 0)] (wM cI cZ q nc nw cx cy ch rm on wx wy dm sv fv hd lf la mg pt bd tk ho ri lo us gv bs ld qs mS mD th) (fun rv wv => rv = ho ∧ wv = (wM cI cZ q nc nw cx cy ch rm on wx wy dm sv fv hd lf la mg pt bd tk ho ri lo us gv bs ld qs mS mD 0)) := by
  refine ctI_of (cc := cX3_handovers) (maxL := 1) RX3 0 [some (.ref (q 0))] (by decide +kernel) rfl rfl (Nat.le_of_ble_eq_true rfl) rfl (fun p_ e_ s_ m_ as_ bl_ me_ co_ C hret => ?_)
  have f75 := C.ts (.fieldLink RX3 75 "CellPlannerModel" "thrown" "I") (by decide +kernel)
  have f123 := C.ts (.fieldLink RX3 123 "CellPlannerModel" "handovers" "I") (by decide +kernel)
  refine g_aload_n C dX3_handovers_0 rfl ?_
  refine g_iconst C 0 dX3_handovers_1 (by decide +kernel) ?_
  refine g_put C 0 iX3_handovers_X3 rfl rfl 29 (by decide) f75 rfl tyX3 tyX3_ok nmX3 (ty := .int) (by decide +kernel) rfl rfl (Nat.le_of_ble_eq_true rfl) (wM cI cZ q nc nw cx cy ch rm on wx wy dm sv fv hd lf la mg pt bd tk ho ri lo us gv bs ld qs mS mD 0) rfl dX3_handovers_2 ?_
  refine g_aload_n C dX3_handovers_5 rfl ?_
  refine g_get C 0 iX3_handovers_X3 rfl rfl 19 (by decide) f123 rfl dX3_handovers_6 ?_
  exact g_iret C hret dX3_handovers_9 (Nat.le_of_ble_eq_true rfl) (Nat.le_of_ble_eq_true rfl) ⟨rfl, rfl⟩
theorem iX3_rings_X3 : ∀ w ∈ u_ws RX3 TX3 30, w ∈ wsX3_rings := by decide +kernel
set_option maxHeartbeats 1000000 in
set_option maxRecDepth 100000 in
theorem t_X3_rings {l : Launch} {D : va_G} {cI cZ cJ cG cW : ClassId} {q : Nat → Nat} {nc nw : Nat} {cx cy ch rm on wx wy dm sv fv hd lf la : Nat → Int32} {mg pt bd tk ho ri lo : Int32} {us gv bs ld qs : Nat → Int32} {mS mD th : Int32}   : CtI l yX3_rings wsX3_rings 0 0 0 0 D (T5 cI cZ cJ cG cW) [.ref (q 0)] (wM cI cZ q nc nw cx cy ch rm on wx wy dm sv fv hd lf la mg pt bd tk ho ri lo us gv bs ld qs mS mD th) (fun rv wv => rv = ri ∧ wv = (wM cI cZ q nc nw cx cy ch rm on wx wy dm sv fv hd lf la mg pt bd tk ho ri lo us gv bs ld qs mS mD 0)) := by
  refine ctI_of (cc := cX3_rings) (maxL := 1) RX3 0 [some (.ref (q 0))] (by decide +kernel) rfl rfl (Nat.le_of_ble_eq_true rfl) rfl (fun p_ e_ s_ m_ as_ bl_ me_ co_ C hret => ?_)
  have f75 := C.ts (.fieldLink RX3 75 "CellPlannerModel" "thrown" "I") (by decide +kernel)
  have f126 := C.ts (.fieldLink RX3 126 "CellPlannerModel" "rings" "I") (by decide +kernel)
  refine g_aload_n C dX3_rings_0 rfl ?_
  refine g_iconst C 0 dX3_rings_1 (by decide +kernel) ?_
  refine g_put C 0 iX3_rings_X3 rfl rfl 29 (by decide) f75 rfl tyX3 tyX3_ok nmX3 (ty := .int) (by decide +kernel) rfl rfl (Nat.le_of_ble_eq_true rfl) (wM cI cZ q nc nw cx cy ch rm on wx wy dm sv fv hd lf la mg pt bd tk ho ri lo us gv bs ld qs mS mD 0) rfl dX3_rings_2 ?_
  refine g_aload_n C dX3_rings_5 rfl ?_
  refine g_get C 0 iX3_rings_X3 rfl rfl 20 (by decide) f126 rfl dX3_rings_6 ?_
  exact g_iret C hret dX3_rings_9 (Nat.le_of_ble_eq_true rfl) (Nat.le_of_ble_eq_true rfl) ⟨rfl, rfl⟩
theorem iX3_losses_X3 : ∀ w ∈ u_ws RX3 TX3 30, w ∈ wsX3_losses := by decide +kernel
set_option maxHeartbeats 1000000 in
set_option maxRecDepth 100000 in
theorem t_X3_losses {l : Launch} {D : va_G} {cI cZ cJ cG cW : ClassId} {q : Nat → Nat} {nc nw : Nat} {cx cy ch rm on wx wy dm sv fv hd lf la : Nat → Int32} {mg pt bd tk ho ri lo : Int32} {us gv bs ld qs : Nat → Int32} {mS mD th : Int32}   : CtI l yX3_losses wsX3_losses 0 0 0 0 D (T5 cI cZ cJ cG cW) [.ref (q 0)] (wM cI cZ q nc nw cx cy ch rm on wx wy dm sv fv hd lf la mg pt bd tk ho ri lo us gv bs ld qs mS mD th) (fun rv wv => rv = lo ∧ wv = (wM cI cZ q nc nw cx cy ch rm on wx wy dm sv fv hd lf la mg pt bd tk ho ri lo us gv bs ld qs mS mD 0)) := by
  refine ctI_of (cc := cX3_losses) (maxL := 1) RX3 0 [some (.ref (q 0))] (by decide +kernel) rfl rfl (Nat.le_of_ble_eq_true rfl) rfl (fun p_ e_ s_ m_ as_ bl_ me_ co_ C hret => ?_)
  have f75 := C.ts (.fieldLink RX3 75 "CellPlannerModel" "thrown" "I") (by decide +kernel)
  have f135 := C.ts (.fieldLink RX3 135 "CellPlannerModel" "losses" "I") (by decide +kernel)
  refine g_aload_n C dX3_losses_0 rfl ?_
  refine g_iconst C 0 dX3_losses_1 (by decide +kernel) ?_
  refine g_put C 0 iX3_losses_X3 rfl rfl 29 (by decide) f75 rfl tyX3 tyX3_ok nmX3 (ty := .int) (by decide +kernel) rfl rfl (Nat.le_of_ble_eq_true rfl) (wM cI cZ q nc nw cx cy ch rm on wx wy dm sv fv hd lf la mg pt bd tk ho ri lo us gv bs ld qs mS mD 0) rfl dX3_losses_2 ?_
  refine g_aload_n C dX3_losses_5 rfl ?_
  refine g_get C 0 iX3_losses_X3 rfl rfl 21 (by decide) f135 rfl dX3_losses_6 ?_
  exact g_iret C hret dX3_losses_9 (Nat.le_of_ble_eq_true rfl) (Nat.le_of_ble_eq_true rfl) ⟨rfl, rfl⟩
theorem iX3_may_X3 : ∀ w ∈ u_ws RX3 TX3 30, w ∈ wsX3_may := by decide +kernel
set_option maxHeartbeats 1000000 in
set_option maxRecDepth 100000 in
theorem t_X3_may {l : Launch} {D : va_G} {cI cZ cJ cG cW : ClassId} {q : Nat → Nat} {nc nw : Nat} {cx cy ch rm on wx wy dm sv fv hd lf la : Nat → Int32} {mg pt bd tk ho ri lo : Int32} {us gv bs ld qs : Nat → Int32} {mS mD th : Int32} {bb : Bool}  : CtI l yX3_may wsX3_may 0 0 0 0 D (T5 cI cZ cJ cG cW) [.ref (q 0), .int (bz bb)] (wM cI cZ q nc nw cx cy ch rm on wx wy dm sv fv hd lf la mg pt bd tk ho ri lo us gv bs ld qs mS mD th) (fun rv wv => rv = bz bb ∧ wv = (wM cI cZ q nc nw cx cy ch rm on wx wy dm sv fv hd lf la mg pt bd tk ho ri lo us gv bs ld qs mS mD (mth bb))) := by
  refine ctI_of (cc := cX3_may) (maxL := 2) RX3 0 [some (.ref (q 0)), some (.int (bz bb))] (by decide +kernel) rfl rfl (Nat.le_of_ble_eq_true rfl) rfl (fun p_ e_ s_ m_ as_ bl_ me_ co_ C hret => ?_)
  have f75 := C.ts (.fieldLink RX3 75 "CellPlannerModel" "thrown" "I") (by decide +kernel)
  refine g_aload_n C dX3_may_0 rfl ?_
  refine g_iload_n C dX3_may_1 rfl ?_
  refine g_if_eq C 9 dX3_may_2 (by decide) (fun c_2 => ?_) (fun c_2 => ?_)
  · skip
    refine g_iconst C 1 dX3_may_9 (by decide +kernel) ?_
    refine g_put C 0 iX3_may_X3 rfl rfl 29 (by decide) f75 rfl tyX3 tyX3_ok nmX3 (ty := .int) (by decide +kernel) rfl rfl (Nat.le_of_ble_eq_true rfl) (wM cI cZ q nc nw cx cy ch rm on wx wy dm sv fv hd lf la mg pt bd tk ho ri lo us gv bs ld qs mS mD 1) rfl dX3_may_10 ?_
    refine g_iload_n C dX3_may_13 rfl ?_
    exact g_zret C hret (bz_nar _) dX3_may_14 (Nat.le_of_ble_eq_true rfl) (Nat.le_of_ble_eq_true rfl) ⟨rfl, (by rw [show mth bb = 1 from (by first | exact mth_1 c_2 | exact mth_0 c_2)])⟩
  · skip
    refine g_iconst C 0 dX3_may_5 (by decide +kernel) ?_
    refine g_goto C 10 dX3_may_6 (by decide) ?_
    refine g_put C 0 iX3_may_X3 rfl rfl 29 (by decide) f75 rfl tyX3 tyX3_ok nmX3 (ty := .int) (by decide +kernel) rfl rfl (Nat.le_of_ble_eq_true rfl) (wM cI cZ q nc nw cx cy ch rm on wx wy dm sv fv hd lf la mg pt bd tk ho ri lo us gv bs ld qs mS mD 0) rfl dX3_may_10 ?_
    refine g_iload_n C dX3_may_13 rfl ?_
    exact g_zret C hret (bz_nar _) dX3_may_14 (Nat.le_of_ble_eq_true rfl) (Nat.le_of_ble_eq_true rfl) ⟨rfl, (by rw [show mth bb = 0 from (by first | exact mth_1 c_2 | exact mth_0 c_2)])⟩
theorem iX3_mayBoth_X3 : ∀ w ∈ u_ws RX3 TX3 30, w ∈ wsX3_mayBoth := by decide +kernel
set_option maxHeartbeats 1000000 in
set_option maxRecDepth 100000 in
theorem t_X3_mayBoth {l : Launch} {D : va_G} {cI cZ cJ cG cW : ClassId} {q : Nat → Nat} {nc nw : Nat} {cx cy ch rm on wx wy dm sv fv hd lf la : Nat → Int32} {mg pt bd tk ho ri lo : Int32} {us gv bs ld qs : Nat → Int32} {mS mD th : Int32} {b1 b2 : Bool}  : CtI l yX3_mayBoth wsX3_mayBoth 0 0 0 0 D (T5 cI cZ cJ cG cW) [.ref (q 0), .int (bz b1), .int (bz b2)] (wM cI cZ q nc nw cx cy ch rm on wx wy dm sv fv hd lf la mg pt bd tk ho ri lo us gv bs ld qs mS mD th) (fun rv wv => rv = bz (b1 && b2) ∧ wv = (wM cI cZ q nc nw cx cy ch rm on wx wy dm sv fv hd lf la mg pt bd tk ho ri lo us gv bs ld qs mS mD (mbt b1 b2))) := by
  refine ctI_of (cc := cX3_mayBoth) (maxL := 3) RX3 0 [some (.ref (q 0)), some (.int (bz b1)), some (.int (bz b2))] (by decide +kernel) rfl rfl (Nat.le_of_ble_eq_true rfl) rfl (fun p_ e_ s_ m_ as_ bl_ me_ co_ C hret => ?_)
  have f75 := C.ts (.fieldLink RX3 75 "CellPlannerModel" "thrown" "I") (by decide +kernel)
  refine g_aload_n C dX3_mayBoth_0 rfl ?_
  refine g_iload_n C dX3_mayBoth_1 rfl ?_
  refine g_if_ne C 9 dX3_mayBoth_2 (by decide) (fun c_2 => ?_) (fun c_2 => ?_)
  · skip
    refine g_iload_n C dX3_mayBoth_9 rfl ?_
    refine g_if_ne C 17 dX3_mayBoth_10 (by decide) (fun c_10 => ?_) (fun c_10 => ?_)
    · skip
      refine g_iconst C 0 dX3_mayBoth_17 (by decide +kernel) ?_
      refine g_put C 0 iX3_mayBoth_X3 rfl rfl 29 (by decide) f75 rfl tyX3 tyX3_ok nmX3 (ty := .int) (by decide +kernel) rfl rfl (Nat.le_of_ble_eq_true rfl) (wM cI cZ q nc nw cx cy ch rm on wx wy dm sv fv hd lf la mg pt bd tk ho ri lo us gv bs ld qs mS mD 0) rfl dX3_mayBoth_18 ?_
      refine g_aload_n C dX3_mayBoth_21 rfl ?_
      refine g_get C 0 iX3_mayBoth_X3 rfl rfl 29 (by decide) f75 rfl dX3_mayBoth_22 ?_
      refine g_if_ne C 32 dX3_mayBoth_25 (by decide) (fun c9 => absurd rfl c9) (fun _ => ?_)
      refine g_iconst C 1 dX3_mayBoth_28 (by decide +kernel) ?_
      refine g_goto C 33 dX3_mayBoth_29 (by decide) ?_
      exact g_zret C hret rfl dX3_mayBoth_33 (Nat.le_of_ble_eq_true rfl) (Nat.le_of_ble_eq_true rfl) ⟨(by rw [bz_1 c_2, bz_1 c_10]; rfl), (by rw [show mbt b1 b2 = 0 from (by rw [bz_1 c_2, bz_1 c_10]; rfl)])⟩
    · skip
      refine g_iconst C 2 dX3_mayBoth_13 (by decide +kernel) ?_
      refine g_goto C 18 dX3_mayBoth_14 (by decide) ?_
      refine g_put C 0 iX3_mayBoth_X3 rfl rfl 29 (by decide) f75 rfl tyX3 tyX3_ok nmX3 (ty := .int) (by decide +kernel) rfl rfl (Nat.le_of_ble_eq_true rfl) (wM cI cZ q nc nw cx cy ch rm on wx wy dm sv fv hd lf la mg pt bd tk ho ri lo us gv bs ld qs mS mD 2) rfl dX3_mayBoth_18 ?_
      refine g_aload_n C dX3_mayBoth_21 rfl ?_
      refine g_get C 0 iX3_mayBoth_X3 rfl rfl 29 (by decide) f75 rfl dX3_mayBoth_22 ?_
      refine g_if_ne C 32 dX3_mayBoth_25 (by decide) (fun _ => ?_) (fun c9 => absurd c9 (by decide))
      refine g_iconst C 0 dX3_mayBoth_32 (by decide +kernel) ?_
      exact g_zret C hret rfl dX3_mayBoth_33 (Nat.le_of_ble_eq_true rfl) (Nat.le_of_ble_eq_true rfl) ⟨(by rw [bz_0 c_10, Bool.and_false]; rfl), (by rw [show mbt b1 b2 = 2 from (by rw [bz_1 c_2, bz_0 c_10]; rfl)])⟩
  · skip
    refine g_iconst C 1 dX3_mayBoth_5 (by decide +kernel) ?_
    refine g_goto C 18 dX3_mayBoth_6 (by decide) ?_
    refine g_put C 0 iX3_mayBoth_X3 rfl rfl 29 (by decide) f75 rfl tyX3 tyX3_ok nmX3 (ty := .int) (by decide +kernel) rfl rfl (Nat.le_of_ble_eq_true rfl) (wM cI cZ q nc nw cx cy ch rm on wx wy dm sv fv hd lf la mg pt bd tk ho ri lo us gv bs ld qs mS mD 1) rfl dX3_mayBoth_18 ?_
    refine g_aload_n C dX3_mayBoth_21 rfl ?_
    refine g_get C 0 iX3_mayBoth_X3 rfl rfl 29 (by decide) f75 rfl dX3_mayBoth_22 ?_
    refine g_if_ne C 32 dX3_mayBoth_25 (by decide) (fun _ => ?_) (fun c9 => absurd c9 (by decide))
    refine g_iconst C 0 dX3_mayBoth_32 (by decide +kernel) ?_
    exact g_zret C hret rfl dX3_mayBoth_33 (Nat.le_of_ble_eq_true rfl) (Nat.le_of_ble_eq_true rfl) ⟨(by rw [bz_0 c_2]; rfl), (by rw [show mbt b1 b2 = 1 from (by rw [bz_0 c_2]; rfl)])⟩
theorem iX3_isCell_X3 : ∀ w ∈ u_ws RX3 TX3 30, w ∈ wsX3_isCell := by decide +kernel
set_option maxHeartbeats 1000000 in
set_option maxRecDepth 100000 in
theorem t_X3_isCell {l : Launch} {D : va_G} {cI cZ cJ cG cW : ClassId} {q : Nat → Nat} {nc nw : Nat} {cx cy ch rm on wx wy dm sv fv hd lf la : Nat → Int32} {mg pt bd tk ho ri lo : Int32} {us gv bs ld qs : Nat → Int32} {mS mD th : Int32} {p1 : Int32}  : CtI l yX3_isCell wsX3_isCell 0 0 0 0 D (T5 cI cZ cJ cG cW) [.ref (q 0), .int p1] (wM cI cZ q nc nw cx cy ch rm on wx wy dm sv fv hd lf la mg pt bd tk ho ri lo us gv bs ld qs mS mD th) (fun rv wv => rv = bz (icb nc p1) ∧ wv = (wM cI cZ q nc nw cx cy ch rm on wx wy dm sv fv hd lf la mg pt bd tk ho ri lo us gv bs ld qs mS mD th)) := by
  refine ctI_of (cc := cX3_isCell) (maxL := 2) RX3 0 [some (.ref (q 0)), some (.int p1)] (by decide +kernel) rfl rfl (Nat.le_of_ble_eq_true rfl) rfl (fun p_ e_ s_ m_ as_ bl_ me_ co_ C hret => ?_)
  have f78 := C.ts (.fieldLink RX3 78 "CellPlannerModel" "cells" "I") (by decide +kernel)
  refine g_iload_n C dX3_isCell_0 rfl ?_
  refine g_if_lt C 16 dX3_isCell_1 (by decide) (fun c_1 => ?_) (fun c_1 => ?_)
  · skip
    refine g_iconst C 0 dX3_isCell_16 (by decide +kernel) ?_
    exact g_zret C hret rfl dX3_isCell_17 (Nat.le_of_ble_eq_true rfl) (Nat.le_of_ble_eq_true rfl) ⟨(by unfold icb; first | rw [decide_eq_true (Int32.not_lt.mp c_1), decide_eq_true (Int32.not_le.mp c_9)] <;> rfl | rw [decide_eq_false (Int32.not_le.mpr c_1), Bool.false_and] <;> rfl | rw [decide_eq_false (Int32.not_lt.mpr c_9), Bool.and_false] <;> rfl), rfl⟩
  · skip
    refine g_iload_n C dX3_isCell_4 rfl ?_
    refine g_aload_n C dX3_isCell_5 rfl ?_
    refine g_get C 0 iX3_isCell_X3 rfl rfl 0 (by decide) f78 rfl dX3_isCell_6 ?_
    refine g_icmp_ge C 16 dX3_isCell_9 (by decide) (fun c_9 => ?_) (fun c_9 => ?_)
    · skip
      refine g_iconst C 0 dX3_isCell_16 (by decide +kernel) ?_
      exact g_zret C hret rfl dX3_isCell_17 (Nat.le_of_ble_eq_true rfl) (Nat.le_of_ble_eq_true rfl) ⟨(by unfold icb; first | rw [decide_eq_true (Int32.not_lt.mp c_1), decide_eq_true (Int32.not_le.mp c_9)] <;> rfl | rw [decide_eq_false (Int32.not_le.mpr c_1), Bool.false_and] <;> rfl | rw [decide_eq_false (Int32.not_lt.mpr c_9), Bool.and_false] <;> rfl), rfl⟩
    · skip
      refine g_iconst C 1 dX3_isCell_12 (by decide +kernel) ?_
      refine g_goto C 17 dX3_isCell_13 (by decide) ?_
      exact g_zret C hret rfl dX3_isCell_17 (Nat.le_of_ble_eq_true rfl) (Nat.le_of_ble_eq_true rfl) ⟨(by unfold icb; first | rw [decide_eq_true (Int32.not_lt.mp c_1), decide_eq_true (Int32.not_le.mp c_9)] <;> rfl | rw [decide_eq_false (Int32.not_le.mpr c_1), Bool.false_and] <;> rfl | rw [decide_eq_false (Int32.not_lt.mpr c_9), Bool.and_false] <;> rfl), rfl⟩
theorem iX3_isWalker_X3 : ∀ w ∈ u_ws RX3 TX3 30, w ∈ wsX3_isWalker := by decide +kernel
set_option maxHeartbeats 1000000 in
set_option maxRecDepth 100000 in
theorem t_X3_isWalker {l : Launch} {D : va_G} {cI cZ cJ cG cW : ClassId} {q : Nat → Nat} {nc nw : Nat} {cx cy ch rm on wx wy dm sv fv hd lf la : Nat → Int32} {mg pt bd tk ho ri lo : Int32} {us gv bs ld qs : Nat → Int32} {mS mD th : Int32} {p1 : Int32}  : CtI l yX3_isWalker wsX3_isWalker 0 0 0 0 D (T5 cI cZ cJ cG cW) [.ref (q 0), .int p1] (wM cI cZ q nc nw cx cy ch rm on wx wy dm sv fv hd lf la mg pt bd tk ho ri lo us gv bs ld qs mS mD th) (fun rv wv => rv = bz (icb nw p1) ∧ wv = (wM cI cZ q nc nw cx cy ch rm on wx wy dm sv fv hd lf la mg pt bd tk ho ri lo us gv bs ld qs mS mD th)) := by
  refine ctI_of (cc := cX3_isWalker) (maxL := 2) RX3 0 [some (.ref (q 0)), some (.int p1)] (by decide +kernel) rfl rfl (Nat.le_of_ble_eq_true rfl) rfl (fun p_ e_ s_ m_ as_ bl_ me_ co_ C hret => ?_)
  have f81 := C.ts (.fieldLink RX3 81 "CellPlannerModel" "walkers" "I") (by decide +kernel)
  refine g_iload_n C dX3_isWalker_0 rfl ?_
  refine g_if_lt C 16 dX3_isWalker_1 (by decide) (fun c_1 => ?_) (fun c_1 => ?_)
  · skip
    refine g_iconst C 0 dX3_isWalker_16 (by decide +kernel) ?_
    exact g_zret C hret rfl dX3_isWalker_17 (Nat.le_of_ble_eq_true rfl) (Nat.le_of_ble_eq_true rfl) ⟨(by unfold icb; first | rw [decide_eq_true (Int32.not_lt.mp c_1), decide_eq_true (Int32.not_le.mp c_9)] <;> rfl | rw [decide_eq_false (Int32.not_le.mpr c_1), Bool.false_and] <;> rfl | rw [decide_eq_false (Int32.not_lt.mpr c_9), Bool.and_false] <;> rfl), rfl⟩
  · skip
    refine g_iload_n C dX3_isWalker_4 rfl ?_
    refine g_aload_n C dX3_isWalker_5 rfl ?_
    refine g_get C 0 iX3_isWalker_X3 rfl rfl 6 (by decide) f81 rfl dX3_isWalker_6 ?_
    refine g_icmp_ge C 16 dX3_isWalker_9 (by decide) (fun c_9 => ?_) (fun c_9 => ?_)
    · skip
      refine g_iconst C 0 dX3_isWalker_16 (by decide +kernel) ?_
      exact g_zret C hret rfl dX3_isWalker_17 (Nat.le_of_ble_eq_true rfl) (Nat.le_of_ble_eq_true rfl) ⟨(by unfold icb; first | rw [decide_eq_true (Int32.not_lt.mp c_1), decide_eq_true (Int32.not_le.mp c_9)] <;> rfl | rw [decide_eq_false (Int32.not_le.mpr c_1), Bool.false_and] <;> rfl | rw [decide_eq_false (Int32.not_lt.mpr c_9), Bool.and_false] <;> rfl), rfl⟩
    · skip
      refine g_iconst C 1 dX3_isWalker_12 (by decide +kernel) ?_
      refine g_goto C 17 dX3_isWalker_13 (by decide) ?_
      exact g_zret C hret rfl dX3_isWalker_17 (Nat.le_of_ble_eq_true rfl) (Nat.le_of_ble_eq_true rfl) ⟨(by unfold icb; first | rw [decide_eq_true (Int32.not_lt.mp c_1), decide_eq_true (Int32.not_le.mp c_9)] <;> rfl | rw [decide_eq_false (Int32.not_le.mpr c_1), Bool.false_and] <;> rfl | rw [decide_eq_false (Int32.not_lt.mpr c_9), Bool.and_false] <;> rfl), rfl⟩
set_option maxHeartbeats 1000000 in
set_option maxRecDepth 100000 in
theorem t_X3_isOnLand {l : Launch} {D : va_G} {cI cZ cJ cG cW : ClassId} {p0 : Int64}  : CtI l yX3_isOnLand wsX3_isOnLand 0 0 0 0 D (T5 cI cZ cJ cG cW) [.long p0] [] (fun rv wv => rv = bz (lnb p0) ∧ wv = []) := by
  refine ctI_of (cc := cX3_isOnLand) (maxL := 2) RX3 0 [some (.long p0), none] (by decide +kernel) rfl rfl (Nat.le_of_ble_eq_true rfl) rfl (fun p_ e_ s_ m_ as_ bl_ me_ co_ C hret => ?_)
  refine g_lload_n C dX3_isOnLand_0 rfl ?_
  refine g_lconst C 0 dX3_isOnLand_1 (by decide +kernel) ?_
  refine g_lcmp C dX3_isOnLand_2 ?_
  refine g_if_lt C 18 dX3_isOnLand_3 (by decide) (fun c_3 => ?_) (fun c_3 => ?_)
  · skip
    refine g_iconst C 0 dX3_isOnLand_18 (by decide +kernel) ?_
    exact g_zret C hret rfl dX3_isOnLand_19 (Nat.le_of_ble_eq_true rfl) (Nat.le_of_ble_eq_true rfl) ⟨(by unfold lnb; first | rw [decide_eq_true (Int64.not_lt.mp (fun h => c_3 ((lg_cmp_lt _ _).mpr h))), decide_eq_true (Int64.not_lt.mp (fun h => c_11 ((lg_cmp_gt _ _).mpr h)))] <;> rfl | rw [decide_eq_false (Int64.not_le.mpr ((lg_cmp_lt _ _).mp c_3)), Bool.false_and] <;> rfl | rw [decide_eq_false (Int64.not_le.mpr ((lg_cmp_gt _ _).mp c_11)), Bool.and_false] <;> rfl), rfl⟩
  · skip
    refine g_lload_n C dX3_isOnLand_6 rfl ?_
    refine g_ldc2 C (v := 63) (C.ts _ (by decide +kernel)) dX3_isOnLand_7 ?_
    refine g_lcmp C dX3_isOnLand_10 ?_
    refine g_if_gt C 18 dX3_isOnLand_11 (by decide) (fun c_11 => ?_) (fun c_11 => ?_)
    · skip
      refine g_iconst C 0 dX3_isOnLand_18 (by decide +kernel) ?_
      exact g_zret C hret rfl dX3_isOnLand_19 (Nat.le_of_ble_eq_true rfl) (Nat.le_of_ble_eq_true rfl) ⟨(by unfold lnb; first | rw [decide_eq_true (Int64.not_lt.mp (fun h => c_3 ((lg_cmp_lt _ _).mpr h))), decide_eq_true (Int64.not_lt.mp (fun h => c_11 ((lg_cmp_gt _ _).mpr h)))] <;> rfl | rw [decide_eq_false (Int64.not_le.mpr ((lg_cmp_lt _ _).mp c_3)), Bool.false_and] <;> rfl | rw [decide_eq_false (Int64.not_le.mpr ((lg_cmp_gt _ _).mp c_11)), Bool.and_false] <;> rfl), rfl⟩
    · skip
      refine g_iconst C 1 dX3_isOnLand_14 (by decide +kernel) ?_
      refine g_goto C 19 dX3_isOnLand_15 (by decide) ?_
      exact g_zret C hret rfl dX3_isOnLand_19 (Nat.le_of_ble_eq_true rfl) (Nat.le_of_ble_eq_true rfl) ⟨(by unfold lnb; first | rw [decide_eq_true (Int64.not_lt.mp (fun h => c_3 ((lg_cmp_lt _ _).mpr h))), decide_eq_true (Int64.not_lt.mp (fun h => c_11 ((lg_cmp_gt _ _).mpr h)))] <;> rfl | rw [decide_eq_false (Int64.not_le.mpr ((lg_cmp_lt _ _).mp c_3)), Bool.false_and] <;> rfl | rw [decide_eq_false (Int64.not_le.mpr ((lg_cmp_gt _ _).mp c_11)), Bool.and_false] <;> rfl), rfl⟩
theorem iX3_lose_X3 : ∀ w ∈ u_ws RX3 TX3 30, w ∈ wsX3_lose := by decide +kernel
set_option maxHeartbeats 1000000 in
set_option maxRecDepth 100000 in
theorem t_X3_lose {l : Launch} {D : va_G} {cI cZ cJ cG cW : ClassId} {q : Nat → Nat} {nc nw : Nat} {cx cy ch rm on wx wy dm sv fv hd lf la : Nat → Int32} {mg pt bd tk ho ri lo : Int32} {us gv bs ld qs : Nat → Int32} {mS mD th : Int32} {kw : Nat} (hw : kw < 6) : CtV l yX3_lose wsX3_lose 0 0 0 0 D (T5 cI cZ cJ cG cW) [.ref (q 0), .int (nI kw)] (wM cI cZ q nc nw cx cy ch rm on wx wy dm sv fv hd lf la mg pt bd tk ho ri lo us gv bs ld qs mS mD th) (fun wv tv => wv = (wM cI cZ q nc nw cx cy ch rm on wx wy dm (upd sv kw (-1)) (upd fv kw (-1)) (upd hd kw 0) lf la mg pt bd tk ho ri lo us gv bs ld qs mS mD th) ∧ tv = (T5 cI cZ cJ cG cW)) := by
  refine ctV_of (cc := cX3_lose) (maxL := 2) RX3 0 [some (.ref (q 0)), some (.int (nI kw))] (by decide +kernel) rfl rfl (Nat.le_of_ble_eq_true rfl) rfl (fun p_ e_ s_ m_ as_ bl_ me_ co_ C hret hini => ?_)
  have f35 := C.ts (.fieldLink RX3 35 "CellPlannerModel" "serving" "[I") (by decide +kernel)
  have f38 := C.ts (.fieldLink RX3 38 "CellPlannerModel" "favourite" "[I") (by decide +kernel)
  have f41 := C.ts (.fieldLink RX3 41 "CellPlannerModel" "held" "[I") (by decide +kernel)
  refine g_aload_n C dX3_lose_0 rfl ?_
  refine g_get C 0 iX3_lose_X3 rfl rfl 10 (by decide) f35 rfl dX3_lose_1 ?_
  refine g_iload_n C dX3_lose_4 rfl ?_
  refine g_iconst C (-1) dX3_lose_5 (by decide +kernel) ?_
  refine g_iast C 9 0 rfl rfl kw rfl (by omega) (by decide) (wM cI cZ q nc nw cx cy ch rm on wx wy dm (upd sv kw ((-1))) fv hd lf la mg pt bd tk ho ri lo us gv bs ld qs mS mD th) rfl dX3_lose_6 ?_
  refine g_aload_n C dX3_lose_7 rfl ?_
  refine g_get C 0 iX3_lose_X3 rfl rfl 11 (by decide) f38 rfl dX3_lose_8 ?_
  refine g_iload_n C dX3_lose_11 rfl ?_
  refine g_iconst C (-1) dX3_lose_12 (by decide +kernel) ?_
  refine g_iast C 10 0 rfl rfl kw rfl (by omega) (by decide) (wM cI cZ q nc nw cx cy ch rm on wx wy dm (upd sv kw ((-1))) (upd fv kw ((-1))) hd lf la mg pt bd tk ho ri lo us gv bs ld qs mS mD th) rfl dX3_lose_13 ?_
  refine g_aload_n C dX3_lose_14 rfl ?_
  refine g_get C 0 iX3_lose_X3 rfl rfl 12 (by decide) f41 rfl dX3_lose_15 ?_
  refine g_iload_n C dX3_lose_18 rfl ?_
  refine g_iconst C 0 dX3_lose_19 (by decide +kernel) ?_
  refine g_iast C 11 0 rfl rfl kw rfl (by omega) (by decide) (wM cI cZ q nc nw cx cy ch rm on wx wy dm (upd sv kw ((-1))) (upd fv kw ((-1))) (upd hd kw 0) lf la mg pt bd tk ho ri lo us gv bs ld qs mS mD th) rfl dX3_lose_20 ?_
  exact g_vret C hret dX3_lose_21 (Nat.le_of_ble_eq_true rfl) (Nat.le_of_ble_eq_true rfl) ⟨rfl, rfl⟩
theorem iX3_loadOf_X3 : ∀ w ∈ u_ws RX3 TX3 30, w ∈ wsX3_loadOf := by decide +kernel
set_option maxHeartbeats 1000000 in
set_option maxRecDepth 100000 in
theorem t_X3_loadOf {l : Launch} {D : va_G} {cI cZ cJ cG cW : ClassId} {q : Nat → Nat} {nc nw : Nat} {cx cy ch rm on wx wy dm sv fv hd lf la : Nat → Int32} {mg pt bd tk ho ri lo : Int32} {us gv bs ld qs : Nat → Int32} {mS mD th : Int32} {p0 : Int32} (h6 : nw ≤ 6) : CtI l yX3_loadOf wsX3_loadOf 0 0 0 0 D (T5 cI cZ cJ cG cW) [.ref (q 0), .int p0] (wM cI cZ q nc nw cx cy ch rm on wx wy dm sv fv hd lf la mg pt bd tk ho ri lo us gv bs ld qs mS mD th) (fun rv wv => rv = fld sv dm p0 nw ∧ wv = (wM cI cZ q nc nw cx cy ch rm on wx wy dm sv fv hd lf la mg pt bd tk ho ri lo us gv bs ld qs mS mD th)) := by
  refine ctI_of (cc := cX3_loadOf) (maxL := 4) RX3 2 [some (.ref (q 0)), some (.int p0), none, none] (by decide +kernel) rfl rfl (Nat.le_of_ble_eq_true rfl) rfl (fun p_ e_ s_ m_ as_ bl_ me_ co_ C hret => ?_)
  have f32 := C.ts (.fieldLink RX3 32 "CellPlannerModel" "demand" "[I") (by decide +kernel)
  have f35 := C.ts (.fieldLink RX3 35 "CellPlannerModel" "serving" "[I") (by decide +kernel)
  have f81 := C.ts (.fieldLink RX3 81 "CellPlannerModel" "walkers" "I") (by decide +kernel)
  refine g_iconst C 0 dX3_loadOf_0 (by decide +kernel) ?_
  refine g_istore_n C [some (.ref (q 0)), some (.int p0), some (.int 0), none] dX3_loadOf_1 (by decide) rfl rfl ?_
  refine g_iconst C 0 dX3_loadOf_2 (by decide +kernel) ?_
  refine g_istore_n C [some (.ref (q 0)), some (.int p0), some (.int 0), some (.int 0)] dX3_loadOf_3 (by decide) rfl rfl ?_
  refine g_loop2 0 0 (fun (i : Nat) (x : Int32) => i ≤ nw ∧ x = fld sv dm p0 i) (fun (i : Nat) (x : Int32) => (wM cI cZ q nc nw cx cy ch rm on wx wy dm sv fv hd lf la mg pt bd tk ho ri lo us gv bs ld qs mS mD th)) (fun (i : Nat) (x : Int32) => [some (.ref (q 0)), some (.int p0), some (.int x), some (.int (nI i))]) (fun (i : Nat) (x : Int32) => nw - i) ⟨Nat.zero_le _, rfl⟩ rfl rfl (fun i x hI ih => ?_)
  obtain ⟨h1, h2⟩ := hI
  refine g_iload_n C dX3_loadOf_4 rfl ?_
  refine g_aload_n C dX3_loadOf_5 rfl ?_
  refine g_get C 0 iX3_loadOf_X3 rfl rfl 6 (by decide) f81 rfl dX3_loadOf_6 ?_
  refine g_icmp_ge C 41 dX3_loadOf_9 (by decide) (fun c_9 => ?_) (fun c_9 => ?_)
  · skip
    have c_9 : nw ≤ i := (nI_leI (by omega) (by omega)).mp c_9
    refine g_iload_n C dX3_loadOf_41 rfl ?_
    exact g_iret C hret dX3_loadOf_42 (Nat.le_of_ble_eq_true rfl) (Nat.le_of_ble_eq_true rfl) ⟨(by rw [h2, show i = nw by omega]), rfl⟩
  · skip
    have c_9 : ¬ (nw ≤ i) := fun h9 => c_9 ((nI_leI (by omega) (by omega)).mpr h9)
    refine g_iload_n C dX3_loadOf_12 rfl ?_
    refine g_aload_n C dX3_loadOf_13 rfl ?_
    refine g_get C 0 iX3_loadOf_X3 rfl rfl 10 (by decide) f35 rfl dX3_loadOf_14 ?_
    refine g_iload_n C dX3_loadOf_17 rfl ?_
    refine g_iald C 9 0 rfl rfl i rfl (by omega) (by decide) (sv i) rfl dX3_loadOf_18 ?_
    refine g_iload_n C dX3_loadOf_19 rfl ?_
    refine g_icmp_ne C 32 dX3_loadOf_20 (by decide) (fun c_20 => ?_) (fun c_20 => ?_)
    · skip
      refine g_iconst C 0 dX3_loadOf_32 (by decide +kernel) ?_
      refine g_iadd C x dX3_loadOf_33 (Int32_add0 _) ?_
      refine g_istore_n C [some (.ref (q 0)), some (.int p0), some (.int x), some (.int (nI i))] dX3_loadOf_34 (by decide) rfl rfl ?_
      refine g_iinc C (nI (i + 1)) [some (.ref (q 0)), some (.int p0), some (.int x), some (.int (nI (i + 1)))] dX3_loadOf_35 rfl (nI_1 i) (by decide) rfl rfl ?_
      refine g_goto C 4 dX3_loadOf_38 (by decide) ?_
      exact ih (i + 1) x ⟨by omega, by rw [fld, if_neg c_20, h2]⟩ (by omega)
    · skip
      refine g_aload_n C dX3_loadOf_23 rfl ?_
      refine g_get C 0 iX3_loadOf_X3 rfl rfl 9 (by decide) f32 rfl dX3_loadOf_24 ?_
      refine g_iload_n C dX3_loadOf_27 rfl ?_
      refine g_iald C 8 0 rfl rfl i rfl (by omega) (by decide) (dm i) rfl dX3_loadOf_28 ?_
      refine g_goto C 33 dX3_loadOf_29 (by decide) ?_
      refine g_iadd C (x + (dm i)) dX3_loadOf_33 rfl ?_
      refine g_istore_n C [some (.ref (q 0)), some (.int p0), some (.int (x + (dm i))), some (.int (nI i))] dX3_loadOf_34 (by decide) rfl rfl ?_
      refine g_iinc C (nI (i + 1)) [some (.ref (q 0)), some (.int p0), some (.int (x + (dm i))), some (.int (nI (i + 1)))] dX3_loadOf_35 rfl (nI_1 i) (by decide) rfl rfl ?_
      refine g_goto C 4 dX3_loadOf_38 (by decide) ?_
      exact ih (i + 1) (x + (dm i)) ⟨by omega, by rw [fld, if_pos c_20, h2]⟩ (by omega)
theorem iX3_useOf_X3 : ∀ w ∈ u_ws RX3 TX3 30, w ∈ wsX3_useOf := by decide +kernel
set_option maxHeartbeats 1000000 in
set_option maxRecDepth 100000 in
theorem t_X3_useOf {l : Launch} {D : va_G} {cI cZ cJ cG cW : ClassId} {q : Nat → Nat} {nc nw : Nat} {cx cy ch rm on wx wy dm sv fv hd lf la : Nat → Int32} {mg pt bd tk ho ri lo : Int32} {us gv bs ld qs : Nat → Int32} {mS mD th : Int32} {kc : Nat} (h6 : nw ≤ 6) (h5 : kc < 5) (hr : ¬ rm kc ≤ 0) : CtI l yX3_useOf wsX3_useOf 1 23 0 0 D (T5 cI cZ cJ cG cW) [.ref (q 0), .int (nI kc)] (wM cI cZ q nc nw cx cy ch rm on wx wy dm sv fv hd lf la mg pt bd tk ho ri lo us gv bs ld qs mS mD th) (fun rv wv => rv = fus rm sv dm nw kc ∧ wv = (wM cI cZ q nc nw cx cy ch rm on wx wy dm sv fv hd lf la mg pt bd tk ho ri lo us gv bs ld qs mS mD th)) := by
  refine ctI_of (cc := cX3_useOf) (maxL := 2) RX3 0 [some (.ref (q 0)), some (.int (nI kc))] (by decide +kernel) rfl rfl (Nat.le_of_ble_eq_true rfl) rfl (fun p_ e_ s_ m_ as_ bl_ me_ co_ C hret => ?_)
  have f19 := C.ts (.fieldLink RX3 19 "CellPlannerModel" "room" "[I") (by decide +kernel)
  refine g_bipush C 100 dX3_useOf_0 (by decide +kernel) ?_
  refine g_aload_n C dX3_useOf_2 rfl ?_
  refine g_iload_n C dX3_useOf_3 rfl ?_
  refine g_callVi C [] (wM cI cZ q nc nw cx cy ch rm on wx wy dm sv fv hd lf la mg pt bd tk ho ri lo us gv bs ld qs mS mD th) [.int (nI kc)] (t_X3_loadOf h6) rfl rfl (cwV 1 C.ts gX3_useOf_X3_loadOf rfl rfl rfl (by decide +kernel) ⟨Nat.le_of_ble_eq_true rfl, Nat.le_of_ble_eq_true rfl⟩) rfl rfl rfl (Nat.le_of_ble_eq_true rfl) dX3_useOf_4 ⟨Nat.le_of_ble_eq_true rfl, Nat.le_of_ble_eq_true rfl⟩ (fun rv1 wv1 hp1 => ?_)
  obtain ⟨rfl, rfl⟩ := hp1
  refine g_imul C (100 * (fld sv dm (nI kc) nw)) dX3_useOf_7 rfl ?_
  refine g_aload_n C dX3_useOf_8 rfl ?_
  refine g_get C 0 iX3_useOf_X3 rfl rfl 4 (by decide) f19 rfl dX3_useOf_9 ?_
  refine g_iload_n C dX3_useOf_12 rfl ?_
  refine g_iald C 4 0 rfl rfl kc rfl (by omega) (by decide) (rm kc) rfl dX3_useOf_13 ?_
  refine g_idiv C ((100 * (fld sv dm (nI kc) nw)) / (rm kc)) dX3_useOf_14 (fun h => hr (by rw [h]; decide)) rfl ?_
  exact g_iret C hret dX3_useOf_15 (Nat.le_of_ble_eq_true rfl) (Nat.le_of_ble_eq_true rfl) ⟨rfl, rfl⟩
theorem iX3_takeUses_X3 : ∀ w ∈ u_ws RX3 TX3 30, w ∈ wsX3_takeUses := by decide +kernel
set_option maxHeartbeats 1000000 in
set_option maxRecDepth 100000 in
theorem t_X3_takeUses {l : Launch} {D : va_G} {cI cZ cJ cG cW : ClassId} {q : Nat → Nat} {nc nw : Nat} {cx cy ch rm on wx wy dm sv fv hd lf la : Nat → Int32} {mg pt bd tk ho ri lo : Int32} {us gv bs ld qs : Nat → Int32} {mS mD th : Int32}  (h5 : nc ≤ 5) (h6 : nw ≤ 6) (hr : ∀ c, c < nc → ¬ rm c ≤ 0) : CtV l yX3_takeUses wsX3_takeUses 2 44 0 0 D (T5 cI cZ cJ cG cW) [.ref (q 0)] (wM cI cZ q nc nw cx cy ch rm on wx wy dm sv fv hd lf la mg pt bd tk ho ri lo us gv bs ld qs mS mD th) (fun wv tv => wv = (wM cI cZ q nc nw cx cy ch rm on wx wy dm sv fv hd lf la mg pt bd tk ho ri lo (fil nc (fus rm sv dm nw) us) gv bs ld qs mS mD th) ∧ tv = (T5 cI cZ cJ cG cW)) := by
  refine ctV_of (cc := cX3_takeUses) (maxL := 2) RX3 1 [some (.ref (q 0)), none] (by decide +kernel) rfl rfl (Nat.le_of_ble_eq_true rfl) rfl (fun p_ e_ s_ m_ as_ bl_ me_ co_ C hret hini => ?_)
  have f60 := C.ts (.fieldLink RX3 60 "CellPlannerModel" "uses" "[I") (by decide +kernel)
  have f78 := C.ts (.fieldLink RX3 78 "CellPlannerModel" "cells" "I") (by decide +kernel)
  refine g_iconst C 0 dX3_takeUses_0 (by decide +kernel) ?_
  refine g_istore_n C [some (.ref (q 0)), some (.int 0)] dX3_takeUses_1 (by decide) rfl rfl ?_
  refine g_loop2 0 us (fun (i : Nat) (M : Nat → Int32) => i ≤ nc ∧ ∀ j, M j = if j < i then fus rm sv dm nw j else us j) (fun (i : Nat) (M : Nat → Int32) => (wM cI cZ q nc nw cx cy ch rm on wx wy dm sv fv hd lf la mg pt bd tk ho ri lo M gv bs ld qs mS mD th)) (fun (i : Nat) (M : Nat → Int32) => [some (.ref (q 0)), some (.int (nI i))]) (fun (i : Nat) (M : Nat → Int32) => nc - i) ⟨Nat.zero_le _, fun j => (if_neg (Nat.not_lt_zero j)).symm⟩ rfl rfl (fun i M hI ih => ?_)
  obtain ⟨h1, h2⟩ := hI
  refine g_iload_n C dX3_takeUses_2 rfl ?_
  refine g_aload_n C dX3_takeUses_3 rfl ?_
  refine g_get C 0 iX3_takeUses_X3 rfl rfl 0 (by decide) f78 rfl dX3_takeUses_4 ?_
  refine g_icmp_ge C 27 dX3_takeUses_7 (by decide) (fun c_7 => ?_) (fun c_7 => ?_)
  · skip
    have c_7 : nc ≤ i := (nI_leI (by omega) (by omega)).mp c_7
    exact g_vret C hret dX3_takeUses_27 (Nat.le_of_ble_eq_true rfl) (Nat.le_of_ble_eq_true rfl) ⟨(by rw [show M = fil nc (fus rm sv dm nw) us from funext fun j => by rw [h2, show i = nc by omega]; rfl]), rfl⟩
  · skip
    have c_7 : ¬ (nc ≤ i) := fun h9 => c_7 ((nI_leI (by omega) (by omega)).mpr h9)
    refine g_aload_n C dX3_takeUses_10 rfl ?_
    refine g_get C 0 iX3_takeUses_X3 rfl rfl 22 (by decide) f60 rfl dX3_takeUses_11 ?_
    refine g_iload_n C dX3_takeUses_14 rfl ?_
    refine g_aload_n C dX3_takeUses_15 rfl ?_
    refine g_iload_n C dX3_takeUses_16 rfl ?_
    refine g_callVi C [] (wM cI cZ q nc nw cx cy ch rm on wx wy dm sv fv hd lf la mg pt bd tk ho ri lo M gv bs ld qs mS mD th) [.int (nI i)] (t_X3_useOf h6 (by omega) (hr i (by omega))) rfl rfl (cwV 1 C.ts gX3_takeUses_X3_useOf rfl rfl rfl (by decide +kernel) ⟨Nat.le_of_ble_eq_true rfl, Nat.le_of_ble_eq_true rfl⟩) rfl rfl rfl (Nat.le_of_ble_eq_true rfl) dX3_takeUses_17 ⟨Nat.le_of_ble_eq_true rfl, Nat.le_of_ble_eq_true rfl⟩ (fun rv1 wv1 hp1 => ?_)
    obtain ⟨rfl, rfl⟩ := hp1
    refine g_iast C 14 0 rfl rfl i rfl (by omega) (by decide) (wM cI cZ q nc nw cx cy ch rm on wx wy dm sv fv hd lf la mg pt bd tk ho ri lo (upd M i (fus rm sv dm nw i)) gv bs ld qs mS mD th) rfl dX3_takeUses_20 ?_
    refine g_iinc C (nI (i + 1)) [some (.ref (q 0)), some (.int (nI (i + 1)))] dX3_takeUses_21 rfl (nI_1 i) (by decide) rfl rfl ?_
    refine g_goto C 2 dX3_takeUses_24 (by decide) ?_
    exact ih (i + 1) (upd M i (fus rm sv dm nw i)) ⟨by omega, fil_step h2 rfl⟩ (by omega)
theorem iX3_signalOf_X3 : ∀ w ∈ u_ws RX3 TX3 30, w ∈ wsX3_signalOf := by decide +kernel
set_option maxHeartbeats 1000000 in
set_option maxRecDepth 100000 in
theorem t_X3_signalOf {l : Launch} {D : va_G} {cI cZ cJ cG cW : ClassId} {q : Nat → Nat} {nc nw : Nat} {cx cy ch rm on wx wy dm sv fv hd lf la : Nat → Int32} {mg pt bd tk ho ri lo : Int32} {us gv bs ld qs : Nat → Int32} {mS mD th : Int32} {kc kw : Nat} (h5 : kc < 5) (h6 : kw < 6) (hds : ¬ dsq (cx kc) (cy kc) (wx kw) (wy kw) = 0) : CtI l yX3_signalOf wsX3_signalOf 0 0 0 0 D (T5 cI cZ cJ cG cW) [.ref (q 0), .int (nI kc), .int (nI kw)] (wM cI cZ q nc nw cx cy ch rm on wx wy dm sv fv hd lf la mg pt bd tk ho ri lo us gv bs ld qs mS mD th) (fun rv wv => rv = sg cx cy wx wy kc kw ∧ wv = (wM cI cZ q nc nw cx cy ch rm on wx wy dm sv fv hd lf la mg pt bd tk ho ri lo us gv bs ld qs mS mD th)) := by
  refine ctI_of (cc := cX3_signalOf) (maxL := 6) RX3 3 [some (.ref (q 0)), some (.int (nI kc)), some (.int (nI kw)), none, none, none] (by decide +kernel) rfl rfl (Nat.le_of_ble_eq_true rfl) rfl (fun p_ e_ s_ m_ as_ bl_ me_ co_ C hret => ?_)
  have f7 := C.ts (.fieldLink RX3 7 "CellPlannerModel" "cellX" "[I") (by decide +kernel)
  have f13 := C.ts (.fieldLink RX3 13 "CellPlannerModel" "cellY" "[I") (by decide +kernel)
  have f26 := C.ts (.fieldLink RX3 26 "CellPlannerModel" "x" "[I") (by decide +kernel)
  have f29 := C.ts (.fieldLink RX3 29 "CellPlannerModel" "y" "[I") (by decide +kernel)
  refine g_aload_n C dX3_signalOf_0 rfl ?_
  refine g_get C 0 iX3_signalOf_X3 rfl rfl 1 (by decide) f7 rfl dX3_signalOf_1 ?_
  refine g_iload_n C dX3_signalOf_4 rfl ?_
  refine g_iald C 1 0 rfl rfl kc rfl (by omega) (by decide) (cx kc) rfl dX3_signalOf_5 ?_
  refine g_aload_n C dX3_signalOf_6 rfl ?_
  refine g_get C 0 iX3_signalOf_X3 rfl rfl 7 (by decide) f26 rfl dX3_signalOf_7 ?_
  refine g_iload_n C dX3_signalOf_10 rfl ?_
  refine g_iald C 6 0 rfl rfl kw rfl (by omega) (by decide) (wx kw) rfl dX3_signalOf_11 ?_
  refine g_isub C ((cx kc) - (wx kw)) dX3_signalOf_12 rfl ?_
  refine g_istore_n C [some (.ref (q 0)), some (.int (nI kc)), some (.int (nI kw)), some (.int ((cx kc) - (wx kw))), none, none] dX3_signalOf_13 (by decide) rfl rfl ?_
  refine g_aload_n C dX3_signalOf_14 rfl ?_
  refine g_get C 0 iX3_signalOf_X3 rfl rfl 2 (by decide) f13 rfl dX3_signalOf_15 ?_
  refine g_iload_n C dX3_signalOf_18 rfl ?_
  refine g_iald C 2 0 rfl rfl kc rfl (by omega) (by decide) (cy kc) rfl dX3_signalOf_19 ?_
  refine g_aload_n C dX3_signalOf_20 rfl ?_
  refine g_get C 0 iX3_signalOf_X3 rfl rfl 8 (by decide) f29 rfl dX3_signalOf_21 ?_
  refine g_iload_n C dX3_signalOf_24 rfl ?_
  refine g_iald C 7 0 rfl rfl kw rfl (by omega) (by decide) (wy kw) rfl dX3_signalOf_25 ?_
  refine g_isub C ((cy kc) - (wy kw)) dX3_signalOf_26 rfl ?_
  refine g_istore C [some (.ref (q 0)), some (.int (nI kc)), some (.int (nI kw)), some (.int ((cx kc) - (wx kw))), some (.int ((cy kc) - (wy kw))), none] dX3_signalOf_27 (by decide) rfl rfl ?_
  refine g_iload_n C dX3_signalOf_29 rfl ?_
  refine g_if_ge C 38 dX3_signalOf_30 (by decide) (fun c_30 => ?_) (fun c_30 => ?_)
  · skip
    refine g_iload_n C dX3_signalOf_38 rfl ?_
    refine g_iload C dX3_signalOf_39 rfl ?_
    refine g_if_ge C 50 dX3_signalOf_41 (by decide) (fun c_41 => ?_) (fun c_41 => ?_)
    · skip
      refine g_iload C dX3_signalOf_50 rfl ?_
      refine g_iadd C (ab (cx kc - wx kw) + ab (cy kc - wy kw)) dX3_signalOf_52 (by first | rw [ab_p c_30, ab_p c_41] | rw [ab_p c_30, ab_n c_41] | rw [ab_n c_30, ab_p c_41] | rw [ab_n c_30, ab_n c_41]) ?_
      refine g_istore C [some (.ref (q 0)), some (.int (nI kc)), some (.int (nI kw)), some (.int ((cx kc) - (wx kw))), some (.int ((cy kc) - (wy kw))), some (.int (ab (cx kc - wx kw) + ab (cy kc - wy kw)))] dX3_signalOf_53 (by decide) rfl rfl ?_
      refine g_sipush C 16000 dX3_signalOf_55 (by decide +kernel) ?_
      refine g_iload C dX3_signalOf_58 rfl ?_
      refine g_iconst C 2 dX3_signalOf_60 (by decide +kernel) ?_
      refine g_iadd C ((ab (cx kc - wx kw) + ab (cy kc - wy kw)) + 2) dX3_signalOf_61 rfl ?_
      refine g_iload C dX3_signalOf_62 rfl ?_
      refine g_iconst C 2 dX3_signalOf_64 (by decide +kernel) ?_
      refine g_iadd C ((ab (cx kc - wx kw) + ab (cy kc - wy kw)) + 2) dX3_signalOf_65 rfl ?_
      refine g_imul C (((ab (cx kc - wx kw) + ab (cy kc - wy kw)) + 2) * ((ab (cx kc - wx kw) + ab (cy kc - wy kw)) + 2)) dX3_signalOf_66 rfl ?_
      refine g_idiv C (16000 / (((ab (cx kc - wx kw) + ab (cy kc - wy kw)) + 2) * ((ab (cx kc - wx kw) + ab (cy kc - wy kw)) + 2))) dX3_signalOf_67 hds rfl ?_
      exact g_iret C hret dX3_signalOf_68 (Nat.le_of_ble_eq_true rfl) (Nat.le_of_ble_eq_true rfl) ⟨rfl, rfl⟩
    · skip
      refine g_iload C dX3_signalOf_44 rfl ?_
      refine g_ineg C (-((cy kc) - (wy kw))) dX3_signalOf_46 rfl ?_
      refine g_goto C 52 dX3_signalOf_47 (by decide) ?_
      refine g_iadd C (ab (cx kc - wx kw) + ab (cy kc - wy kw)) dX3_signalOf_52 (by first | rw [ab_p c_30, ab_p c_41] | rw [ab_p c_30, ab_n c_41] | rw [ab_n c_30, ab_p c_41] | rw [ab_n c_30, ab_n c_41]) ?_
      refine g_istore C [some (.ref (q 0)), some (.int (nI kc)), some (.int (nI kw)), some (.int ((cx kc) - (wx kw))), some (.int ((cy kc) - (wy kw))), some (.int (ab (cx kc - wx kw) + ab (cy kc - wy kw)))] dX3_signalOf_53 (by decide) rfl rfl ?_
      refine g_sipush C 16000 dX3_signalOf_55 (by decide +kernel) ?_
      refine g_iload C dX3_signalOf_58 rfl ?_
      refine g_iconst C 2 dX3_signalOf_60 (by decide +kernel) ?_
      refine g_iadd C ((ab (cx kc - wx kw) + ab (cy kc - wy kw)) + 2) dX3_signalOf_61 rfl ?_
      refine g_iload C dX3_signalOf_62 rfl ?_
      refine g_iconst C 2 dX3_signalOf_64 (by decide +kernel) ?_
      refine g_iadd C ((ab (cx kc - wx kw) + ab (cy kc - wy kw)) + 2) dX3_signalOf_65 rfl ?_
      refine g_imul C (((ab (cx kc - wx kw) + ab (cy kc - wy kw)) + 2) * ((ab (cx kc - wx kw) + ab (cy kc - wy kw)) + 2)) dX3_signalOf_66 rfl ?_
      refine g_idiv C (16000 / (((ab (cx kc - wx kw) + ab (cy kc - wy kw)) + 2) * ((ab (cx kc - wx kw) + ab (cy kc - wy kw)) + 2))) dX3_signalOf_67 hds rfl ?_
      exact g_iret C hret dX3_signalOf_68 (Nat.le_of_ble_eq_true rfl) (Nat.le_of_ble_eq_true rfl) ⟨rfl, rfl⟩
  · skip
    refine g_iload_n C dX3_signalOf_33 rfl ?_
    refine g_ineg C (-((cx kc) - (wx kw))) dX3_signalOf_34 rfl ?_
    refine g_goto C 39 dX3_signalOf_35 (by decide) ?_
    refine g_iload C dX3_signalOf_39 rfl ?_
    refine g_if_ge C 50 dX3_signalOf_41 (by decide) (fun c_41 => ?_) (fun c_41 => ?_)
    · skip
      refine g_iload C dX3_signalOf_50 rfl ?_
      refine g_iadd C (ab (cx kc - wx kw) + ab (cy kc - wy kw)) dX3_signalOf_52 (by first | rw [ab_p c_30, ab_p c_41] | rw [ab_p c_30, ab_n c_41] | rw [ab_n c_30, ab_p c_41] | rw [ab_n c_30, ab_n c_41]) ?_
      refine g_istore C [some (.ref (q 0)), some (.int (nI kc)), some (.int (nI kw)), some (.int ((cx kc) - (wx kw))), some (.int ((cy kc) - (wy kw))), some (.int (ab (cx kc - wx kw) + ab (cy kc - wy kw)))] dX3_signalOf_53 (by decide) rfl rfl ?_
      refine g_sipush C 16000 dX3_signalOf_55 (by decide +kernel) ?_
      refine g_iload C dX3_signalOf_58 rfl ?_
      refine g_iconst C 2 dX3_signalOf_60 (by decide +kernel) ?_
      refine g_iadd C ((ab (cx kc - wx kw) + ab (cy kc - wy kw)) + 2) dX3_signalOf_61 rfl ?_
      refine g_iload C dX3_signalOf_62 rfl ?_
      refine g_iconst C 2 dX3_signalOf_64 (by decide +kernel) ?_
      refine g_iadd C ((ab (cx kc - wx kw) + ab (cy kc - wy kw)) + 2) dX3_signalOf_65 rfl ?_
      refine g_imul C (((ab (cx kc - wx kw) + ab (cy kc - wy kw)) + 2) * ((ab (cx kc - wx kw) + ab (cy kc - wy kw)) + 2)) dX3_signalOf_66 rfl ?_
      refine g_idiv C (16000 / (((ab (cx kc - wx kw) + ab (cy kc - wy kw)) + 2) * ((ab (cx kc - wx kw) + ab (cy kc - wy kw)) + 2))) dX3_signalOf_67 hds rfl ?_
      exact g_iret C hret dX3_signalOf_68 (Nat.le_of_ble_eq_true rfl) (Nat.le_of_ble_eq_true rfl) ⟨rfl, rfl⟩
    · skip
      refine g_iload C dX3_signalOf_44 rfl ?_
      refine g_ineg C (-((cy kc) - (wy kw))) dX3_signalOf_46 rfl ?_
      refine g_goto C 52 dX3_signalOf_47 (by decide) ?_
      refine g_iadd C (ab (cx kc - wx kw) + ab (cy kc - wy kw)) dX3_signalOf_52 (by first | rw [ab_p c_30, ab_p c_41] | rw [ab_p c_30, ab_n c_41] | rw [ab_n c_30, ab_p c_41] | rw [ab_n c_30, ab_n c_41]) ?_
      refine g_istore C [some (.ref (q 0)), some (.int (nI kc)), some (.int (nI kw)), some (.int ((cx kc) - (wx kw))), some (.int ((cy kc) - (wy kw))), some (.int (ab (cx kc - wx kw) + ab (cy kc - wy kw)))] dX3_signalOf_53 (by decide) rfl rfl ?_
      refine g_sipush C 16000 dX3_signalOf_55 (by decide +kernel) ?_
      refine g_iload C dX3_signalOf_58 rfl ?_
      refine g_iconst C 2 dX3_signalOf_60 (by decide +kernel) ?_
      refine g_iadd C ((ab (cx kc - wx kw) + ab (cy kc - wy kw)) + 2) dX3_signalOf_61 rfl ?_
      refine g_iload C dX3_signalOf_62 rfl ?_
      refine g_iconst C 2 dX3_signalOf_64 (by decide +kernel) ?_
      refine g_iadd C ((ab (cx kc - wx kw) + ab (cy kc - wy kw)) + 2) dX3_signalOf_65 rfl ?_
      refine g_imul C (((ab (cx kc - wx kw) + ab (cy kc - wy kw)) + 2) * ((ab (cx kc - wx kw) + ab (cy kc - wy kw)) + 2)) dX3_signalOf_66 rfl ?_
      refine g_idiv C (16000 / (((ab (cx kc - wx kw) + ab (cy kc - wy kw)) + 2) * ((ab (cx kc - wx kw) + ab (cy kc - wy kw)) + 2))) dX3_signalOf_67 hds rfl ?_
      exact g_iret C hret dX3_signalOf_68 (Nat.le_of_ble_eq_true rfl) (Nat.le_of_ble_eq_true rfl) ⟨rfl, rfl⟩
theorem iX3_qualityOf_X3 : ∀ w ∈ u_ws RX3 TX3 30, w ∈ wsX3_qualityOf := by decide +kernel
set_option maxHeartbeats 1000000 in
set_option maxRecDepth 100000 in
theorem t_X3_qualityOf {l : Launch} {D : va_G} {cI cZ cJ cG cW : ClassId} {q : Nat → Nat} {nc nw : Nat} {cx cy ch rm on wx wy dm sv fv hd lf la : Nat → Int32} {mg pt bd tk ho ri lo : Int32} {us gv bs ld qs : Nat → Int32} {mS mD th : Int32} {kc kw : Nat} (h5 : nc ≤ 5) (hc : kc < nc) (h6 : kw < 6) (hg : ∀ u, u < nc → ¬ dsq (cx u) (cy u) (wx kw) (wy kw) = 0) (hq : ¬ 10 + fdi ch on us (sgw cx cy wx wy kw) kc nc = 0) : CtI l yX3_qualityOf wsX3_qualityOf 1 25 0 0 D (T5 cI cZ cJ cG cW) [.ref (q 0), .int (nI kc), .int (nI kw)] (wM cI cZ q nc nw cx cy ch rm on wx wy dm sv fv hd lf la mg pt bd tk ho ri lo us gv bs ld qs mS mD th) (fun rv wv => rv = fqu cx cy ch on wx wy us nc kw kc ∧ wv = (wM cI cZ q nc nw cx cy ch rm on wx wy dm sv fv hd lf la mg pt bd tk ho ri lo us gv bs ld qs mS mD th)) := by
  refine ctI_of (cc := cX3_qualityOf) (maxL := 5) RX3 2 [some (.ref (q 0)), some (.int (nI kc)), some (.int (nI kw)), none, none] (by decide +kernel) rfl rfl (Nat.le_of_ble_eq_true rfl) rfl (fun p_ e_ s_ m_ as_ bl_ me_ co_ C hret => ?_)
  have f16 := C.ts (.fieldLink RX3 16 "CellPlannerModel" "channel" "[I") (by decide +kernel)
  have f22 := C.ts (.fieldLink RX3 22 "CellPlannerModel" "on" "[Z") (by decide +kernel)
  have f60 := C.ts (.fieldLink RX3 60 "CellPlannerModel" "uses" "[I") (by decide +kernel)
  have f78 := C.ts (.fieldLink RX3 78 "CellPlannerModel" "cells" "I") (by decide +kernel)
  refine g_bipush C 10 dX3_qualityOf_0 (by decide +kernel) ?_
  refine g_istore_n C [some (.ref (q 0)), some (.int (nI kc)), some (.int (nI kw)), some (.int 10), none] dX3_qualityOf_2 (by decide) rfl rfl ?_
  refine g_iconst C 0 dX3_qualityOf_3 (by decide +kernel) ?_
  refine g_istore C [some (.ref (q 0)), some (.int (nI kc)), some (.int (nI kw)), some (.int 10), some (.int 0)] dX3_qualityOf_4 (by decide) rfl rfl ?_
  refine g_loop2 0 10 (fun (i : Nat) (x : Int32) => i ≤ nc ∧ x = 10 + fdi ch on us (sgw cx cy wx wy kw) kc i) (fun (i : Nat) (x : Int32) => (wM cI cZ q nc nw cx cy ch rm on wx wy dm sv fv hd lf la mg pt bd tk ho ri lo us gv bs ld qs mS mD th)) (fun (i : Nat) (x : Int32) => [some (.ref (q 0)), some (.int (nI kc)), some (.int (nI kw)), some (.int x), some (.int (nI i))]) (fun (i : Nat) (x : Int32) => nc - i) ⟨Nat.zero_le _, (Int32_add0 _).symm⟩ rfl rfl (fun i x hI ih => ?_)
  obtain ⟨h1, h2⟩ := hI
  refine g_iload C dX3_qualityOf_6 rfl ?_
  refine g_aload_n C dX3_qualityOf_8 rfl ?_
  refine g_get C 0 iX3_qualityOf_X3 rfl rfl 0 (by decide) f78 rfl dX3_qualityOf_9 ?_
  refine g_icmp_ge C 74 dX3_qualityOf_12 (by decide) (fun c_12 => ?_) (fun c_12 => ?_)
  · skip
    have c_12 : nc ≤ i := (nI_leI (by omega) (by omega)).mp c_12
    have e9 : x = 10 + fdi ch on us (sgw cx cy wx wy kw) kc nc := by rw [h2, show i = nc by omega]
    refine g_bipush C 100 dX3_qualityOf_74 (by decide +kernel) ?_
    refine g_aload_n C dX3_qualityOf_76 rfl ?_
    refine g_iload_n C dX3_qualityOf_77 rfl ?_
    refine g_iload_n C dX3_qualityOf_78 rfl ?_
    refine g_callVi C [] (wM cI cZ q nc nw cx cy ch rm on wx wy dm sv fv hd lf la mg pt bd tk ho ri lo us gv bs ld qs mS mD th) [.int (nI kc), .int (nI kw)] (t_X3_signalOf (by omega) h6 (hg kc hc)) rfl rfl (cwV 2 C.ts gX3_qualityOf_X3_signalOf rfl rfl rfl (by decide +kernel) ⟨Nat.le_of_ble_eq_true rfl, Nat.le_of_ble_eq_true rfl⟩) rfl rfl rfl (Nat.le_of_ble_eq_true rfl) dX3_qualityOf_79 ⟨Nat.le_of_ble_eq_true rfl, Nat.le_of_ble_eq_true rfl⟩ (fun rv1 wv1 hp1 => ?_)
    obtain ⟨rfl, rfl⟩ := hp1
    refine g_imul C (100 * (sg cx cy wx wy kc kw)) dX3_qualityOf_82 rfl ?_
    refine g_iload_n C dX3_qualityOf_83 rfl ?_
    refine g_idiv C ((100 * (sg cx cy wx wy kc kw)) / x) dX3_qualityOf_84 (by rw [e9]; exact hq) rfl ?_
    exact g_iret C hret dX3_qualityOf_85 (Nat.le_of_ble_eq_true rfl) (Nat.le_of_ble_eq_true rfl) ⟨(by rw [e9] <;> rfl), rfl⟩
  · skip
    have c_12 : ¬ (nc ≤ i) := fun h9 => c_12 ((nI_leI (by omega) (by omega)).mpr h9)
    refine g_iload C dX3_qualityOf_15 rfl ?_
    refine g_iload_n C dX3_qualityOf_17 rfl ?_
    refine g_icmp_eq C 68 dX3_qualityOf_18 (by decide) (fun c_18 => ?_) (fun c_18 => ?_)
    · skip
      have c_18 : i = kc := (nI_eq (by omega) (by omega)).mp c_18
      refine g_iinc C (nI (i + 1)) [some (.ref (q 0)), some (.int (nI kc)), some (.int (nI kw)), some (.int x), some (.int (nI (i + 1)))] dX3_qualityOf_68 rfl (nI_1 i) (by decide) rfl rfl ?_
      refine g_goto C 6 dX3_qualityOf_71 (by decide) ?_
      exact ih (i + 1) x ⟨by omega, by first | rw [fdi, if_pos c_18, h2] | rw [fdi, if_neg c_18, if_pos c_28, h2] | rw [fdi, if_neg c_18, if_neg c_28, if_neg c_44, h2]⟩ (by omega)
    · skip
      have c_18 : ¬ (i = kc) := fun h9 => c_18 ((nI_eq (by omega) (by omega)).mpr h9)
      refine g_aload_n C dX3_qualityOf_21 rfl ?_
      refine g_get C 0 iX3_qualityOf_X3 rfl rfl 5 (by decide) f22 rfl dX3_qualityOf_22 ?_
      refine g_iload C dX3_qualityOf_25 rfl ?_
      refine g_zald C 5 1 rfl rfl i rfl (by omega) (by decide) (on i) rfl dX3_qualityOf_27 ?_
      refine g_if_eq C 68 dX3_qualityOf_28 (by decide) (fun c_28 => ?_) (fun c_28 => ?_)
      · skip
        refine g_iinc C (nI (i + 1)) [some (.ref (q 0)), some (.int (nI kc)), some (.int (nI kw)), some (.int x), some (.int (nI (i + 1)))] dX3_qualityOf_68 rfl (nI_1 i) (by decide) rfl rfl ?_
        refine g_goto C 6 dX3_qualityOf_71 (by decide) ?_
        exact ih (i + 1) x ⟨by omega, by first | rw [fdi, if_pos c_18, h2] | rw [fdi, if_neg c_18, if_pos c_28, h2] | rw [fdi, if_neg c_18, if_neg c_28, if_neg c_44, h2]⟩ (by omega)
      · skip
        refine g_aload_n C dX3_qualityOf_31 rfl ?_
        refine g_get C 0 iX3_qualityOf_X3 rfl rfl 3 (by decide) f16 rfl dX3_qualityOf_32 ?_
        refine g_iload C dX3_qualityOf_35 rfl ?_
        refine g_iald C 3 0 rfl rfl i rfl (by omega) (by decide) (ch i) rfl dX3_qualityOf_37 ?_
        refine g_aload_n C dX3_qualityOf_38 rfl ?_
        refine g_get C 0 iX3_qualityOf_X3 rfl rfl 3 (by decide) f16 rfl dX3_qualityOf_39 ?_
        refine g_iload_n C dX3_qualityOf_42 rfl ?_
        refine g_iald C 3 0 rfl rfl kc rfl (by omega) (by decide) (ch kc) rfl dX3_qualityOf_43 ?_
        refine g_icmp_ne C 68 dX3_qualityOf_44 (by decide) (fun c_44 => ?_) (fun c_44 => ?_)
        · skip
          refine g_iinc C (nI (i + 1)) [some (.ref (q 0)), some (.int (nI kc)), some (.int (nI kw)), some (.int x), some (.int (nI (i + 1)))] dX3_qualityOf_68 rfl (nI_1 i) (by decide) rfl rfl ?_
          refine g_goto C 6 dX3_qualityOf_71 (by decide) ?_
          exact ih (i + 1) x ⟨by omega, by first | rw [fdi, if_pos c_18, h2] | rw [fdi, if_neg c_18, if_pos c_28, h2] | rw [fdi, if_neg c_18, if_neg c_28, if_neg c_44, h2]⟩ (by omega)
        · skip
          refine g_iload_n C dX3_qualityOf_47 rfl ?_
          refine g_aload_n C dX3_qualityOf_48 rfl ?_
          refine g_iload C dX3_qualityOf_49 rfl ?_
          refine g_iload_n C dX3_qualityOf_51 rfl ?_
          refine g_callVi C [] (wM cI cZ q nc nw cx cy ch rm on wx wy dm sv fv hd lf la mg pt bd tk ho ri lo us gv bs ld qs mS mD th) [.int (nI i), .int (nI kw)] (t_X3_signalOf (by omega) h6 (hg i (by omega))) rfl rfl (cwV 2 C.ts gX3_qualityOf_X3_signalOf rfl rfl rfl (by decide +kernel) ⟨Nat.le_of_ble_eq_true rfl, Nat.le_of_ble_eq_true rfl⟩) rfl rfl rfl (Nat.le_of_ble_eq_true rfl) dX3_qualityOf_52 ⟨Nat.le_of_ble_eq_true rfl, Nat.le_of_ble_eq_true rfl⟩ (fun rv2 wv2 hp2 => ?_)
          obtain ⟨rfl, rfl⟩ := hp2
          refine g_aload_n C dX3_qualityOf_55 rfl ?_
          refine g_get C 0 iX3_qualityOf_X3 rfl rfl 22 (by decide) f60 rfl dX3_qualityOf_56 ?_
          refine g_iload C dX3_qualityOf_59 rfl ?_
          refine g_iald C 14 0 rfl rfl i rfl (by omega) (by decide) (us i) rfl dX3_qualityOf_61 ?_
          refine g_imul C ((sg cx cy wx wy i kw) * (us i)) dX3_qualityOf_62 rfl ?_
          refine g_bipush C 100 dX3_qualityOf_63 (by decide +kernel) ?_
          refine g_idiv C (((sg cx cy wx wy i kw) * (us i)) / 100) dX3_qualityOf_65 (by decide) rfl ?_
          refine g_iadd C (x + (((sg cx cy wx wy i kw) * (us i)) / 100)) dX3_qualityOf_66 rfl ?_
          refine g_istore_n C [some (.ref (q 0)), some (.int (nI kc)), some (.int (nI kw)), some (.int (x + (((sg cx cy wx wy i kw) * (us i)) / 100))), some (.int (nI i))] dX3_qualityOf_67 (by decide) rfl rfl ?_
          refine g_iinc C (nI (i + 1)) [some (.ref (q 0)), some (.int (nI kc)), some (.int (nI kw)), some (.int (x + (((sg cx cy wx wy i kw) * (us i)) / 100))), some (.int (nI (i + 1)))] dX3_qualityOf_68 rfl (nI_1 i) (by decide) rfl rfl ?_
          refine g_goto C 6 dX3_qualityOf_71 (by decide) ?_
          exact ih (i + 1) (x + (((sg cx cy wx wy i kw) * (us i)) / 100)) ⟨by omega, by rw [fdi, if_neg c_18, if_neg c_28, if_pos c_44, ← Int32.add_assoc, ← h2] <;> rfl⟩ (by omega)
theorem iX3_better_X3 : ∀ w ∈ u_ws RX3 TX3 30, w ∈ wsX3_better := by decide +kernel
set_option maxHeartbeats 1000000 in
set_option maxRecDepth 100000 in
theorem t_X3_better {l : Launch} {D : va_G} {cI cZ cJ cG cW : ClassId} {q : Nat → Nat} {nc nw : Nat} {cx cy ch rm on wx wy dm sv fv hd lf la : Nat → Int32} {mg pt bd tk ho ri lo : Int32} {us gv bs ld qs : Nat → Int32} {mS mD th : Int32} {kw : Nat} (h5 : nc ≤ 5) (h6 : nw ≤ 6) (hw : kw < 6) (hg : ∀ u, u < nc → ¬ dsq (cx u) (cy u) (wx kw) (wy kw) = 0) (hq : ∀ u, u < nc → ¬ 10 + fdi ch on us (sgw cx cy wx wy kw) u nc = 0) : CtI l yX3_better wsX3_better 2 49 0 0 D (T5 cI cZ cJ cG cW) [.ref (q 0), .int (nI kw)] (wM cI cZ q nc nw cx cy ch rm on wx wy dm sv fv hd lf la mg pt bd tk ho ri lo us gv bs ld qs mS mD th) (fun rv wv => rv = en (fbo (fun u => ftk on sv dm rm nw kw u) ((fqu cx cy ch on wx wy us nc) kw) nc) ∧ wv = (wM cI cZ q nc nw cx cy ch rm on wx wy dm sv fv hd lf la mg pt bd tk ho ri lo us gv bs ld qs mS mD th)) := by
  refine ctI_of (cc := cX3_better) (maxL := 5) RX3 3 [some (.ref (q 0)), some (.int (nI kw)), none, none, none] (by decide +kernel) rfl rfl (Nat.le_of_ble_eq_true rfl) rfl (fun p_ e_ s_ m_ as_ bl_ me_ co_ C hret => ?_)
  have f19 := C.ts (.fieldLink RX3 19 "CellPlannerModel" "room" "[I") (by decide +kernel)
  have f22 := C.ts (.fieldLink RX3 22 "CellPlannerModel" "on" "[Z") (by decide +kernel)
  have f32 := C.ts (.fieldLink RX3 32 "CellPlannerModel" "demand" "[I") (by decide +kernel)
  have f35 := C.ts (.fieldLink RX3 35 "CellPlannerModel" "serving" "[I") (by decide +kernel)
  have f78 := C.ts (.fieldLink RX3 78 "CellPlannerModel" "cells" "I") (by decide +kernel)
  refine g_iconst C (-1) dX3_better_0 (by decide +kernel) ?_
  refine g_istore_n C [some (.ref (q 0)), some (.int (nI kw)), some (.int ((-1))), none, none] dX3_better_1 (by decide) rfl rfl ?_
  refine g_iconst C 0 dX3_better_2 (by decide +kernel) ?_
  refine g_istore_n C [some (.ref (q 0)), some (.int (nI kw)), some (.int ((-1))), some (.int 0), none] dX3_better_3 (by decide) rfl rfl ?_
  refine g_loop2 0 none (fun (i : Nat) (y : Option Nat) => i ≤ nc ∧ y = fbo (fun u => ftk on sv dm rm nw kw u) ((fqu cx cy ch on wx wy us nc) kw) i) (fun (i : Nat) (y : Option Nat) => (wM cI cZ q nc nw cx cy ch rm on wx wy dm sv fv hd lf la mg pt bd tk ho ri lo us gv bs ld qs mS mD th)) (fun (i : Nat) (y : Option Nat) => [some (.ref (q 0)), some (.int (nI kw)), some (.int (en y)), some (.int (nI i)), none]) (fun (i : Nat) (y : Option Nat) => nc - i) ⟨Nat.zero_le _, rfl⟩ rfl rfl (fun i y hI ih => ?_)
  obtain ⟨h1, h2⟩ := hI
  have h3 : ∀ z, y = some z → z < i := fun z hb => fbo_lt (h2 ▸ hb)
  refine g_iload_n C dX3_better_4 rfl ?_
  refine g_aload_n C dX3_better_5 rfl ?_
  refine g_get C 0 iX3_better_X3 rfl rfl 0 (by decide) f78 rfl dX3_better_6 ?_
  refine g_icmp_ge C 92 dX3_better_9 (by decide) (fun c_9 => ?_) (fun c_9 => ?_)
  · skip
    have c_9 : nc ≤ i := (nI_leI (by omega) (by omega)).mp c_9
    refine g_iload_n C dX3_better_92 rfl ?_
    exact g_iret C hret dX3_better_93 (Nat.le_of_ble_eq_true rfl) (Nat.le_of_ble_eq_true rfl) ⟨(by rw [h2, show i = nc by omega]), rfl⟩
  · skip
    have c_9 : ¬ (nc ≤ i) := fun h9 => c_9 ((nI_leI (by omega) (by omega)).mpr h9)
    refine g_aload_n C dX3_better_12 rfl ?_
    refine g_get C 0 iX3_better_X3 rfl rfl 5 (by decide) f22 rfl dX3_better_13 ?_
    refine g_iload_n C dX3_better_16 rfl ?_
    refine g_zald C 5 1 rfl rfl i rfl (by omega) (by decide) (on i) rfl dX3_better_17 ?_
    refine g_if_eq C 56 dX3_better_18 (by decide) (fun c_18 => ?_) (fun c_18 => ?_)
    · skip
      refine g_iconst C 0 dX3_better_56 (by decide +kernel) ?_
      refine g_istore C [some (.ref (q 0)), some (.int (nI kw)), some (.int (en y)), some (.int (nI i)), some (.int 0)] dX3_better_57 (by decide) rfl rfl ?_
      refine g_iload C dX3_better_59 rfl ?_
      refine g_if_eq C 86 dX3_better_61 (by decide) (fun _ => ?_) (fun c9 => absurd rfl c9)
      refine g_iinc C (nI (i + 1)) [some (.ref (q 0)), some (.int (nI kw)), some (.int (en y)), some (.int (nI (i + 1))), some (.int 0)] dX3_better_86 rfl (nI_1 i) (by decide) rfl rfl ?_
      refine g_goto C 4 dX3_better_89 (by decide) ?_
      refine g_mask [true, true, true, true, false] rfl ?_
      exact ih (i + 1) y ⟨by omega, by unfold fbo; rw [if_pos (show ftk on sv dm rm nw kw i = 0 from (by unfold ftk; first | rw [if_pos c_18] | rw [if_neg c_18, if_pos c_28.symm] | rw [if_neg c_18, if_neg (fun h => c_28 h.symm), if_pos c_49])), h2]⟩ (by omega)
    · skip
      refine g_iload_n C dX3_better_21 rfl ?_
      refine g_aload_n C dX3_better_22 rfl ?_
      refine g_get C 0 iX3_better_X3 rfl rfl 10 (by decide) f35 rfl dX3_better_23 ?_
      refine g_iload_n C dX3_better_26 rfl ?_
      refine g_iald C 9 0 rfl rfl kw rfl (by omega) (by decide) (sv kw) rfl dX3_better_27 ?_
      refine g_icmp_eq C 56 dX3_better_28 (by decide) (fun c_28 => ?_) (fun c_28 => ?_)
      · skip
        refine g_iconst C 0 dX3_better_56 (by decide +kernel) ?_
        refine g_istore C [some (.ref (q 0)), some (.int (nI kw)), some (.int (en y)), some (.int (nI i)), some (.int 0)] dX3_better_57 (by decide) rfl rfl ?_
        refine g_iload C dX3_better_59 rfl ?_
        refine g_if_eq C 86 dX3_better_61 (by decide) (fun _ => ?_) (fun c9 => absurd rfl c9)
        refine g_iinc C (nI (i + 1)) [some (.ref (q 0)), some (.int (nI kw)), some (.int (en y)), some (.int (nI (i + 1))), some (.int 0)] dX3_better_86 rfl (nI_1 i) (by decide) rfl rfl ?_
        refine g_goto C 4 dX3_better_89 (by decide) ?_
        refine g_mask [true, true, true, true, false] rfl ?_
        exact ih (i + 1) y ⟨by omega, by unfold fbo; rw [if_pos (show ftk on sv dm rm nw kw i = 0 from (by unfold ftk; first | rw [if_pos c_18] | rw [if_neg c_18, if_pos c_28.symm] | rw [if_neg c_18, if_neg (fun h => c_28 h.symm), if_pos c_49])), h2]⟩ (by omega)
      · skip
        refine g_aload_n C dX3_better_31 rfl ?_
        refine g_iload_n C dX3_better_32 rfl ?_
        refine g_callVi C [] (wM cI cZ q nc nw cx cy ch rm on wx wy dm sv fv hd lf la mg pt bd tk ho ri lo us gv bs ld qs mS mD th) [.int (nI i)] (t_X3_loadOf h6) rfl rfl (cwV 1 C.ts gX3_better_X3_loadOf rfl rfl rfl (by decide +kernel) ⟨Nat.le_of_ble_eq_true rfl, Nat.le_of_ble_eq_true rfl⟩) rfl rfl rfl (Nat.le_of_ble_eq_true rfl) dX3_better_33 ⟨Nat.le_of_ble_eq_true rfl, Nat.le_of_ble_eq_true rfl⟩ (fun rv1 wv1 hp1 => ?_)
        obtain ⟨rfl, rfl⟩ := hp1
        refine g_aload_n C dX3_better_36 rfl ?_
        refine g_get C 0 iX3_better_X3 rfl rfl 9 (by decide) f32 rfl dX3_better_37 ?_
        refine g_iload_n C dX3_better_40 rfl ?_
        refine g_iald C 8 0 rfl rfl kw rfl (by omega) (by decide) (dm kw) rfl dX3_better_41 ?_
        refine g_iadd C ((fld sv dm (nI i) nw) + (dm kw)) dX3_better_42 rfl ?_
        refine g_aload_n C dX3_better_43 rfl ?_
        refine g_get C 0 iX3_better_X3 rfl rfl 4 (by decide) f19 rfl dX3_better_44 ?_
        refine g_iload_n C dX3_better_47 rfl ?_
        refine g_iald C 4 0 rfl rfl i rfl (by omega) (by decide) (rm i) rfl dX3_better_48 ?_
        refine g_icmp_gt C 56 dX3_better_49 (by decide) (fun c_49 => ?_) (fun c_49 => ?_)
        · skip
          refine g_iconst C 0 dX3_better_56 (by decide +kernel) ?_
          refine g_istore C [some (.ref (q 0)), some (.int (nI kw)), some (.int (en y)), some (.int (nI i)), some (.int 0)] dX3_better_57 (by decide) rfl rfl ?_
          refine g_iload C dX3_better_59 rfl ?_
          refine g_if_eq C 86 dX3_better_61 (by decide) (fun _ => ?_) (fun c9 => absurd rfl c9)
          refine g_iinc C (nI (i + 1)) [some (.ref (q 0)), some (.int (nI kw)), some (.int (en y)), some (.int (nI (i + 1))), some (.int 0)] dX3_better_86 rfl (nI_1 i) (by decide) rfl rfl ?_
          refine g_goto C 4 dX3_better_89 (by decide) ?_
          refine g_mask [true, true, true, true, false] rfl ?_
          exact ih (i + 1) y ⟨by omega, by unfold fbo; rw [if_pos (show ftk on sv dm rm nw kw i = 0 from (by unfold ftk; first | rw [if_pos c_18] | rw [if_neg c_18, if_pos c_28.symm] | rw [if_neg c_18, if_neg (fun h => c_28 h.symm), if_pos c_49])), h2]⟩ (by omega)
        · skip
          refine g_iconst C 1 dX3_better_52 (by decide +kernel) ?_
          refine g_goto C 57 dX3_better_53 (by decide) ?_
          refine g_istore C [some (.ref (q 0)), some (.int (nI kw)), some (.int (en y)), some (.int (nI i)), some (.int 1)] dX3_better_57 (by decide) rfl rfl ?_
          refine g_iload C dX3_better_59 rfl ?_
          refine g_if_eq C 86 dX3_better_61 (by decide) (fun c9 => absurd c9 (by decide)) (fun _ => ?_)
          refine g_iload_n C dX3_better_64 rfl ?_
          refine g_iconst C (-1) dX3_better_65 (by decide +kernel) ?_
          refine g_icmp_eq C 84 dX3_better_66 (by decide) (fun c_66 => ?_) (fun c_66 => ?_)
          · skip
            have hb0 : y = none := en_none (fun z hb => by have := h3 z hb; omega) c_66
            refine g_iload_n C dX3_better_84 rfl ?_
            refine g_istore_n C [some (.ref (q 0)), some (.int (nI kw)), some (.int (nI i)), some (.int (nI i)), some (.int 1)] dX3_better_85 (by decide) rfl rfl ?_
            refine g_iinc C (nI (i + 1)) [some (.ref (q 0)), some (.int (nI kw)), some (.int (nI i)), some (.int (nI (i + 1))), some (.int 1)] dX3_better_86 rfl (nI_1 i) (by decide) rfl rfl ?_
            refine g_goto C 4 dX3_better_89 (by decide) ?_
            refine g_mask [true, true, true, true, false] rfl ?_
            exact ih (i + 1) (some i) ⟨by omega, by unfold fbo; first | (rw [if_neg (show ¬ ftk on sv dm rm nw kw i = 0 from (by unfold ftk; rw [if_neg c_18, if_neg (fun h => c_28 h.symm), if_neg c_49]; decide)), ← h2, hb]; exact (if_pos c_81).symm) | (rw [if_neg (show ¬ ftk on sv dm rm nw kw i = 0 from (by unfold ftk; rw [if_neg c_18, if_neg (fun h => c_28 h.symm), if_neg c_49]; decide)), ← h2, hb]; exact (if_neg c_81).symm) | (rw [if_neg (show ¬ ftk on sv dm rm nw kw i = 0 from (by unfold ftk; rw [if_neg c_18, if_neg (fun h => c_28 h.symm), if_neg c_49]; decide)), ← h2, hb0])⟩ (by omega)
          · skip
            obtain ⟨bb, hb⟩ := en_some c_66
            have hb2 := h3 bb hb
            refine g_aload_n C dX3_better_69 rfl ?_
            refine g_iload_n C dX3_better_70 rfl ?_
            refine g_iload_n C dX3_better_71 rfl ?_
            refine g_callVi C [] (wM cI cZ q nc nw cx cy ch rm on wx wy dm sv fv hd lf la mg pt bd tk ho ri lo us gv bs ld qs mS mD th) [.int (nI i), .int (nI kw)] (t_X3_qualityOf h5 (by omega) hw hg (hq i (by omega))) rfl rfl (cwV 2 C.ts gX3_better_X3_qualityOf rfl rfl rfl (by decide +kernel) ⟨Nat.le_of_ble_eq_true rfl, Nat.le_of_ble_eq_true rfl⟩) rfl rfl rfl (Nat.le_of_ble_eq_true rfl) dX3_better_72 ⟨Nat.le_of_ble_eq_true rfl, Nat.le_of_ble_eq_true rfl⟩ (fun rv2 wv2 hp2 => ?_)
            obtain ⟨rfl, rfl⟩ := hp2
            refine g_aload_n C dX3_better_75 rfl ?_
            refine g_iload_n C dX3_better_76 rfl ?_
            refine g_iload_n C dX3_better_77 rfl ?_
            refine g_st (st' := [.int (nI kw), .int (nI bb), .ref (q 0), .int (fqu cx cy ch on wx wy us nc kw i)]) (by rw [hb]; rfl) ?_
            refine g_callVi C [] (wM cI cZ q nc nw cx cy ch rm on wx wy dm sv fv hd lf la mg pt bd tk ho ri lo us gv bs ld qs mS mD th) [.int (nI bb), .int (nI kw)] (t_X3_qualityOf h5 (by omega) hw hg (hq bb (by omega))) rfl rfl (cwV 2 C.ts gX3_better_X3_qualityOf rfl rfl rfl (by decide +kernel) ⟨Nat.le_of_ble_eq_true rfl, Nat.le_of_ble_eq_true rfl⟩) rfl rfl rfl (Nat.le_of_ble_eq_true rfl) dX3_better_78 ⟨Nat.le_of_ble_eq_true rfl, Nat.le_of_ble_eq_true rfl⟩ (fun rv3 wv3 hp3 => ?_)
            obtain ⟨rfl, rfl⟩ := hp3
            refine g_icmp_le C 86 dX3_better_81 (by decide) (fun c_81 => ?_) (fun c_81 => ?_)
            · skip
              refine g_iinc C (nI (i + 1)) [some (.ref (q 0)), some (.int (nI kw)), some (.int (en y)), some (.int (nI (i + 1))), some (.int 1)] dX3_better_86 rfl (nI_1 i) (by decide) rfl rfl ?_
              refine g_goto C 4 dX3_better_89 (by decide) ?_
              refine g_mask [true, true, true, true, false] rfl ?_
              exact ih (i + 1) y ⟨by omega, by unfold fbo; first | (rw [if_neg (show ¬ ftk on sv dm rm nw kw i = 0 from (by unfold ftk; rw [if_neg c_18, if_neg (fun h => c_28 h.symm), if_neg c_49]; decide)), ← h2, hb]; exact (if_pos c_81).symm) | (rw [if_neg (show ¬ ftk on sv dm rm nw kw i = 0 from (by unfold ftk; rw [if_neg c_18, if_neg (fun h => c_28 h.symm), if_neg c_49]; decide)), ← h2, hb]; exact (if_neg c_81).symm) | (rw [if_neg (show ¬ ftk on sv dm rm nw kw i = 0 from (by unfold ftk; rw [if_neg c_18, if_neg (fun h => c_28 h.symm), if_neg c_49]; decide)), ← h2, hb0])⟩ (by omega)
            · skip
              refine g_iload_n C dX3_better_84 rfl ?_
              refine g_istore_n C [some (.ref (q 0)), some (.int (nI kw)), some (.int (nI i)), some (.int (nI i)), some (.int 1)] dX3_better_85 (by decide) rfl rfl ?_
              refine g_iinc C (nI (i + 1)) [some (.ref (q 0)), some (.int (nI kw)), some (.int (nI i)), some (.int (nI (i + 1))), some (.int 1)] dX3_better_86 rfl (nI_1 i) (by decide) rfl rfl ?_
              refine g_goto C 4 dX3_better_89 (by decide) ?_
              refine g_mask [true, true, true, true, false] rfl ?_
              exact ih (i + 1) (some i) ⟨by omega, by unfold fbo; first | (rw [if_neg (show ¬ ftk on sv dm rm nw kw i = 0 from (by unfold ftk; rw [if_neg c_18, if_neg (fun h => c_28 h.symm), if_neg c_49]; decide)), ← h2, hb]; exact (if_pos c_81).symm) | (rw [if_neg (show ¬ ftk on sv dm rm nw kw i = 0 from (by unfold ftk; rw [if_neg c_18, if_neg (fun h => c_28 h.symm), if_neg c_49]; decide)), ← h2, hb]; exact (if_neg c_81).symm) | (rw [if_neg (show ¬ ftk on sv dm rm nw kw i = 0 from (by unfold ftk; rw [if_neg c_18, if_neg (fun h => c_28 h.symm), if_neg c_49]; decide)), ← h2, hb0])⟩ (by omega)
theorem iX3_handOver_X3 : ∀ w ∈ u_ws RX3 TX3 30, w ∈ wsX3_handOver := by decide +kernel
set_option maxHeartbeats 1000000 in
set_option maxRecDepth 100000 in
theorem t_X3_handOver {l : Launch} {D : va_G} {cI cZ cJ cG cW : ClassId} {q : Nat → Nat} {nc nw : Nat} {cx cy ch rm on wx wy dm sv fv hd lf la : Nat → Int32} {mg pt bd tk ho ri lo : Int32} {us gv bs ld qs : Nat → Int32} {mS mD th : Int32} {kw : Nat} {p2 : Int32} (hw : kw < 6) : CtV l yX3_handOver wsX3_handOver 1 21 0 0 D (T5 cI cZ cJ cG cW) [.ref (q 0), .int (nI kw), .int p2] (wM cI cZ q nc nw cx cy ch rm on wx wy dm sv fv hd lf la mg pt bd tk ho ri lo us gv bs ld qs mS mD th) (fun wv tv => wv = (wM cI cZ q nc nw cx cy ch rm on wx wy dm (upd sv kw p2) (upd fv kw (-1)) (upd hd kw 0) (upd lf kw (sv kw)) (upd la kw tk) mg pt bd tk (ho + 1) (frg lf la kw p2 tk ri) lo us gv bs ld qs mS mD th) ∧ tv = (T5 cI cZ cJ cG cW)) := by
  refine ctV_of (cc := cX3_handOver) (maxL := 3) RX3 0 [some (.ref (q 0)), some (.int (nI kw)), some (.int p2)] (by decide +kernel) rfl rfl (Nat.le_of_ble_eq_true rfl) rfl (fun p_ e_ s_ m_ as_ bl_ me_ co_ C hret hini => ?_)
  have f35 := C.ts (.fieldLink RX3 35 "CellPlannerModel" "serving" "[I") (by decide +kernel)
  have f44 := C.ts (.fieldLink RX3 44 "CellPlannerModel" "left" "[I") (by decide +kernel)
  have f47 := C.ts (.fieldLink RX3 47 "CellPlannerModel" "leftAt" "[I") (by decide +kernel)
  have f123 := C.ts (.fieldLink RX3 123 "CellPlannerModel" "handovers" "I") (by decide +kernel)
  have f126 := C.ts (.fieldLink RX3 126 "CellPlannerModel" "rings" "I") (by decide +kernel)
  have f129 := C.ts (.fieldLink RX3 129 "CellPlannerModel" "ticks" "I") (by decide +kernel)
  refine g_aload_n C dX3_handOver_0 rfl ?_
  refine g_dup C dX3_handOver_1 rfl ?_
  refine g_get C 0 iX3_handOver_X3 rfl rfl 19 (by decide) f123 rfl dX3_handOver_2 ?_
  refine g_iconst C 1 dX3_handOver_5 (by decide +kernel) ?_
  refine g_iadd C (ho + 1) dX3_handOver_6 rfl ?_
  refine g_put C 0 iX3_handOver_X3 rfl rfl 19 (by decide) f123 rfl tyX3 tyX3_ok nmX3 (ty := .int) (by decide +kernel) rfl rfl (Nat.le_of_ble_eq_true rfl) (wM cI cZ q nc nw cx cy ch rm on wx wy dm sv fv hd lf la mg pt bd tk (ho + 1) ri lo us gv bs ld qs mS mD th) rfl dX3_handOver_7 ?_
  refine g_aload_n C dX3_handOver_10 rfl ?_
  refine g_dup C dX3_handOver_11 rfl ?_
  refine g_get C 0 iX3_handOver_X3 rfl rfl 20 (by decide) f126 rfl dX3_handOver_12 ?_
  refine g_aload_n C dX3_handOver_15 rfl ?_
  refine g_get C 0 iX3_handOver_X3 rfl rfl 13 (by decide) f44 rfl dX3_handOver_16 ?_
  refine g_iload_n C dX3_handOver_19 rfl ?_
  refine g_iald C 12 0 rfl rfl kw rfl (by omega) (by decide) (lf kw) rfl dX3_handOver_20 ?_
  refine g_iload_n C dX3_handOver_21 rfl ?_
  refine g_icmp_ne C 44 dX3_handOver_22 (by decide) (fun c_22 => ?_) (fun c_22 => ?_)
  · skip
    refine g_iconst C 0 dX3_handOver_44 (by decide +kernel) ?_
    refine g_iadd C (frg lf la kw p2 tk ri) dX3_handOver_45 (by unfold frg; first | rw [if_neg (fun h => c_22 h.symm), Int32_add0] | rw [if_pos c_22.symm, if_pos c_37, Int32_add0]) ?_
    refine g_put C 0 iX3_handOver_X3 rfl rfl 20 (by decide) f126 rfl tyX3 tyX3_ok nmX3 (ty := .int) (by decide +kernel) rfl rfl (Nat.le_of_ble_eq_true rfl) (wM cI cZ q nc nw cx cy ch rm on wx wy dm sv fv hd lf la mg pt bd tk (ho + 1) (frg lf la kw p2 tk ri) lo us gv bs ld qs mS mD th) rfl dX3_handOver_46 ?_
    refine g_aload_n C dX3_handOver_49 rfl ?_
    refine g_get C 0 iX3_handOver_X3 rfl rfl 13 (by decide) f44 rfl dX3_handOver_50 ?_
    refine g_iload_n C dX3_handOver_53 rfl ?_
    refine g_aload_n C dX3_handOver_54 rfl ?_
    refine g_get C 0 iX3_handOver_X3 rfl rfl 10 (by decide) f35 rfl dX3_handOver_55 ?_
    refine g_iload_n C dX3_handOver_58 rfl ?_
    refine g_iald C 9 0 rfl rfl kw rfl (by omega) (by decide) (sv kw) rfl dX3_handOver_59 ?_
    refine g_iast C 12 0 rfl rfl kw rfl (by omega) (by decide) (wM cI cZ q nc nw cx cy ch rm on wx wy dm sv fv hd (upd lf kw (sv kw)) la mg pt bd tk (ho + 1) (frg lf la kw p2 tk ri) lo us gv bs ld qs mS mD th) rfl dX3_handOver_60 ?_
    refine g_aload_n C dX3_handOver_61 rfl ?_
    refine g_get C 0 iX3_handOver_X3 rfl rfl 14 (by decide) f47 rfl dX3_handOver_62 ?_
    refine g_iload_n C dX3_handOver_65 rfl ?_
    refine g_aload_n C dX3_handOver_66 rfl ?_
    refine g_get C 0 iX3_handOver_X3 rfl rfl 18 (by decide) f129 rfl dX3_handOver_67 ?_
    refine g_iast C 13 0 rfl rfl kw rfl (by omega) (by decide) (wM cI cZ q nc nw cx cy ch rm on wx wy dm sv fv hd (upd lf kw (sv kw)) (upd la kw tk) mg pt bd tk (ho + 1) (frg lf la kw p2 tk ri) lo us gv bs ld qs mS mD th) rfl dX3_handOver_70 ?_
    refine g_aload_n C dX3_handOver_71 rfl ?_
    refine g_iload_n C dX3_handOver_72 rfl ?_
    refine g_callVv C [] (wM cI cZ q nc nw cx cy ch rm on wx wy dm sv fv hd (upd lf kw (sv kw)) (upd la kw tk) mg pt bd tk (ho + 1) (frg lf la kw p2 tk ri) lo us gv bs ld qs mS mD th) [.int (nI kw)] (t_X3_lose hw) rfl rfl (cwV 1 C.ts gX3_handOver_X3_lose rfl rfl rfl (by decide +kernel) ⟨Nat.le_of_ble_eq_true rfl, Nat.le_of_ble_eq_true rfl⟩) rfl rfl rfl (Nat.le_of_ble_eq_true rfl) dX3_handOver_73 ⟨Nat.le_of_ble_eq_true rfl, Nat.le_of_ble_eq_true rfl⟩ (fun wv1 tv1 hp1 => ?_)
    obtain ⟨rfl, rfl⟩ := hp1
    refine g_aload_n C dX3_handOver_76 rfl ?_
    refine g_get C 0 iX3_handOver_X3 rfl rfl 10 (by decide) f35 rfl dX3_handOver_77 ?_
    refine g_iload_n C dX3_handOver_80 rfl ?_
    refine g_iload_n C dX3_handOver_81 rfl ?_
    refine g_iast C 9 0 rfl rfl kw rfl (by omega) (by decide) (wM cI cZ q nc nw cx cy ch rm on wx wy dm (upd sv kw p2) (upd fv kw (-1)) (upd hd kw 0) (upd lf kw (sv kw)) (upd la kw tk) mg pt bd tk (ho + 1) (frg lf la kw p2 tk ri) lo us gv bs ld qs mS mD th) (by rw [upd_upd] <;> rfl) dX3_handOver_82 ?_
    exact g_vret C hret dX3_handOver_83 (Nat.le_of_ble_eq_true rfl) (Nat.le_of_ble_eq_true rfl) ⟨rfl, rfl⟩
  · skip
    refine g_aload_n C dX3_handOver_25 rfl ?_
    refine g_get C 0 iX3_handOver_X3 rfl rfl 18 (by decide) f129 rfl dX3_handOver_26 ?_
    refine g_aload_n C dX3_handOver_29 rfl ?_
    refine g_get C 0 iX3_handOver_X3 rfl rfl 14 (by decide) f47 rfl dX3_handOver_30 ?_
    refine g_iload_n C dX3_handOver_33 rfl ?_
    refine g_iald C 13 0 rfl rfl kw rfl (by omega) (by decide) (la kw) rfl dX3_handOver_34 ?_
    refine g_isub C (tk - (la kw)) dX3_handOver_35 rfl ?_
    refine g_iconst C 5 dX3_handOver_36 (by decide +kernel) ?_
    refine g_icmp_gt C 44 dX3_handOver_37 (by decide) (fun c_37 => ?_) (fun c_37 => ?_)
    · skip
      refine g_iconst C 0 dX3_handOver_44 (by decide +kernel) ?_
      refine g_iadd C (frg lf la kw p2 tk ri) dX3_handOver_45 (by unfold frg; first | rw [if_neg (fun h => c_22 h.symm), Int32_add0] | rw [if_pos c_22.symm, if_pos c_37, Int32_add0]) ?_
      refine g_put C 0 iX3_handOver_X3 rfl rfl 20 (by decide) f126 rfl tyX3 tyX3_ok nmX3 (ty := .int) (by decide +kernel) rfl rfl (Nat.le_of_ble_eq_true rfl) (wM cI cZ q nc nw cx cy ch rm on wx wy dm sv fv hd lf la mg pt bd tk (ho + 1) (frg lf la kw p2 tk ri) lo us gv bs ld qs mS mD th) rfl dX3_handOver_46 ?_
      refine g_aload_n C dX3_handOver_49 rfl ?_
      refine g_get C 0 iX3_handOver_X3 rfl rfl 13 (by decide) f44 rfl dX3_handOver_50 ?_
      refine g_iload_n C dX3_handOver_53 rfl ?_
      refine g_aload_n C dX3_handOver_54 rfl ?_
      refine g_get C 0 iX3_handOver_X3 rfl rfl 10 (by decide) f35 rfl dX3_handOver_55 ?_
      refine g_iload_n C dX3_handOver_58 rfl ?_
      refine g_iald C 9 0 rfl rfl kw rfl (by omega) (by decide) (sv kw) rfl dX3_handOver_59 ?_
      refine g_iast C 12 0 rfl rfl kw rfl (by omega) (by decide) (wM cI cZ q nc nw cx cy ch rm on wx wy dm sv fv hd (upd lf kw (sv kw)) la mg pt bd tk (ho + 1) (frg lf la kw p2 tk ri) lo us gv bs ld qs mS mD th) rfl dX3_handOver_60 ?_
      refine g_aload_n C dX3_handOver_61 rfl ?_
      refine g_get C 0 iX3_handOver_X3 rfl rfl 14 (by decide) f47 rfl dX3_handOver_62 ?_
      refine g_iload_n C dX3_handOver_65 rfl ?_
      refine g_aload_n C dX3_handOver_66 rfl ?_
      refine g_get C 0 iX3_handOver_X3 rfl rfl 18 (by decide) f129 rfl dX3_handOver_67 ?_
      refine g_iast C 13 0 rfl rfl kw rfl (by omega) (by decide) (wM cI cZ q nc nw cx cy ch rm on wx wy dm sv fv hd (upd lf kw (sv kw)) (upd la kw tk) mg pt bd tk (ho + 1) (frg lf la kw p2 tk ri) lo us gv bs ld qs mS mD th) rfl dX3_handOver_70 ?_
      refine g_aload_n C dX3_handOver_71 rfl ?_
      refine g_iload_n C dX3_handOver_72 rfl ?_
      refine g_callVv C [] (wM cI cZ q nc nw cx cy ch rm on wx wy dm sv fv hd (upd lf kw (sv kw)) (upd la kw tk) mg pt bd tk (ho + 1) (frg lf la kw p2 tk ri) lo us gv bs ld qs mS mD th) [.int (nI kw)] (t_X3_lose hw) rfl rfl (cwV 1 C.ts gX3_handOver_X3_lose rfl rfl rfl (by decide +kernel) ⟨Nat.le_of_ble_eq_true rfl, Nat.le_of_ble_eq_true rfl⟩) rfl rfl rfl (Nat.le_of_ble_eq_true rfl) dX3_handOver_73 ⟨Nat.le_of_ble_eq_true rfl, Nat.le_of_ble_eq_true rfl⟩ (fun wv2 tv2 hp2 => ?_)
      obtain ⟨rfl, rfl⟩ := hp2
      refine g_aload_n C dX3_handOver_76 rfl ?_
      refine g_get C 0 iX3_handOver_X3 rfl rfl 10 (by decide) f35 rfl dX3_handOver_77 ?_
      refine g_iload_n C dX3_handOver_80 rfl ?_
      refine g_iload_n C dX3_handOver_81 rfl ?_
      refine g_iast C 9 0 rfl rfl kw rfl (by omega) (by decide) (wM cI cZ q nc nw cx cy ch rm on wx wy dm (upd sv kw p2) (upd fv kw (-1)) (upd hd kw 0) (upd lf kw (sv kw)) (upd la kw tk) mg pt bd tk (ho + 1) (frg lf la kw p2 tk ri) lo us gv bs ld qs mS mD th) (by rw [upd_upd] <;> rfl) dX3_handOver_82 ?_
      exact g_vret C hret dX3_handOver_83 (Nat.le_of_ble_eq_true rfl) (Nat.le_of_ble_eq_true rfl) ⟨rfl, rfl⟩
    · skip
      refine g_iconst C 1 dX3_handOver_40 (by decide +kernel) ?_
      refine g_goto C 45 dX3_handOver_41 (by decide) ?_
      refine g_iadd C (frg lf la kw p2 tk ri) dX3_handOver_45 (by unfold frg; rw [if_pos c_22.symm, if_neg c_37]) ?_
      refine g_put C 0 iX3_handOver_X3 rfl rfl 20 (by decide) f126 rfl tyX3 tyX3_ok nmX3 (ty := .int) (by decide +kernel) rfl rfl (Nat.le_of_ble_eq_true rfl) (wM cI cZ q nc nw cx cy ch rm on wx wy dm sv fv hd lf la mg pt bd tk (ho + 1) (frg lf la kw p2 tk ri) lo us gv bs ld qs mS mD th) rfl dX3_handOver_46 ?_
      refine g_aload_n C dX3_handOver_49 rfl ?_
      refine g_get C 0 iX3_handOver_X3 rfl rfl 13 (by decide) f44 rfl dX3_handOver_50 ?_
      refine g_iload_n C dX3_handOver_53 rfl ?_
      refine g_aload_n C dX3_handOver_54 rfl ?_
      refine g_get C 0 iX3_handOver_X3 rfl rfl 10 (by decide) f35 rfl dX3_handOver_55 ?_
      refine g_iload_n C dX3_handOver_58 rfl ?_
      refine g_iald C 9 0 rfl rfl kw rfl (by omega) (by decide) (sv kw) rfl dX3_handOver_59 ?_
      refine g_iast C 12 0 rfl rfl kw rfl (by omega) (by decide) (wM cI cZ q nc nw cx cy ch rm on wx wy dm sv fv hd (upd lf kw (sv kw)) la mg pt bd tk (ho + 1) (frg lf la kw p2 tk ri) lo us gv bs ld qs mS mD th) rfl dX3_handOver_60 ?_
      refine g_aload_n C dX3_handOver_61 rfl ?_
      refine g_get C 0 iX3_handOver_X3 rfl rfl 14 (by decide) f47 rfl dX3_handOver_62 ?_
      refine g_iload_n C dX3_handOver_65 rfl ?_
      refine g_aload_n C dX3_handOver_66 rfl ?_
      refine g_get C 0 iX3_handOver_X3 rfl rfl 18 (by decide) f129 rfl dX3_handOver_67 ?_
      refine g_iast C 13 0 rfl rfl kw rfl (by omega) (by decide) (wM cI cZ q nc nw cx cy ch rm on wx wy dm sv fv hd (upd lf kw (sv kw)) (upd la kw tk) mg pt bd tk (ho + 1) (frg lf la kw p2 tk ri) lo us gv bs ld qs mS mD th) rfl dX3_handOver_70 ?_
      refine g_aload_n C dX3_handOver_71 rfl ?_
      refine g_iload_n C dX3_handOver_72 rfl ?_
      refine g_callVv C [] (wM cI cZ q nc nw cx cy ch rm on wx wy dm sv fv hd (upd lf kw (sv kw)) (upd la kw tk) mg pt bd tk (ho + 1) (frg lf la kw p2 tk ri) lo us gv bs ld qs mS mD th) [.int (nI kw)] (t_X3_lose hw) rfl rfl (cwV 1 C.ts gX3_handOver_X3_lose rfl rfl rfl (by decide +kernel) ⟨Nat.le_of_ble_eq_true rfl, Nat.le_of_ble_eq_true rfl⟩) rfl rfl rfl (Nat.le_of_ble_eq_true rfl) dX3_handOver_73 ⟨Nat.le_of_ble_eq_true rfl, Nat.le_of_ble_eq_true rfl⟩ (fun wv3 tv3 hp3 => ?_)
      obtain ⟨rfl, rfl⟩ := hp3
      refine g_aload_n C dX3_handOver_76 rfl ?_
      refine g_get C 0 iX3_handOver_X3 rfl rfl 10 (by decide) f35 rfl dX3_handOver_77 ?_
      refine g_iload_n C dX3_handOver_80 rfl ?_
      refine g_iload_n C dX3_handOver_81 rfl ?_
      refine g_iast C 9 0 rfl rfl kw rfl (by omega) (by decide) (wM cI cZ q nc nw cx cy ch rm on wx wy dm (upd sv kw p2) (upd fv kw (-1)) (upd hd kw 0) (upd lf kw (sv kw)) (upd la kw tk) mg pt bd tk (ho + 1) (frg lf la kw p2 tk ri) lo us gv bs ld qs mS mD th) (by rw [upd_upd] <;> rfl) dX3_handOver_82 ?_
      exact g_vret C hret dX3_handOver_83 (Nat.le_of_ble_eq_true rfl) (Nat.le_of_ble_eq_true rfl) ⟨rfl, rfl⟩
theorem iX3_goOn_X3 : ∀ w ∈ u_ws RX3 TX3 30, w ∈ wsX3_goOn := by decide +kernel
set_option maxHeartbeats 1000000 in
set_option maxRecDepth 100000 in
theorem t_X3_goOn {l : Launch} {D : va_G} {cI cZ cJ cG cW : ClassId} {q : Nat → Nat} {nc nw : Nat} {cx cy ch rm on wx wy dm sv fv hd lf la : Nat → Int32} {mg pt bd tk ho ri lo : Int32} {us gv bs ld qs : Nat → Int32} {mS mD th : Int32} {kw : Nat} (h5 : nc ≤ 5) (h6 : nw ≤ 6) (hw : kw < 6) (hg : ∀ u, u < nc → ¬ dsq (cx u) (cy u) (wx kw) (wy kw) = 0) (hq : ∀ u, u < nc → ¬ 10 + fdi ch on us (sgw cx cy wx wy kw) u nc = 0) (hsv : SV nc (sv kw)) : CtV l yX3_goOn wsX3_goOn 3 73 0 0 D (T5 cI cZ cJ cG cW) [.ref (q 0), .int (nI kw)] (wM cI cZ q nc nw cx cy ch rm on wx wy dm sv fv hd lf la mg pt bd tk ho ri lo us gv bs ld qs mS mD th) (fun wv tv => wv = (wM cI cZ q nc nw cx cy ch rm on wx wy dm ((fts on dm rm nc nw (fqu cx cy ch on wx wy us nc) mg pt bd tk kw (sv, fv, hd, lf, la, ho, ri, lo)).1) ((fts on dm rm nc nw (fqu cx cy ch on wx wy us nc) mg pt bd tk kw (sv, fv, hd, lf, la, ho, ri, lo)).2.1) ((fts on dm rm nc nw (fqu cx cy ch on wx wy us nc) mg pt bd tk kw (sv, fv, hd, lf, la, ho, ri, lo)).2.2.1) ((fts on dm rm nc nw (fqu cx cy ch on wx wy us nc) mg pt bd tk kw (sv, fv, hd, lf, la, ho, ri, lo)).2.2.2.1) ((fts on dm rm nc nw (fqu cx cy ch on wx wy us nc) mg pt bd tk kw (sv, fv, hd, lf, la, ho, ri, lo)).2.2.2.2.1) mg pt bd tk ((fts on dm rm nc nw (fqu cx cy ch on wx wy us nc) mg pt bd tk kw (sv, fv, hd, lf, la, ho, ri, lo)).2.2.2.2.2.1) ((fts on dm rm nc nw (fqu cx cy ch on wx wy us nc) mg pt bd tk kw (sv, fv, hd, lf, la, ho, ri, lo)).2.2.2.2.2.2.1) ((fts on dm rm nc nw (fqu cx cy ch on wx wy us nc) mg pt bd tk kw (sv, fv, hd, lf, la, ho, ri, lo)).2.2.2.2.2.2.2) us gv bs ld qs mS mD th) ∧ tv = (T5 cI cZ cJ cG cW)) := by
  refine ctV_of (cc := cX3_goOn) (maxL := 4) RX3 2 [some (.ref (q 0)), some (.int (nI kw)), none, none] (by decide +kernel) rfl rfl (Nat.le_of_ble_eq_true rfl) rfl (fun p_ e_ s_ m_ as_ bl_ me_ co_ C hret hini => ?_)
  have f35 := C.ts (.fieldLink RX3 35 "CellPlannerModel" "serving" "[I") (by decide +kernel)
  have f38 := C.ts (.fieldLink RX3 38 "CellPlannerModel" "favourite" "[I") (by decide +kernel)
  have f41 := C.ts (.fieldLink RX3 41 "CellPlannerModel" "held" "[I") (by decide +kernel)
  have f44 := C.ts (.fieldLink RX3 44 "CellPlannerModel" "left" "[I") (by decide +kernel)
  have f50 := C.ts (.fieldLink RX3 50 "CellPlannerModel" "margin" "I") (by decide +kernel)
  have f54 := C.ts (.fieldLink RX3 54 "CellPlannerModel" "patience" "I") (by decide +kernel)
  have f57 := C.ts (.fieldLink RX3 57 "CellPlannerModel" "bound" "I") (by decide +kernel)
  have f135 := C.ts (.fieldLink RX3 135 "CellPlannerModel" "losses" "I") (by decide +kernel)
  refine g_aload_n C dX3_goOn_0 rfl ?_
  refine g_iload_n C dX3_goOn_1 rfl ?_
  refine g_callVi C [] (wM cI cZ q nc nw cx cy ch rm on wx wy dm sv fv hd lf la mg pt bd tk ho ri lo us gv bs ld qs mS mD th) [.int (nI kw)] (t_X3_better h5 h6 hw hg hq) rfl rfl (cwV 1 C.ts gX3_goOn_X3_better rfl rfl rfl (by decide +kernel) ⟨Nat.le_of_ble_eq_true rfl, Nat.le_of_ble_eq_true rfl⟩) rfl rfl rfl (Nat.le_of_ble_eq_true rfl) dX3_goOn_2 ⟨Nat.le_of_ble_eq_true rfl, Nat.le_of_ble_eq_true rfl⟩ (fun rv1 wv1 hp1 => ?_)
  obtain ⟨rfl, rfl⟩ := hp1
  refine g_istore_n C [some (.ref (q 0)), some (.int (nI kw)), some (.int (en (fbo (fun u => ftk on sv dm rm nw kw u) ((fqu cx cy ch on wx wy us nc) kw) nc))), none] dX3_goOn_5 (by decide) rfl rfl ?_
  have hb0 : ∀ z, fbo (fun u => ftk on sv dm rm nw kw u) ((fqu cx cy ch on wx wy us nc) kw) nc = some z → z < 2 ^ 31 := fun z hz => by have := fbo_lt hz; omega
  refine g_aload_n C dX3_goOn_6 rfl ?_
  refine g_get C 0 iX3_goOn_X3 rfl rfl 10 (by decide) f35 rfl dX3_goOn_7 ?_
  refine g_iload_n C dX3_goOn_10 rfl ?_
  refine g_iald C 9 0 rfl rfl kw rfl (by omega) (by decide) (sv kw) rfl dX3_goOn_11 ?_
  refine g_iconst C (-1) dX3_goOn_12 (by decide +kernel) ?_
  refine g_icmp_ne C 42 dX3_goOn_13 (by decide) (fun c_13 => ?_) (fun c_13 => ?_)
  · skip
    obtain ⟨ks, hk5, hs⟩ := hsv.resolve_left c_13
    have hs9 : (nI ks).toNatClampNeg = ks := nI_clamp (by omega)
    have hs8 : ¬ nI ks = -1 := en_m1 (by omega)
    refine g_aload_n C dX3_goOn_42 rfl ?_
    refine g_aload_n C dX3_goOn_43 rfl ?_
    refine g_get C 0 iX3_goOn_X3 rfl rfl 10 (by decide) f35 rfl dX3_goOn_44 ?_
    refine g_iload_n C dX3_goOn_47 rfl ?_
    refine g_iald C 9 0 rfl rfl kw rfl (by omega) (by decide) (sv kw) rfl dX3_goOn_48 ?_
    refine g_iload_n C dX3_goOn_49 rfl ?_
    refine g_st (st' := [.int (nI kw), .int (nI ks), .ref (q 0)]) (by rw [hs]) ?_
    refine g_callVi C [] (wM cI cZ q nc nw cx cy ch rm on wx wy dm sv fv hd lf la mg pt bd tk ho ri lo us gv bs ld qs mS mD th) [.int (nI ks), .int (nI kw)] (t_X3_qualityOf h5 hk5 hw hg (hq ks hk5)) rfl rfl (cwV 2 C.ts gX3_goOn_X3_qualityOf rfl rfl rfl (by decide +kernel) ⟨Nat.le_of_ble_eq_true rfl, Nat.le_of_ble_eq_true rfl⟩) rfl rfl rfl (Nat.le_of_ble_eq_true rfl) dX3_goOn_50 ⟨Nat.le_of_ble_eq_true rfl, Nat.le_of_ble_eq_true rfl⟩ (fun rv2 wv2 hp2 => ?_)
    obtain ⟨rfl, rfl⟩ := hp2
    refine g_istore_n C [some (.ref (q 0)), some (.int (nI kw)), some (.int (en (fbo (fun u => ftk on sv dm rm nw kw u) ((fqu cx cy ch on wx wy us nc) kw) nc))), some (.int (fqu cx cy ch on wx wy us nc kw ks))] dX3_goOn_53 (by decide) rfl rfl ?_
    refine g_iload_n C dX3_goOn_54 rfl ?_
    refine g_aload_n C dX3_goOn_55 rfl ?_
    refine g_get C 0 iX3_goOn_X3 rfl rfl 17 (by decide) f57 rfl dX3_goOn_56 ?_
    refine g_icmp_ge C 85 dX3_goOn_59 (by decide) (fun c_59 => ?_) (fun c_59 => ?_)
    · skip
      refine g_iload_n C dX3_goOn_85 rfl ?_
      refine g_iconst C (-1) dX3_goOn_86 (by decide +kernel) ?_
      refine g_icmp_eq C 105 dX3_goOn_87 (by decide) (fun c_87 => ?_) (fun c_87 => ?_)
      · skip
        have hbo : fbo (fun u => ftk on sv dm rm nw kw u) ((fqu cx cy ch on wx wy us nc) kw) nc = none := en_none hb0 c_87
        refine g_aload_n C dX3_goOn_105 rfl ?_
        refine g_get C 0 iX3_goOn_X3 rfl rfl 11 (by decide) f38 rfl dX3_goOn_106 ?_
        refine g_iload_n C dX3_goOn_109 rfl ?_
        refine g_iconst C (-1) dX3_goOn_110 (by decide +kernel) ?_
        refine g_iast C 10 0 rfl rfl kw rfl (by omega) (by decide) (wM cI cZ q nc nw cx cy ch rm on wx wy dm sv (upd fv kw ((-1))) hd lf la mg pt bd tk ho ri lo us gv bs ld qs mS mD th) rfl dX3_goOn_111 ?_
        refine g_aload_n C dX3_goOn_112 rfl ?_
        refine g_get C 0 iX3_goOn_X3 rfl rfl 12 (by decide) f41 rfl dX3_goOn_113 ?_
        refine g_iload_n C dX3_goOn_116 rfl ?_
        refine g_iconst C 0 dX3_goOn_117 (by decide +kernel) ?_
        refine g_iast C 11 0 rfl rfl kw rfl (by omega) (by decide) (wM cI cZ q nc nw cx cy ch rm on wx wy dm sv (upd fv kw ((-1))) (upd hd kw 0) lf la mg pt bd tk ho ri lo us gv bs ld qs mS mD th) rfl dX3_goOn_118 ?_
        exact g_vret C hret dX3_goOn_119 (Nat.le_of_ble_eq_true rfl) (Nat.le_of_ble_eq_true rfl) ⟨(by rw [show fts on dm rm nc nw (fqu cx cy ch on wx wy us nc) mg pt bd tk kw (sv, fv, hd, lf, la, ho, ri, lo) = (sv, upd fv kw ((-1)), upd hd kw 0, lf, la, ho, ri, lo) from (by first | (simp [fts, hs, hs8, hs9, c_59, hbo]; done) | (simp [fts, hs, hs8, hs9, c_59, hbo, c_102]; done))] <;> rfl), rfl⟩
      · skip
        obtain ⟨bb, hb⟩ := en_some c_87
        have hb2 := fbo_lt hb
        have hbo : fbo (fun u => ftk on sv dm rm nw kw u) ((fqu cx cy ch on wx wy us nc) kw) nc = some bb := hb
        refine g_lv (lv' := [some (.ref (q 0)), some (.int (nI kw)), some (.int (nI bb)), some (.int (fqu cx cy ch on wx wy us nc kw ks))]) (by rw [hb]; rfl) ?_
        refine g_aload_n C dX3_goOn_90 rfl ?_
        refine g_iload_n C dX3_goOn_91 rfl ?_
        refine g_iload_n C dX3_goOn_92 rfl ?_
        refine g_callVi C [] (wM cI cZ q nc nw cx cy ch rm on wx wy dm sv fv hd lf la mg pt bd tk ho ri lo us gv bs ld qs mS mD th) [.int (nI bb), .int (nI kw)] (t_X3_qualityOf h5 (by omega) hw hg (hq bb (by omega))) rfl rfl (cwV 2 C.ts gX3_goOn_X3_qualityOf rfl rfl rfl (by decide +kernel) ⟨Nat.le_of_ble_eq_true rfl, Nat.le_of_ble_eq_true rfl⟩) rfl rfl rfl (Nat.le_of_ble_eq_true rfl) dX3_goOn_93 ⟨Nat.le_of_ble_eq_true rfl, Nat.le_of_ble_eq_true rfl⟩ (fun rv3 wv3 hp3 => ?_)
        obtain ⟨rfl, rfl⟩ := hp3
        refine g_iload_n C dX3_goOn_96 rfl ?_
        refine g_aload_n C dX3_goOn_97 rfl ?_
        refine g_get C 0 iX3_goOn_X3 rfl rfl 15 (by decide) f50 rfl dX3_goOn_98 ?_
        refine g_iadd C ((fqu cx cy ch on wx wy us nc kw ks) + mg) dX3_goOn_101 rfl ?_
        refine g_icmp_ge C 120 dX3_goOn_102 (by decide) (fun c_102 => ?_) (fun c_102 => ?_)
        · skip
          refine g_aload_n C dX3_goOn_120 rfl ?_
          refine g_get C 0 iX3_goOn_X3 rfl rfl 12 (by decide) f41 rfl dX3_goOn_121 ?_
          refine g_iload_n C dX3_goOn_124 rfl ?_
          refine g_aload_n C dX3_goOn_125 rfl ?_
          refine g_get C 0 iX3_goOn_X3 rfl rfl 11 (by decide) f38 rfl dX3_goOn_126 ?_
          refine g_iload_n C dX3_goOn_129 rfl ?_
          refine g_iald C 10 0 rfl rfl kw rfl (by omega) (by decide) (fv kw) rfl dX3_goOn_130 ?_
          refine g_iload_n C dX3_goOn_131 rfl ?_
          refine g_icmp_ne C 146 dX3_goOn_132 (by decide) (fun c_132 => ?_) (fun c_132 => ?_)
          · skip
            refine g_iconst C 1 dX3_goOn_146 (by decide +kernel) ?_
            refine g_iast C 11 0 rfl rfl kw rfl hw (by decide) (wM cI cZ q nc nw cx cy ch rm on wx wy dm sv fv (upd hd kw 1) lf la mg pt bd tk ho ri lo us gv bs ld qs mS mD th) rfl dX3_goOn_147 ?_
            refine g_aload_n C dX3_goOn_148 rfl ?_
            refine g_get C 0 iX3_goOn_X3 rfl rfl 11 (by decide) f38 rfl dX3_goOn_149 ?_
            refine g_iload_n C dX3_goOn_152 rfl ?_
            refine g_iload_n C dX3_goOn_153 rfl ?_
            refine g_iast C 10 0 rfl rfl kw rfl (by omega) (by decide) (wM cI cZ q nc nw cx cy ch rm on wx wy dm sv (upd fv kw (nI bb)) (upd hd kw 1) lf la mg pt bd tk ho ri lo us gv bs ld qs mS mD th) rfl dX3_goOn_154 ?_
            refine g_aload_n C dX3_goOn_155 rfl ?_
            refine g_get C 0 iX3_goOn_X3 rfl rfl 12 (by decide) f41 rfl dX3_goOn_156 ?_
            refine g_iload_n C dX3_goOn_159 rfl ?_
            refine g_iald C 11 0 rfl rfl kw rfl hw (by decide) 1 upd_at dX3_goOn_160 ?_
            refine g_aload_n C dX3_goOn_161 rfl ?_
            refine g_get C 0 iX3_goOn_X3 rfl rfl 16 (by decide) f54 rfl dX3_goOn_162 ?_
            refine g_icmp_lt C 174 dX3_goOn_165 (by decide) (fun c_165 => ?_) (fun c_165 => ?_)
            · skip
              exact g_vret C hret dX3_goOn_174 (Nat.le_of_ble_eq_true rfl) (Nat.le_of_ble_eq_true rfl) ⟨(by rw [show fts on dm rm nc nw (fqu cx cy ch on wx wy us nc) mg pt bd tk kw (sv, fv, hd, lf, la, ho, ri, lo) = (sv, upd fv kw (nI bb), upd hd kw 1, lf, la, ho, ri, lo) from (by simp [fts, hs, hs8, hs9, c_59, hbo, c_102, (show fhe fv hd kw bb = 1 from (by simp [fhe, eq_comm, c_132])), c_165, upd_upd])] <;> rfl), rfl⟩
            · skip
              refine g_aload_n C dX3_goOn_168 rfl ?_
              refine g_iload_n C dX3_goOn_169 rfl ?_
              refine g_iload_n C dX3_goOn_170 rfl ?_
              refine g_callVv C [] (wM cI cZ q nc nw cx cy ch rm on wx wy dm sv (upd fv kw (nI bb)) (upd hd kw 1) lf la mg pt bd tk ho ri lo us gv bs ld qs mS mD th) [.int (nI kw), .int (nI bb)] (t_X3_handOver hw) rfl rfl (cwV 2 C.ts gX3_goOn_X3_handOver rfl rfl rfl (by decide +kernel) ⟨Nat.le_of_ble_eq_true rfl, Nat.le_of_ble_eq_true rfl⟩) rfl rfl rfl (Nat.le_of_ble_eq_true rfl) dX3_goOn_171 ⟨Nat.le_of_ble_eq_true rfl, Nat.le_of_ble_eq_true rfl⟩ (fun wv4 tv4 hp4 => ?_)
              obtain ⟨rfl, rfl⟩ := hp4
              exact g_vret C hret dX3_goOn_174 (Nat.le_of_ble_eq_true rfl) (Nat.le_of_ble_eq_true rfl) ⟨(by rw [show fts on dm rm nc nw (fqu cx cy ch on wx wy us nc) mg pt bd tk kw (sv, fv, hd, lf, la, ho, ri, lo) = (upd sv kw (nI bb), upd (upd fv kw (nI bb)) kw (-1), upd (upd hd kw 1) kw 0, upd lf kw (sv kw), upd la kw tk, ho + 1, frg lf la kw (nI bb) tk ri, lo) from (by simp [fts, hs, hs8, hs9, c_59, hbo, c_102, (show fhe fv hd kw bb = 1 from (by simp [fhe, eq_comm, c_132])), c_165, upd_upd])] <;> rfl), rfl⟩
          · skip
            refine g_aload_n C dX3_goOn_135 rfl ?_
            refine g_get C 0 iX3_goOn_X3 rfl rfl 12 (by decide) f41 rfl dX3_goOn_136 ?_
            refine g_iload_n C dX3_goOn_139 rfl ?_
            refine g_iald C 11 0 rfl rfl kw rfl (by omega) (by decide) (hd kw) rfl dX3_goOn_140 ?_
            refine g_iconst C 1 dX3_goOn_141 (by decide +kernel) ?_
            refine g_iadd C ((hd kw) + 1) dX3_goOn_142 rfl ?_
            refine g_goto C 147 dX3_goOn_143 (by decide) ?_
            refine g_iast C 11 0 rfl rfl kw rfl hw (by decide) (wM cI cZ q nc nw cx cy ch rm on wx wy dm sv fv (upd hd kw ((hd kw) + 1)) lf la mg pt bd tk ho ri lo us gv bs ld qs mS mD th) rfl dX3_goOn_147 ?_
            refine g_aload_n C dX3_goOn_148 rfl ?_
            refine g_get C 0 iX3_goOn_X3 rfl rfl 11 (by decide) f38 rfl dX3_goOn_149 ?_
            refine g_iload_n C dX3_goOn_152 rfl ?_
            refine g_iload_n C dX3_goOn_153 rfl ?_
            refine g_iast C 10 0 rfl rfl kw rfl (by omega) (by decide) (wM cI cZ q nc nw cx cy ch rm on wx wy dm sv (upd fv kw (nI bb)) (upd hd kw ((hd kw) + 1)) lf la mg pt bd tk ho ri lo us gv bs ld qs mS mD th) rfl dX3_goOn_154 ?_
            refine g_aload_n C dX3_goOn_155 rfl ?_
            refine g_get C 0 iX3_goOn_X3 rfl rfl 12 (by decide) f41 rfl dX3_goOn_156 ?_
            refine g_iload_n C dX3_goOn_159 rfl ?_
            refine g_iald C 11 0 rfl rfl kw rfl hw (by decide) ((hd kw) + 1) upd_at dX3_goOn_160 ?_
            refine g_aload_n C dX3_goOn_161 rfl ?_
            refine g_get C 0 iX3_goOn_X3 rfl rfl 16 (by decide) f54 rfl dX3_goOn_162 ?_
            refine g_icmp_lt C 174 dX3_goOn_165 (by decide) (fun c_165 => ?_) (fun c_165 => ?_)
            · skip
              exact g_vret C hret dX3_goOn_174 (Nat.le_of_ble_eq_true rfl) (Nat.le_of_ble_eq_true rfl) ⟨(by rw [show fts on dm rm nc nw (fqu cx cy ch on wx wy us nc) mg pt bd tk kw (sv, fv, hd, lf, la, ho, ri, lo) = (sv, upd fv kw (nI bb), upd hd kw ((hd kw) + 1), lf, la, ho, ri, lo) from (by simp [fts, hs, hs8, hs9, c_59, hbo, c_102, (show fhe fv hd kw bb = (hd kw) + 1 from (by simp [fhe, eq_comm, c_132])), c_165, upd_upd])] <;> rfl), rfl⟩
            · skip
              refine g_aload_n C dX3_goOn_168 rfl ?_
              refine g_iload_n C dX3_goOn_169 rfl ?_
              refine g_iload_n C dX3_goOn_170 rfl ?_
              refine g_callVv C [] (wM cI cZ q nc nw cx cy ch rm on wx wy dm sv (upd fv kw (nI bb)) (upd hd kw ((hd kw) + 1)) lf la mg pt bd tk ho ri lo us gv bs ld qs mS mD th) [.int (nI kw), .int (nI bb)] (t_X3_handOver hw) rfl rfl (cwV 2 C.ts gX3_goOn_X3_handOver rfl rfl rfl (by decide +kernel) ⟨Nat.le_of_ble_eq_true rfl, Nat.le_of_ble_eq_true rfl⟩) rfl rfl rfl (Nat.le_of_ble_eq_true rfl) dX3_goOn_171 ⟨Nat.le_of_ble_eq_true rfl, Nat.le_of_ble_eq_true rfl⟩ (fun wv5 tv5 hp5 => ?_)
              obtain ⟨rfl, rfl⟩ := hp5
              exact g_vret C hret dX3_goOn_174 (Nat.le_of_ble_eq_true rfl) (Nat.le_of_ble_eq_true rfl) ⟨(by rw [show fts on dm rm nc nw (fqu cx cy ch on wx wy us nc) mg pt bd tk kw (sv, fv, hd, lf, la, ho, ri, lo) = (upd sv kw (nI bb), upd (upd fv kw (nI bb)) kw (-1), upd (upd hd kw ((hd kw) + 1)) kw 0, upd lf kw (sv kw), upd la kw tk, ho + 1, frg lf la kw (nI bb) tk ri, lo) from (by simp [fts, hs, hs8, hs9, c_59, hbo, c_102, (show fhe fv hd kw bb = (hd kw) + 1 from (by simp [fhe, eq_comm, c_132])), c_165, upd_upd])] <;> rfl), rfl⟩
        · skip
          refine g_aload_n C dX3_goOn_105 rfl ?_
          refine g_get C 0 iX3_goOn_X3 rfl rfl 11 (by decide) f38 rfl dX3_goOn_106 ?_
          refine g_iload_n C dX3_goOn_109 rfl ?_
          refine g_iconst C (-1) dX3_goOn_110 (by decide +kernel) ?_
          refine g_iast C 10 0 rfl rfl kw rfl (by omega) (by decide) (wM cI cZ q nc nw cx cy ch rm on wx wy dm sv (upd fv kw ((-1))) hd lf la mg pt bd tk ho ri lo us gv bs ld qs mS mD th) rfl dX3_goOn_111 ?_
          refine g_aload_n C dX3_goOn_112 rfl ?_
          refine g_get C 0 iX3_goOn_X3 rfl rfl 12 (by decide) f41 rfl dX3_goOn_113 ?_
          refine g_iload_n C dX3_goOn_116 rfl ?_
          refine g_iconst C 0 dX3_goOn_117 (by decide +kernel) ?_
          refine g_iast C 11 0 rfl rfl kw rfl (by omega) (by decide) (wM cI cZ q nc nw cx cy ch rm on wx wy dm sv (upd fv kw ((-1))) (upd hd kw 0) lf la mg pt bd tk ho ri lo us gv bs ld qs mS mD th) rfl dX3_goOn_118 ?_
          exact g_vret C hret dX3_goOn_119 (Nat.le_of_ble_eq_true rfl) (Nat.le_of_ble_eq_true rfl) ⟨(by rw [show fts on dm rm nc nw (fqu cx cy ch on wx wy us nc) mg pt bd tk kw (sv, fv, hd, lf, la, ho, ri, lo) = (sv, upd fv kw ((-1)), upd hd kw 0, lf, la, ho, ri, lo) from (by first | (simp [fts, hs, hs8, hs9, c_59, hbo]; done) | (simp [fts, hs, hs8, hs9, c_59, hbo, c_102]; done))] <;> rfl), rfl⟩
    · skip
      refine g_aload_n C dX3_goOn_62 rfl ?_
      refine g_iload_n C dX3_goOn_63 rfl ?_
      refine g_callVv C [] (wM cI cZ q nc nw cx cy ch rm on wx wy dm sv fv hd lf la mg pt bd tk ho ri lo us gv bs ld qs mS mD th) [.int (nI kw)] (t_X3_lose hw) rfl rfl (cwV 1 C.ts gX3_goOn_X3_lose rfl rfl rfl (by decide +kernel) ⟨Nat.le_of_ble_eq_true rfl, Nat.le_of_ble_eq_true rfl⟩) rfl rfl rfl (Nat.le_of_ble_eq_true rfl) dX3_goOn_64 ⟨Nat.le_of_ble_eq_true rfl, Nat.le_of_ble_eq_true rfl⟩ (fun wv6 tv6 hp6 => ?_)
      obtain ⟨rfl, rfl⟩ := hp6
      refine g_aload_n C dX3_goOn_67 rfl ?_
      refine g_get C 0 iX3_goOn_X3 rfl rfl 13 (by decide) f44 rfl dX3_goOn_68 ?_
      refine g_iload_n C dX3_goOn_71 rfl ?_
      refine g_iconst C (-1) dX3_goOn_72 (by decide +kernel) ?_
      refine g_iast C 12 0 rfl rfl kw rfl (by omega) (by decide) (wM cI cZ q nc nw cx cy ch rm on wx wy dm (upd sv kw (-1)) (upd fv kw (-1)) (upd hd kw 0) (upd lf kw ((-1))) la mg pt bd tk ho ri lo us gv bs ld qs mS mD th) rfl dX3_goOn_73 ?_
      refine g_aload_n C dX3_goOn_74 rfl ?_
      refine g_dup C dX3_goOn_75 rfl ?_
      refine g_get C 0 iX3_goOn_X3 rfl rfl 21 (by decide) f135 rfl dX3_goOn_76 ?_
      refine g_iconst C 1 dX3_goOn_79 (by decide +kernel) ?_
      refine g_iadd C (lo + 1) dX3_goOn_80 rfl ?_
      refine g_put C 0 iX3_goOn_X3 rfl rfl 21 (by decide) f135 rfl tyX3 tyX3_ok nmX3 (ty := .int) (by decide +kernel) rfl rfl (Nat.le_of_ble_eq_true rfl) (wM cI cZ q nc nw cx cy ch rm on wx wy dm (upd sv kw (-1)) (upd fv kw (-1)) (upd hd kw 0) (upd lf kw ((-1))) la mg pt bd tk ho ri (lo + 1) us gv bs ld qs mS mD th) rfl dX3_goOn_81 ?_
      exact g_vret C hret dX3_goOn_84 (Nat.le_of_ble_eq_true rfl) (Nat.le_of_ble_eq_true rfl) ⟨(by rw [show fts on dm rm nc nw (fqu cx cy ch on wx wy us nc) mg pt bd tk kw (sv, fv, hd, lf, la, ho, ri, lo) = (upd sv kw (-1), upd fv kw (-1), upd hd kw 0, upd lf kw ((-1)), la, ho, ri, lo + 1) from (by simp [fts, hs, hs8, hs9, c_59])] <;> rfl), rfl⟩
  · skip
    refine g_iload_n C dX3_goOn_16 rfl ?_
    refine g_iconst C (-1) dX3_goOn_17 (by decide +kernel) ?_
    refine g_icmp_eq C 41 dX3_goOn_18 (by decide) (fun c_18 => ?_) (fun c_18 => ?_)
    · skip
      have hbo : fbo (fun u => ftk on sv dm rm nw kw u) ((fqu cx cy ch on wx wy us nc) kw) nc = none := en_none hb0 c_18
      exact g_vret C hret dX3_goOn_41 (Nat.le_of_ble_eq_true rfl) (Nat.le_of_ble_eq_true rfl) ⟨(by rw [show fts on dm rm nc nw (fqu cx cy ch on wx wy us nc) mg pt bd tk kw (sv, fv, hd, lf, la, ho, ri, lo) = (sv, fv, hd, lf, la, ho, ri, lo) from (by first | (simp [fts, c_13, hbo]; done) | (simp [fts, c_13, hbo, c_31]; done))] <;> rfl), rfl⟩
    · skip
      obtain ⟨bb, hb⟩ := en_some c_18
      have hb2 := fbo_lt hb
      have hbo : fbo (fun u => ftk on sv dm rm nw kw u) ((fqu cx cy ch on wx wy us nc) kw) nc = some bb := hb
      refine g_lv (lv' := [some (.ref (q 0)), some (.int (nI kw)), some (.int (nI bb)), none]) (by rw [hb]; rfl) ?_
      refine g_aload_n C dX3_goOn_21 rfl ?_
      refine g_iload_n C dX3_goOn_22 rfl ?_
      refine g_iload_n C dX3_goOn_23 rfl ?_
      refine g_callVi C [] (wM cI cZ q nc nw cx cy ch rm on wx wy dm sv fv hd lf la mg pt bd tk ho ri lo us gv bs ld qs mS mD th) [.int (nI bb), .int (nI kw)] (t_X3_qualityOf h5 (by omega) hw hg (hq bb (by omega))) rfl rfl (cwV 2 C.ts gX3_goOn_X3_qualityOf rfl rfl rfl (by decide +kernel) ⟨Nat.le_of_ble_eq_true rfl, Nat.le_of_ble_eq_true rfl⟩) rfl rfl rfl (Nat.le_of_ble_eq_true rfl) dX3_goOn_24 ⟨Nat.le_of_ble_eq_true rfl, Nat.le_of_ble_eq_true rfl⟩ (fun rv7 wv7 hp7 => ?_)
      obtain ⟨rfl, rfl⟩ := hp7
      refine g_aload_n C dX3_goOn_27 rfl ?_
      refine g_get C 0 iX3_goOn_X3 rfl rfl 17 (by decide) f57 rfl dX3_goOn_28 ?_
      refine g_icmp_lt C 41 dX3_goOn_31 (by decide) (fun c_31 => ?_) (fun c_31 => ?_)
      · skip
        exact g_vret C hret dX3_goOn_41 (Nat.le_of_ble_eq_true rfl) (Nat.le_of_ble_eq_true rfl) ⟨(by rw [show fts on dm rm nc nw (fqu cx cy ch on wx wy us nc) mg pt bd tk kw (sv, fv, hd, lf, la, ho, ri, lo) = (sv, fv, hd, lf, la, ho, ri, lo) from (by first | (simp [fts, c_13, hbo]; done) | (simp [fts, c_13, hbo, c_31]; done))] <;> rfl), rfl⟩
      · skip
        refine g_aload_n C dX3_goOn_34 rfl ?_
        refine g_get C 0 iX3_goOn_X3 rfl rfl 10 (by decide) f35 rfl dX3_goOn_35 ?_
        refine g_iload_n C dX3_goOn_38 rfl ?_
        refine g_iload_n C dX3_goOn_39 rfl ?_
        refine g_iast C 9 0 rfl rfl kw rfl (by omega) (by decide) (wM cI cZ q nc nw cx cy ch rm on wx wy dm (upd sv kw (nI bb)) fv hd lf la mg pt bd tk ho ri lo us gv bs ld qs mS mD th) rfl dX3_goOn_40 ?_
        exact g_vret C hret dX3_goOn_41 (Nat.le_of_ble_eq_true rfl) (Nat.le_of_ble_eq_true rfl) ⟨(by rw [show fts on dm rm nc nw (fqu cx cy ch on wx wy us nc) mg pt bd tk kw (sv, fv, hd, lf, la, ho, ri, lo) = (upd sv kw (nI bb), fv, hd, lf, la, ho, ri, lo) from (by simp [fts, c_13, hbo, c_31])] <;> rfl), rfl⟩
