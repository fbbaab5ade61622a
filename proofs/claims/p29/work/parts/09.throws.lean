/-! CellPlanner, what may throw -/
def rng (x : Int64) (a b : Int32) : Prop := a.toInt64 ≤ x ∧ x ≤ b.toInt64
theorem rng_yes {x : Int64} {a b : Int32} (h1 : ¬ lg_cmp x a.toInt64 < 0) (h2 : lg_cmp x b.toInt64 ≤ 0) : rng x a b := ⟨Int64.not_lt.mp (fun h => h1 ((lg_cmp_lt _ _).mpr h)), (lg_cmp_le _ _).mp h2⟩
theorem rng_no1 {x : Int64} {a b : Int32} (h1 : lg_cmp x a.toInt64 < 0) : ¬ rng x a b := fun h => Int64.not_lt.mpr h.1 ((lg_cmp_lt _ _).mp h1)
theorem rng_no2 {x : Int64} {a b : Int32} (h1 : ¬ lg_cmp x b.toInt64 ≤ 0) : ¬ rng x a b := fun h => h1 ((lg_cmp_le _ _).mpr h.2)
theorem rng_i {x a b : Int32} : rng x.toInt64 a b ↔ a ≤ x ∧ x ≤ b := by
  unfold rng
  rw [Int64.le_iff_toInt_le, Int64.le_iff_toInt_le, Int32.le_iff_toInt_le, Int32.le_iff_toInt_le, Int32.toInt_toInt64, Int32.toInt_toInt64, Int32.toInt_toInt64]
def inC (x y c r : Int32) : Prop := (0 ≤ x ∧ x ≤ 63) ∧ (0 ≤ y ∧ y ≤ 63) ∧ (0 ≤ c ∧ c ≤ 2) ∧ (1 ≤ r ∧ r ≤ 40)
def inW (x y d : Int32) : Prop := (0 ≤ x ∧ x ≤ 63) ∧ (0 ≤ y ∧ y ≤ 63) ∧ (1 ≤ d ∧ d ≤ 10)
/-- a number of the first n -/
def IC (n : Nat) (x : Int32) : Prop := ∃ k, k < n ∧ x = nI k
theorem IC_yes {n : Nat} {x : Int32} (hn : n < 2 ^ 31) (h0 : ¬ x < 0) (h : x < nI n) : IC n x := by
  obtain ⟨j, hj, rfl⟩ := nI_of h0
  exact ⟨j, (nI_ltI hj hn).mp h, rfl⟩
theorem IC_no1 {n : Nat} {x : Int32} (h0 : x < 0) (hn : n < 2 ^ 31 := by omega) : ¬ IC n x := fun ⟨k, hk, e⟩ => nI_pos (show k < 2 ^ 31 by omega) (e ▸ h0)
theorem IC_no2 {n : Nat} {x : Int32} (hn : n < 2 ^ 31) (h : ¬ x < nI n) : ¬ IC n x := fun ⟨k, hk, e⟩ => h (e ▸ nI_lt hk hn)
theorem tick_T {x : Int32} (h : 1 ≤ x ∧ x ≤ 20) : ∃ T, T ≤ 20 ∧ x = nI T := by
  have h0 : ¬ x < 0 := by
    intro h1
    rw [Int32.lt_iff_toInt_lt] at h1
    have h2 := Int32.le_iff_toInt_le.mp h.1
    have e1 : (1 : Int32).toInt = 1 := by decide
    have e0 : (0 : Int32).toInt = 0 := by decide
    omega
  exact nI_of2 (M := 20) (n := 20) (by decide) h0 h.2
def mvx (f : Nat → Int32) (p d : Int32) : Int64 := (f p.toNatClampNeg).toInt64 + d.toInt64
/-- on becomes off, and off on -/
def ftn (x : Int32) : Int32 := if x = 0 then 1 else 0
/-- the state that ticks change: ticks, uses and qualities measured, and the walkers' -/
abbrev PS : Type := Int32 × (Nat → Int32) × (Nat → Nat → Int32) × TS
def fpt (cx cy ch on wx wy rm dm : Nat → Int32) (nc nw : Nat) (mg pt bd : Int32) (x : PS) : PS :=
  (x.1 + 1, fil nc (fus rm x.2.2.2.1 dm nw) x.2.1, fil2 nw nc (fun w c => fqu cx cy ch on wx wy (fil nc (fus rm x.2.2.2.1 dm nw) x.2.1) nc w c) x.2.2.1,
    ftw on dm rm nc nw (fil2 nw nc (fun w c => fqu cx cy ch on wx wy (fil nc (fus rm x.2.2.2.1 dm nw) x.2.1) nc w c) x.2.2.1) mg pt bd (x.1 + 1) x.2.2.2 nw)
def fti (cx cy ch on wx wy rm dm : Nat → Int32) (nc nw : Nat) (mg pt bd : Int32) (x : PS) : Nat → PS
  | 0 => x
  | n + 1 => fpt cx cy ch on wx wy rm dm nc nw mg pt bd (fti cx cy ch on wx wy rm dm nc nw mg pt bd x n)
/-- no quality's divisor is 0, whoever is served by whom -/
def GQ (nc nw : Nat) (cx cy ch on wx wy rm dm : Nat → Int32) : Prop := ∀ (S M : Nat → Int32) (c w : Nat), c < nc → w < nw → ¬ 10 + fdi ch on (fil nc (fus rm S dm nw) M) (sgw cx cy wx wy w) c nc = 0
theorem ftw_sv {on dm rm : Nat → Int32} {nc nw : Nat} {Q : Nat → Nat → Int32} {mg pt bd tk : Int32} {z : TS} {P : Nat → Prop} : ∀ (n : Nat), (∀ j, P j → SV nc (z.1 j)) → ∀ j, P j → SV nc ((ftw on dm rm nc nw Q mg pt bd tk z n).1 j)
  | 0, h => h
  | n + 1, h => fts_sv (ftw_sv n h)
theorem hatX2_requireRange_xIA : ∀ w ∈ (vx_atS RX2 148 xIA ["java/lang/RuntimeException", "java/lang/Exception"]).filter goodWord, w ∈ wsX2_requireRange := by decide +kernel
theorem hgdX2_requireRange_xIA : ∀ w ∈ Cond.classLink RX2 144 xIA :: Cond.initialized xIA :: vx_atS RX2 148 xIA ["java/lang/RuntimeException", "java/lang/Exception"], vx_ot w = true := by decide +kernel
set_option maxHeartbeats 1000000 in
set_option maxRecDepth 100000 in
/-- a value in its range, or else -/
theorem t_X2_requireRange {l : Launch} (hl0 : l.stackTraces = false) {D : va_G} {cI cZ cJ cG cW : ClassId} {p0 : Int64} {p1 p2 : Int32}  : CxV l yX2_requireRange wsX2_requireRange 6 90 2 12 D (T5 cI cZ cJ cG cW) [.long p0, .int p1, .int p2] [] (fun wv tv => rng p0 p1 p2 ∧ wv = [] ∧ tv = (T5 cI cZ cJ cG cW)) (fun Ev => ¬ rng p0 p1 p2 ∧ Ev = xIA) := by
  refine cxV_of (cc := cX2_requireRange) (maxL := 4) RX2 0 [some (.long p0), none, some (.int p1), some (.int p2)] (by decide +kernel) rfl rfl (Nat.le_of_ble_eq_true rfl) rfl (fun p_ e_ s_ m_ as_ bl_ me_ co_ C hret hE hX => ?_)
  refine g_lload_n C dX2_requireRange_0 rfl ?_
  refine g_iload_n C dX2_requireRange_1 rfl ?_
  refine g_i2l C p1.toInt64 dX2_requireRange_2 rfl ?_
  refine g_lcmp C dX2_requireRange_3 ?_
  refine g_if_lt C 14 dX2_requireRange_4 (by decide) (fun c_4 => ?_) (fun c_4 => ?_)
  · skip
    obtain ⟨sa9, hstr9⟩ := hX.1.2.2.2.1
    exact gx_throwV C hl0 hE hX hstr9 hX.1.1.1 (by decide +kernel) (by decide +kernel) (by decide +kernel) hatX2_requireRange_xIA at2_xIA hgdX2_requireRange_xIA dX2_requireRange_14 dX2_requireRange_17 dX2_requireRange_18 dX2_requireRange_20 dX2_requireRange_23 rfl (Nat.le_of_ble_eq_true rfl) (Nat.le_of_ble_eq_true rfl) (Nat.le_of_ble_eq_true rfl) (Nat.le_of_ble_eq_true rfl) (Nat.le_of_ble_eq_true rfl) (Nat.le_of_ble_eq_true rfl) (Nat.le_of_ble_eq_true rfl) ⟨by first | exact rng_no1 c_4 | exact rng_no2 c_11, rfl⟩
  · skip
    refine g_lload_n C dX2_requireRange_7 rfl ?_
    refine g_iload_n C dX2_requireRange_8 rfl ?_
    refine g_i2l C p2.toInt64 dX2_requireRange_9 rfl ?_
    refine g_lcmp C dX2_requireRange_10 ?_
    refine g_if_le C 24 dX2_requireRange_11 (by decide) (fun c_11 => ?_) (fun c_11 => ?_)
    · skip
      exact gx_V (g_vret C hret dX2_requireRange_24 (Nat.le_of_ble_eq_true rfl) (Nat.le_of_ble_eq_true rfl) ⟨(rng_yes c_4 c_11), rfl, rfl⟩)
    · skip
      obtain ⟨sa9, hstr9⟩ := hX.1.2.2.2.1
      exact gx_throwV C hl0 hE hX hstr9 hX.1.1.1 (by decide +kernel) (by decide +kernel) (by decide +kernel) hatX2_requireRange_xIA at2_xIA hgdX2_requireRange_xIA dX2_requireRange_14 dX2_requireRange_17 dX2_requireRange_18 dX2_requireRange_20 dX2_requireRange_23 rfl (Nat.le_of_ble_eq_true rfl) (Nat.le_of_ble_eq_true rfl) (Nat.le_of_ble_eq_true rfl) (Nat.le_of_ble_eq_true rfl) (Nat.le_of_ble_eq_true rfl) (Nat.le_of_ble_eq_true rfl) (Nat.le_of_ble_eq_true rfl) ⟨by first | exact rng_no1 c_4 | exact rng_no2 c_11, rfl⟩
theorem iX2_requireCell_X0 : ∀ w ∈ u_ws RX0 TX0 13, w ∈ wsX2_requireCell := by decide +kernel
theorem iX2_requireCell_X2 : ∀ w ∈ u_ws RX2 TX2 13, w ∈ wsX2_requireCell := by decide +kernel
theorem hatX2_requireCell_xIB : ∀ w ∈ (vx_atS RX2 153 xIB ["java/lang/RuntimeException", "java/lang/Exception"]).filter goodWord, w ∈ wsX2_requireCell := by decide +kernel
theorem hgdX2_requireCell_xIB : ∀ w ∈ Cond.classLink RX2 149 xIB :: Cond.initialized xIB :: vx_atS RX2 153 xIB ["java/lang/RuntimeException", "java/lang/Exception"], vx_ot w = true := by decide +kernel
set_option maxHeartbeats 1000000 in
set_option maxRecDepth 100000 in
theorem t_X2_requireCell {l : Launch} (hl0 : l.stackTraces = false) {D : va_G} {cI cZ cJ cG cW : ClassId} {a b d : Nat → Nat} {mg pt bd tk ho ri lo : Int32} {fv hd lf la : Nat → Int32} {r2 : Nat → Nat} {hp rl cn be : Nat → Int32} {bw : Int32} {wo : Nat → Nat → Int32} {r : Nat → Nat} {nc nw : Nat} {cx cy ch rm on wx wy dm sv mu : Nat → Int32} {qq : Nat → Nat → Int32} {p1 : Int32} (h5 : nc ≤ 5) : CxV l yX2_requireCell wsX2_requireCell 6 90 2 12 D (T5 cI cZ cJ cG cW) [.ref (d 0), .int p1] ((wCo cI a b d mg pt bd tk ho ri lo fv hd lf la ++ wSo cI cW a b r2 hp rl cn be bw wo) ++ wL cI cZ cG a r nc nw cx cy ch rm on wx wy dm sv mu qq) (fun wv tv => IC nc p1 ∧ wv = ((wCo cI a b d mg pt bd tk ho ri lo fv hd lf la ++ wSo cI cW a b r2 hp rl cn be bw wo) ++ wL cI cZ cG a r nc nw cx cy ch rm on wx wy dm sv mu qq) ∧ tv = (T5 cI cZ cJ cG cW)) (fun Ev => ¬ IC nc p1 ∧ Ev = xIB) := by
  refine cxV_of (cc := cX2_requireCell) (maxL := 2) RX2 0 [some (.ref (d 0)), some (.int p1)] (by decide +kernel) rfl rfl (Nat.le_of_ble_eq_true rfl) rfl (fun p_ e_ s_ m_ as_ bl_ me_ co_ C hret hE hX => ?_)
  have f10 := C.ts (.fieldLink RX2 10 "CellPlanner" "land" "LCellPlanner$Land;") (by decide +kernel)
  have f52 := C.ts (.fieldLink RX2 52 "CellPlanner$Land" "cells" "I") (by decide +kernel)
  refine g_iload_n C dX2_requireCell_0 rfl ?_
  refine g_if_lt C 15 dX2_requireCell_1 (by decide) (fun c_1 => ?_) (fun c_1 => ?_)
  · skip
    obtain ⟨sa9, hstr9⟩ := hX.1.2.2.2.2.2.1
    exact gx_throwV C hl0 hE hX hstr9 hX.1.1.2.2 (by decide +kernel) (by decide +kernel) (by decide +kernel) hatX2_requireCell_xIB at2_xIB hgdX2_requireCell_xIB dX2_requireCell_15 dX2_requireCell_18 dX2_requireCell_19 dX2_requireCell_21 dX2_requireCell_24 rfl (Nat.le_of_ble_eq_true rfl) (Nat.le_of_ble_eq_true rfl) (Nat.le_of_ble_eq_true rfl) (Nat.le_of_ble_eq_true rfl) (Nat.le_of_ble_eq_true rfl) (Nat.le_of_ble_eq_true rfl) (Nat.le_of_ble_eq_true rfl) ⟨by first | exact IC_no1 c_1 | exact IC_no2 (by omega) c_12, rfl⟩
  · skip
    refine g_iload_n C dX2_requireCell_4 rfl ?_
    refine g_aload_n C dX2_requireCell_5 rfl ?_
    refine g_get C 0 iX2_requireCell_X2 rfl rfl 0 (by decide) f10 rfl dX2_requireCell_6 ?_
    refine g_get C 17 iX2_requireCell_X0 rfl rfl 5 (by decide) f52 rfl dX2_requireCell_9 ?_
    refine g_icmp_lt C 25 dX2_requireCell_12 (by decide) (fun c_12 => ?_) (fun c_12 => ?_)
    · skip
      exact gx_V (g_vret C hret dX2_requireCell_25 (Nat.le_of_ble_eq_true rfl) (Nat.le_of_ble_eq_true rfl) ⟨(IC_yes (by omega) c_1 c_12), rfl, rfl⟩)
    · skip
      obtain ⟨sa9, hstr9⟩ := hX.1.2.2.2.2.2.1
      exact gx_throwV C hl0 hE hX hstr9 hX.1.1.2.2 (by decide +kernel) (by decide +kernel) (by decide +kernel) hatX2_requireCell_xIB at2_xIB hgdX2_requireCell_xIB dX2_requireCell_15 dX2_requireCell_18 dX2_requireCell_19 dX2_requireCell_21 dX2_requireCell_24 rfl (Nat.le_of_ble_eq_true rfl) (Nat.le_of_ble_eq_true rfl) (Nat.le_of_ble_eq_true rfl) (Nat.le_of_ble_eq_true rfl) (Nat.le_of_ble_eq_true rfl) (Nat.le_of_ble_eq_true rfl) (Nat.le_of_ble_eq_true rfl) ⟨by first | exact IC_no1 c_1 | exact IC_no2 (by omega) c_12, rfl⟩
theorem iX2_requireWalker_X0 : ∀ w ∈ u_ws RX0 TX0 13, w ∈ wsX2_requireWalker := by decide +kernel
theorem iX2_requireWalker_X2 : ∀ w ∈ u_ws RX2 TX2 13, w ∈ wsX2_requireWalker := by decide +kernel
theorem hatX2_requireWalker_xIB : ∀ w ∈ (vx_atS RX2 153 xIB ["java/lang/RuntimeException", "java/lang/Exception"]).filter goodWord, w ∈ wsX2_requireWalker := by decide +kernel
theorem hgdX2_requireWalker_xIB : ∀ w ∈ Cond.classLink RX2 149 xIB :: Cond.initialized xIB :: vx_atS RX2 153 xIB ["java/lang/RuntimeException", "java/lang/Exception"], vx_ot w = true := by decide +kernel
set_option maxHeartbeats 1000000 in
set_option maxRecDepth 100000 in
theorem t_X2_requireWalker {l : Launch} (hl0 : l.stackTraces = false) {D : va_G} {cI cZ cJ cG cW : ClassId} {a b d : Nat → Nat} {mg pt bd tk ho ri lo : Int32} {fv hd lf la : Nat → Int32} {r2 : Nat → Nat} {hp rl cn be : Nat → Int32} {bw : Int32} {wo : Nat → Nat → Int32} {r : Nat → Nat} {nc nw : Nat} {cx cy ch rm on wx wy dm sv mu : Nat → Int32} {qq : Nat → Nat → Int32} {p1 : Int32} (h6 : nw ≤ 6) : CxV l yX2_requireWalker wsX2_requireWalker 6 90 2 12 D (T5 cI cZ cJ cG cW) [.ref (d 0), .int p1] ((wCo cI a b d mg pt bd tk ho ri lo fv hd lf la ++ wSo cI cW a b r2 hp rl cn be bw wo) ++ wL cI cZ cG a r nc nw cx cy ch rm on wx wy dm sv mu qq) (fun wv tv => IC nw p1 ∧ wv = ((wCo cI a b d mg pt bd tk ho ri lo fv hd lf la ++ wSo cI cW a b r2 hp rl cn be bw wo) ++ wL cI cZ cG a r nc nw cx cy ch rm on wx wy dm sv mu qq) ∧ tv = (T5 cI cZ cJ cG cW)) (fun Ev => ¬ IC nw p1 ∧ Ev = xIB) := by
  refine cxV_of (cc := cX2_requireWalker) (maxL := 2) RX2 0 [some (.ref (d 0)), some (.int p1)] (by decide +kernel) rfl rfl (Nat.le_of_ble_eq_true rfl) rfl (fun p_ e_ s_ m_ as_ bl_ me_ co_ C hret hE hX => ?_)
  have f10 := C.ts (.fieldLink RX2 10 "CellPlanner" "land" "LCellPlanner$Land;") (by decide +kernel)
  have f80 := C.ts (.fieldLink RX2 80 "CellPlanner$Land" "walkers" "I") (by decide +kernel)
  refine g_iload_n C dX2_requireWalker_0 rfl ?_
  refine g_if_lt C 15 dX2_requireWalker_1 (by decide) (fun c_1 => ?_) (fun c_1 => ?_)
  · skip
    obtain ⟨sa9, hstr9⟩ := hX.1.2.2.2.2.2.2.2
    exact gx_throwV C hl0 hE hX hstr9 hX.1.1.2.2 (by decide +kernel) (by decide +kernel) (by decide +kernel) hatX2_requireWalker_xIB at2_xIB hgdX2_requireWalker_xIB dX2_requireWalker_15 dX2_requireWalker_18 dX2_requireWalker_19 dX2_requireWalker_21 dX2_requireWalker_24 rfl (Nat.le_of_ble_eq_true rfl) (Nat.le_of_ble_eq_true rfl) (Nat.le_of_ble_eq_true rfl) (Nat.le_of_ble_eq_true rfl) (Nat.le_of_ble_eq_true rfl) (Nat.le_of_ble_eq_true rfl) (Nat.le_of_ble_eq_true rfl) ⟨by first | exact IC_no1 c_1 | exact IC_no2 (by omega) c_12, rfl⟩
  · skip
    refine g_iload_n C dX2_requireWalker_4 rfl ?_
    refine g_aload_n C dX2_requireWalker_5 rfl ?_
    refine g_get C 0 iX2_requireWalker_X2 rfl rfl 0 (by decide) f10 rfl dX2_requireWalker_6 ?_
    refine g_get C 17 iX2_requireWalker_X0 rfl rfl 10 (by decide) f80 rfl dX2_requireWalker_9 ?_
    refine g_icmp_lt C 25 dX2_requireWalker_12 (by decide) (fun c_12 => ?_) (fun c_12 => ?_)
    · skip
      exact gx_V (g_vret C hret dX2_requireWalker_25 (Nat.le_of_ble_eq_true rfl) (Nat.le_of_ble_eq_true rfl) ⟨(IC_yes (by omega) c_1 c_12), rfl, rfl⟩)
    · skip
      obtain ⟨sa9, hstr9⟩ := hX.1.2.2.2.2.2.2.2
      exact gx_throwV C hl0 hE hX hstr9 hX.1.1.2.2 (by decide +kernel) (by decide +kernel) (by decide +kernel) hatX2_requireWalker_xIB at2_xIB hgdX2_requireWalker_xIB dX2_requireWalker_15 dX2_requireWalker_18 dX2_requireWalker_19 dX2_requireWalker_21 dX2_requireWalker_24 rfl (Nat.le_of_ble_eq_true rfl) (Nat.le_of_ble_eq_true rfl) (Nat.le_of_ble_eq_true rfl) (Nat.le_of_ble_eq_true rfl) (Nat.le_of_ble_eq_true rfl) (Nat.le_of_ble_eq_true rfl) (Nat.le_of_ble_eq_true rfl) ⟨by first | exact IC_no1 c_1 | exact IC_no2 (by omega) c_12, rfl⟩
theorem iX2_cell_X0 : ∀ w ∈ u_ws RX0 TX0 13, w ∈ wsX2_cell := by decide +kernel
theorem iX2_cell_X2 : ∀ w ∈ u_ws RX2 TX2 13, w ∈ wsX2_cell := by decide +kernel
theorem hatX2_cell_xIS : ∀ w ∈ (vx_atS RX2 59 xIS ["java/lang/RuntimeException", "java/lang/Exception"]).filter goodWord, w ∈ wsX2_cell := by decide +kernel
theorem hgdX2_cell_xIS : ∀ w ∈ Cond.classLink RX2 55 xIS :: Cond.initialized xIS :: vx_atS RX2 59 xIS ["java/lang/RuntimeException", "java/lang/Exception"], vx_ot w = true := by decide +kernel
set_option maxHeartbeats 1000000 in
set_option maxRecDepth 100000 in
theorem t_X2_cell {l : Launch} (hl0 : l.stackTraces = false) {D : va_G} {cI cZ cJ cG cW : ClassId} {a b d : Nat → Nat} {mg pt bd tk ho ri lo : Int32} {fv hd lf la : Nat → Int32} {r2 : Nat → Nat} {hp rl cn be : Nat → Int32} {bw : Int32} {wo : Nat → Nat → Int32} {r : Nat → Nat} {nc nw : Nat} {cx cy ch rm on wx wy dm sv mu : Nat → Int32} {qq : Nat → Nat → Int32} {p1 p2 p3 p4 : Int32} (h5 : nc ≤ 5) : CxI l yX2_cell wsX2_cell 7 113 9 54 D (T5 cI cZ cJ cG cW) [.ref (d 0), .int p1, .int p2, .int p3, .int p4] ((wCo cI a b d mg pt bd tk ho ri lo fv hd lf la ++ wSo cI cW a b r2 hp rl cn be bw wo) ++ wL cI cZ cG a r nc nw cx cy ch rm on wx wy dm sv mu qq) (fun rv wv => (inC p1 p2 p3 p4 ∧ nc < 5) ∧ rv = nI nc ∧ wv = ((wCo cI a b d mg pt bd tk ho ri lo fv hd lf la ++ wSo cI cW a b r2 hp rl cn be bw wo) ++ wL cI cZ cG a r (nc + 1) nw (upd cx nc p1) (upd cy nc p2) (upd ch nc p3) (upd rm nc p4) (upd on nc 1) wx wy dm sv mu qq)) (fun Ev => (¬ inC p1 p2 p3 p4 ∧ Ev = xIA) ∨ (inC p1 p2 p3 p4 ∧ ¬ nc < 5 ∧ Ev = xIS)) := by
  refine cxI_of (cc := cX2_cell) (maxL := 5) RX2 0 [some (.ref (d 0)), some (.int p1), some (.int p2), some (.int p3), some (.int p4)] (by decide +kernel) rfl rfl (Nat.le_of_ble_eq_true rfl) rfl (fun p_ e_ s_ m_ as_ bl_ me_ co_ C hret hE hX => ?_)
  have f10 := C.ts (.fieldLink RX2 10 "CellPlanner" "land" "LCellPlanner$Land;") (by decide +kernel)
  have f52 := C.ts (.fieldLink RX2 52 "CellPlanner$Land" "cells" "I") (by decide +kernel)
  refine g_iload_n C dX2_cell_0 rfl ?_
  refine g_i2l C p1.toInt64 dX2_cell_1 rfl ?_
  refine g_iconst C 0 dX2_cell_2 (by decide +kernel) ?_
  refine g_bipush C 63 dX2_cell_3 (by decide +kernel) ?_
  refine gx_propSI C hE hX ((wCo cI a b d mg pt bd tk ho ri lo fv hd lf la ++ wSo cI cW a b r2 hp rl cn be bw wo) ++ wL cI cZ cG a r nc nw cx cy ch rm on wx wy dm sv mu qq) [] [.long p1.toInt64, .int 0, .int 63] (t_X2_requireRange hl0) (va_cwS 3 C.ts gX2_cell_X2_requireRange rfl rfl rfl (by decide +kernel) ⟨Nat.le_of_ble_eq_true rfl, Nat.le_of_ble_eq_true rfl⟩) rfl (List.append_nil _).symm (List.append_nil _) rfl (Nat.le_of_ble_eq_true rfl) dX2_cell_5 ⟨Nat.le_of_ble_eq_true rfl, Nat.le_of_ble_eq_true rfl⟩ (Nat.le_of_ble_eq_true rfl) (Nat.le_of_ble_eq_true rfl) (fun _ h => Or.inl ⟨fun q => h.1 (rng_i.mpr q.1), h.2⟩) (fun wv1 tv1 hp1 => ?_)
  obtain ⟨hok5, rfl, rfl⟩ := hp1
  refine g_w (ws' := ((wCo cI a b d mg pt bd tk ho ri lo fv hd lf la ++ wSo cI cW a b r2 hp rl cn be bw wo) ++ wL cI cZ cG a r nc nw cx cy ch rm on wx wy dm sv mu qq)) (List.append_nil _) ?_
  refine g_iload_n C dX2_cell_8 rfl ?_
  refine g_i2l C p2.toInt64 dX2_cell_9 rfl ?_
  refine g_iconst C 0 dX2_cell_10 (by decide +kernel) ?_
  refine g_bipush C 63 dX2_cell_11 (by decide +kernel) ?_
  refine gx_propSI C hE hX ((wCo cI a b d mg pt bd tk ho ri lo fv hd lf la ++ wSo cI cW a b r2 hp rl cn be bw wo) ++ wL cI cZ cG a r nc nw cx cy ch rm on wx wy dm sv mu qq) [] [.long p2.toInt64, .int 0, .int 63] (t_X2_requireRange hl0) (va_cwS 3 C.ts gX2_cell_X2_requireRange rfl rfl rfl (by decide +kernel) ⟨Nat.le_of_ble_eq_true rfl, Nat.le_of_ble_eq_true rfl⟩) rfl (List.append_nil _).symm (List.append_nil _) rfl (Nat.le_of_ble_eq_true rfl) dX2_cell_13 ⟨Nat.le_of_ble_eq_true rfl, Nat.le_of_ble_eq_true rfl⟩ (Nat.le_of_ble_eq_true rfl) (Nat.le_of_ble_eq_true rfl) (fun _ h => Or.inl ⟨fun q => h.1 (rng_i.mpr q.2.1), h.2⟩) (fun wv2 tv2 hp2 => ?_)
  obtain ⟨hok13, rfl, rfl⟩ := hp2
  refine g_w (ws' := ((wCo cI a b d mg pt bd tk ho ri lo fv hd lf la ++ wSo cI cW a b r2 hp rl cn be bw wo) ++ wL cI cZ cG a r nc nw cx cy ch rm on wx wy dm sv mu qq)) (List.append_nil _) ?_
  refine g_iload_n C dX2_cell_16 rfl ?_
  refine g_i2l C p3.toInt64 dX2_cell_17 rfl ?_
  refine g_iconst C 0 dX2_cell_18 (by decide +kernel) ?_
  refine g_iconst C 2 dX2_cell_19 (by decide +kernel) ?_
  refine gx_propSI C hE hX ((wCo cI a b d mg pt bd tk ho ri lo fv hd lf la ++ wSo cI cW a b r2 hp rl cn be bw wo) ++ wL cI cZ cG a r nc nw cx cy ch rm on wx wy dm sv mu qq) [] [.long p3.toInt64, .int 0, .int 2] (t_X2_requireRange hl0) (va_cwS 3 C.ts gX2_cell_X2_requireRange rfl rfl rfl (by decide +kernel) ⟨Nat.le_of_ble_eq_true rfl, Nat.le_of_ble_eq_true rfl⟩) rfl (List.append_nil _).symm (List.append_nil _) rfl (Nat.le_of_ble_eq_true rfl) dX2_cell_20 ⟨Nat.le_of_ble_eq_true rfl, Nat.le_of_ble_eq_true rfl⟩ (Nat.le_of_ble_eq_true rfl) (Nat.le_of_ble_eq_true rfl) (fun _ h => Or.inl ⟨fun q => h.1 (rng_i.mpr q.2.2.1), h.2⟩) (fun wv3 tv3 hp3 => ?_)
  obtain ⟨hok20, rfl, rfl⟩ := hp3
  refine g_w (ws' := ((wCo cI a b d mg pt bd tk ho ri lo fv hd lf la ++ wSo cI cW a b r2 hp rl cn be bw wo) ++ wL cI cZ cG a r nc nw cx cy ch rm on wx wy dm sv mu qq)) (List.append_nil _) ?_
  refine g_iload C dX2_cell_23 rfl ?_
  refine g_i2l C p4.toInt64 dX2_cell_25 rfl ?_
  refine g_iconst C 1 dX2_cell_26 (by decide +kernel) ?_
  refine g_bipush C 40 dX2_cell_27 (by decide +kernel) ?_
  refine gx_propSI C hE hX ((wCo cI a b d mg pt bd tk ho ri lo fv hd lf la ++ wSo cI cW a b r2 hp rl cn be bw wo) ++ wL cI cZ cG a r nc nw cx cy ch rm on wx wy dm sv mu qq) [] [.long p4.toInt64, .int 1, .int 40] (t_X2_requireRange hl0) (va_cwS 3 C.ts gX2_cell_X2_requireRange rfl rfl rfl (by decide +kernel) ⟨Nat.le_of_ble_eq_true rfl, Nat.le_of_ble_eq_true rfl⟩) rfl (List.append_nil _).symm (List.append_nil _) rfl (Nat.le_of_ble_eq_true rfl) dX2_cell_29 ⟨Nat.le_of_ble_eq_true rfl, Nat.le_of_ble_eq_true rfl⟩ (Nat.le_of_ble_eq_true rfl) (Nat.le_of_ble_eq_true rfl) (fun _ h => Or.inl ⟨fun q => h.1 (rng_i.mpr q.2.2.2), h.2⟩) (fun wv4 tv4 hp4 => ?_)
  obtain ⟨hok29, rfl, rfl⟩ := hp4
  refine g_w (ws' := ((wCo cI a b d mg pt bd tk ho ri lo fv hd lf la ++ wSo cI cW a b r2 hp rl cn be bw wo) ++ wL cI cZ cG a r nc nw cx cy ch rm on wx wy dm sv mu qq)) (List.append_nil _) ?_
  have hin : inC p1 p2 p3 p4 := ⟨rng_i.mp hok5, rng_i.mp hok13, rng_i.mp hok20, rng_i.mp hok29⟩
  refine g_aload_n C dX2_cell_32 rfl ?_
  refine g_get C 0 iX2_cell_X2 rfl rfl 0 (by decide) f10 rfl dX2_cell_33 ?_
  refine g_get C 17 iX2_cell_X0 rfl rfl 5 (by decide) f52 rfl dX2_cell_36 ?_
  refine g_iconst C 5 dX2_cell_39 (by decide +kernel) ?_
  refine g_icmp_lt C 53 dX2_cell_40 (by decide) (fun c_40 => ?_) (fun c_40 => ?_)
  · skip
    have c_40 : nc < 5 := (nI_ltI (a := nc) (b := 5) (by omega) (by decide)).mp c_40
    refine g_aload_n C dX2_cell_53 rfl ?_
    refine g_get C 0 iX2_cell_X2 rfl rfl 0 (by decide) f10 rfl dX2_cell_54 ?_
    refine g_iload_n C dX2_cell_57 rfl ?_
    refine g_iload_n C dX2_cell_58 rfl ?_
    refine g_iload_n C dX2_cell_59 rfl ?_
    refine g_iload C dX2_cell_60 rfl ?_
    refine g_callVi C (wCo cI a b d mg pt bd tk ho ri lo fv hd lf la ++ wSo cI cW a b r2 hp rl cn be bw wo) (wL cI cZ cG a r nc nw cx cy ch rm on wx wy dm sv mu qq) [.int p1, .int p2, .int p3, .int p4] (t_X0_addCell c_40) rfl rfl (cwV 4 C.ts gX2_cell_X0_addCell rfl rfl rfl (by decide +kernel) ⟨Nat.le_of_ble_eq_true rfl, Nat.le_of_ble_eq_true rfl⟩) rfl rfl rfl (Nat.le_of_ble_eq_true rfl) dX2_cell_62 ⟨Nat.le_of_ble_eq_true rfl, Nat.le_of_ble_eq_true rfl⟩ (fun rv5 wv5 hp5 => ?_)
    obtain ⟨rfl, rfl⟩ := hp5
    exact gx_I (g_iret C hret dX2_cell_65 (Nat.le_of_ble_eq_true rfl) (Nat.le_of_ble_eq_true rfl) ⟨⟨hin, c_40⟩, rfl, rfl⟩)
  · skip
    have c_40 : ¬ nc < 5 := fun h => c_40 ((nI_ltI (a := nc) (b := 5) (by omega) (by decide)).mpr h)
    obtain ⟨sa9, hstr9⟩ := hX.1.2.2.2.2.1
    exact gx_throwI C hl0 hE hX hstr9 hX.1.1.2.1 (by decide +kernel) (by decide +kernel) (by decide +kernel) hatX2_cell_xIS at2_xIS hgdX2_cell_xIS dX2_cell_43 dX2_cell_46 dX2_cell_47 dX2_cell_49 dX2_cell_52 rfl (Nat.le_of_ble_eq_true rfl) (Nat.le_of_ble_eq_true rfl) (Nat.le_of_ble_eq_true rfl) (Nat.le_of_ble_eq_true rfl) (Nat.le_of_ble_eq_true rfl) (Nat.le_of_ble_eq_true rfl) (Nat.le_of_ble_eq_true rfl) (Or.inr ⟨hin, c_40, rfl⟩)
theorem iX2_walker_X0 : ∀ w ∈ u_ws RX0 TX0 13, w ∈ wsX2_walker := by decide +kernel
theorem iX2_walker_X2 : ∀ w ∈ u_ws RX2 TX2 13, w ∈ wsX2_walker := by decide +kernel
theorem hatX2_walker_xIS : ∀ w ∈ (vx_atS RX2 59 xIS ["java/lang/RuntimeException", "java/lang/Exception"]).filter goodWord, w ∈ wsX2_walker := by decide +kernel
theorem hgdX2_walker_xIS : ∀ w ∈ Cond.classLink RX2 55 xIS :: Cond.initialized xIS :: vx_atS RX2 59 xIS ["java/lang/RuntimeException", "java/lang/Exception"], vx_ot w = true := by decide +kernel
set_option maxHeartbeats 1000000 in
set_option maxRecDepth 100000 in
theorem t_X2_walker {l : Launch} (hl0 : l.stackTraces = false) {D : va_G} {cI cZ cJ cG cW : ClassId} {a b d : Nat → Nat} {mg pt bd tk ho ri lo : Int32} {fv hd lf la : Nat → Int32} {r2 : Nat → Nat} {hp rl cn be : Nat → Int32} {bw : Int32} {wo : Nat → Nat → Int32} {r : Nat → Nat} {nc nw : Nat} {cx cy ch rm on wx wy dm sv mu : Nat → Int32} {qq : Nat → Nat → Int32} {p1 p2 p3 : Int32} (h6 : nw ≤ 6) : CxI l yX2_walker wsX2_walker 7 113 7 42 D (T5 cI cZ cJ cG cW) [.ref (d 0), .int p1, .int p2, .int p3] ((wCo cI a b d mg pt bd tk ho ri lo fv hd lf la ++ wSo cI cW a b r2 hp rl cn be bw wo) ++ wL cI cZ cG a r nc nw cx cy ch rm on wx wy dm sv mu qq) (fun rv wv => (inW p1 p2 p3 ∧ nw < 6) ∧ rv = nI nw ∧ wv = ((wCo cI a b d mg pt bd tk ho ri lo (upd fv nw (-1)) (upd hd nw 0) (upd lf nw (-1)) la ++ wSo cI cW a b r2 hp rl cn be bw wo) ++ wL cI cZ cG a r nc (nw + 1) cx cy ch rm on (upd wx nw p1) (upd wy nw p2) (upd dm nw p3) (upd sv nw (-1)) mu qq)) (fun Ev => (¬ inW p1 p2 p3 ∧ Ev = xIA) ∨ (inW p1 p2 p3 ∧ ¬ nw < 6 ∧ Ev = xIS)) := by
  refine cxI_of (cc := cX2_walker) (maxL := 5) RX2 1 [some (.ref (d 0)), some (.int p1), some (.int p2), some (.int p3), none] (by decide +kernel) rfl rfl (Nat.le_of_ble_eq_true rfl) rfl (fun p_ e_ s_ m_ as_ bl_ me_ co_ C hret hE hX => ?_)
  have f10 := C.ts (.fieldLink RX2 10 "CellPlanner" "land" "LCellPlanner$Land;") (by decide +kernel)
  have f32 := C.ts (.fieldLink RX2 32 "CellPlanner" "leftCell" "[I") (by decide +kernel)
  have f80 := C.ts (.fieldLink RX2 80 "CellPlanner$Land" "walkers" "I") (by decide +kernel)
  refine g_iload_n C dX2_walker_0 rfl ?_
  refine g_i2l C p1.toInt64 dX2_walker_1 rfl ?_
  refine g_iconst C 0 dX2_walker_2 (by decide +kernel) ?_
  refine g_bipush C 63 dX2_walker_3 (by decide +kernel) ?_
  refine gx_propSI C hE hX ((wCo cI a b d mg pt bd tk ho ri lo fv hd lf la ++ wSo cI cW a b r2 hp rl cn be bw wo) ++ wL cI cZ cG a r nc nw cx cy ch rm on wx wy dm sv mu qq) [] [.long p1.toInt64, .int 0, .int 63] (t_X2_requireRange hl0) (va_cwS 3 C.ts gX2_walker_X2_requireRange rfl rfl rfl (by decide +kernel) ⟨Nat.le_of_ble_eq_true rfl, Nat.le_of_ble_eq_true rfl⟩) rfl (List.append_nil _).symm (List.append_nil _) rfl (Nat.le_of_ble_eq_true rfl) dX2_walker_5 ⟨Nat.le_of_ble_eq_true rfl, Nat.le_of_ble_eq_true rfl⟩ (Nat.le_of_ble_eq_true rfl) (Nat.le_of_ble_eq_true rfl) (fun _ h => Or.inl ⟨fun q => h.1 (rng_i.mpr q.1), h.2⟩) (fun wv1 tv1 hp1 => ?_)
  obtain ⟨hok5, rfl, rfl⟩ := hp1
  refine g_w (ws' := ((wCo cI a b d mg pt bd tk ho ri lo fv hd lf la ++ wSo cI cW a b r2 hp rl cn be bw wo) ++ wL cI cZ cG a r nc nw cx cy ch rm on wx wy dm sv mu qq)) (List.append_nil _) ?_
  refine g_iload_n C dX2_walker_8 rfl ?_
  refine g_i2l C p2.toInt64 dX2_walker_9 rfl ?_
  refine g_iconst C 0 dX2_walker_10 (by decide +kernel) ?_
  refine g_bipush C 63 dX2_walker_11 (by decide +kernel) ?_
  refine gx_propSI C hE hX ((wCo cI a b d mg pt bd tk ho ri lo fv hd lf la ++ wSo cI cW a b r2 hp rl cn be bw wo) ++ wL cI cZ cG a r nc nw cx cy ch rm on wx wy dm sv mu qq) [] [.long p2.toInt64, .int 0, .int 63] (t_X2_requireRange hl0) (va_cwS 3 C.ts gX2_walker_X2_requireRange rfl rfl rfl (by decide +kernel) ⟨Nat.le_of_ble_eq_true rfl, Nat.le_of_ble_eq_true rfl⟩) rfl (List.append_nil _).symm (List.append_nil _) rfl (Nat.le_of_ble_eq_true rfl) dX2_walker_13 ⟨Nat.le_of_ble_eq_true rfl, Nat.le_of_ble_eq_true rfl⟩ (Nat.le_of_ble_eq_true rfl) (Nat.le_of_ble_eq_true rfl) (fun _ h => Or.inl ⟨fun q => h.1 (rng_i.mpr q.2.1), h.2⟩) (fun wv2 tv2 hp2 => ?_)
  obtain ⟨hok13, rfl, rfl⟩ := hp2
  refine g_w (ws' := ((wCo cI a b d mg pt bd tk ho ri lo fv hd lf la ++ wSo cI cW a b r2 hp rl cn be bw wo) ++ wL cI cZ cG a r nc nw cx cy ch rm on wx wy dm sv mu qq)) (List.append_nil _) ?_
  refine g_iload_n C dX2_walker_16 rfl ?_
  refine g_i2l C p3.toInt64 dX2_walker_17 rfl ?_
  refine g_iconst C 1 dX2_walker_18 (by decide +kernel) ?_
  refine g_bipush C 10 dX2_walker_19 (by decide +kernel) ?_
  refine gx_propSI C hE hX ((wCo cI a b d mg pt bd tk ho ri lo fv hd lf la ++ wSo cI cW a b r2 hp rl cn be bw wo) ++ wL cI cZ cG a r nc nw cx cy ch rm on wx wy dm sv mu qq) [] [.long p3.toInt64, .int 1, .int 10] (t_X2_requireRange hl0) (va_cwS 3 C.ts gX2_walker_X2_requireRange rfl rfl rfl (by decide +kernel) ⟨Nat.le_of_ble_eq_true rfl, Nat.le_of_ble_eq_true rfl⟩) rfl (List.append_nil _).symm (List.append_nil _) rfl (Nat.le_of_ble_eq_true rfl) dX2_walker_21 ⟨Nat.le_of_ble_eq_true rfl, Nat.le_of_ble_eq_true rfl⟩ (Nat.le_of_ble_eq_true rfl) (Nat.le_of_ble_eq_true rfl) (fun _ h => Or.inl ⟨fun q => h.1 (rng_i.mpr q.2.2), h.2⟩) (fun wv3 tv3 hp3 => ?_)
  obtain ⟨hok21, rfl, rfl⟩ := hp3
  refine g_w (ws' := ((wCo cI a b d mg pt bd tk ho ri lo fv hd lf la ++ wSo cI cW a b r2 hp rl cn be bw wo) ++ wL cI cZ cG a r nc nw cx cy ch rm on wx wy dm sv mu qq)) (List.append_nil _) ?_
  have hin : inW p1 p2 p3 := ⟨rng_i.mp hok5, rng_i.mp hok13, rng_i.mp hok21⟩
  refine g_aload_n C dX2_walker_24 rfl ?_
  refine g_get C 0 iX2_walker_X2 rfl rfl 0 (by decide) f10 rfl dX2_walker_25 ?_
  refine g_get C 17 iX2_walker_X0 rfl rfl 10 (by decide) f80 rfl dX2_walker_28 ?_
  refine g_bipush C 6 dX2_walker_31 (by decide +kernel) ?_
  refine g_icmp_lt C 46 dX2_walker_33 (by decide) (fun c_33 => ?_) (fun c_33 => ?_)
  · skip
    have c_33 : nw < 6 := (nI_ltI (a := nw) (b := 6) (by omega) (by decide)).mp c_33
    refine g_aload_n C dX2_walker_46 rfl ?_
    refine g_get C 0 iX2_walker_X2 rfl rfl 0 (by decide) f10 rfl dX2_walker_47 ?_
    refine g_iload_n C dX2_walker_50 rfl ?_
    refine g_iload_n C dX2_walker_51 rfl ?_
    refine g_iload_n C dX2_walker_52 rfl ?_
    refine g_callVi C (wCo cI a b d mg pt bd tk ho ri lo fv hd lf la ++ wSo cI cW a b r2 hp rl cn be bw wo) (wL cI cZ cG a r nc nw cx cy ch rm on wx wy dm sv mu qq) [.int p1, .int p2, .int p3] (t_X0_addWalker c_33) rfl rfl (cwV 3 C.ts gX2_walker_X0_addWalker rfl rfl rfl (by decide +kernel) ⟨Nat.le_of_ble_eq_true rfl, Nat.le_of_ble_eq_true rfl⟩) rfl rfl rfl (Nat.le_of_ble_eq_true rfl) dX2_walker_53 ⟨Nat.le_of_ble_eq_true rfl, Nat.le_of_ble_eq_true rfl⟩ (fun rv4 wv4 hp4 => ?_)
    obtain ⟨rfl, rfl⟩ := hp4
    refine g_istore C [some (.ref (d 0)), some (.int p1), some (.int p2), some (.int p3), some (.int (nI nw))] dX2_walker_56 (by decide) rfl rfl ?_
    refine g_aload_n C dX2_walker_58 rfl ?_
    refine g_iload C dX2_walker_59 rfl ?_
    refine g_callVv C [] ((wCo cI a b d mg pt bd tk ho ri lo fv hd lf la ++ wSo cI cW a b r2 hp rl cn be bw wo) ++ wL cI cZ cG a r nc (nw + 1) cx cy ch rm on (upd wx nw p1) (upd wy nw p2) (upd dm nw p3) (upd sv nw (-1)) mu qq) [.int (nI nw)] (t_X2_dropFavourite c_33) rfl rfl (cwV 1 C.ts gX2_walker_X2_dropFavourite rfl rfl rfl (by decide +kernel) ⟨Nat.le_of_ble_eq_true rfl, Nat.le_of_ble_eq_true rfl⟩) rfl rfl rfl (Nat.le_of_ble_eq_true rfl) dX2_walker_61 ⟨Nat.le_of_ble_eq_true rfl, Nat.le_of_ble_eq_true rfl⟩ (fun wv5 tv5 hp5 => ?_)
    obtain ⟨rfl, rfl⟩ := hp5
    refine g_aload_n C dX2_walker_64 rfl ?_
    refine g_get C 0 iX2_walker_X2 rfl rfl 4 (by decide) f32 rfl dX2_walker_65 ?_
    refine g_iload C dX2_walker_68 rfl ?_
    refine g_iconst C (-1) dX2_walker_70 (by decide +kernel) ?_
    refine g_iast C 3 0 rfl rfl nw rfl c_33 (by decide) ((wCo cI a b d mg pt bd tk ho ri lo (upd fv nw (-1)) (upd hd nw 0) (upd lf nw ((-1))) la ++ wSo cI cW a b r2 hp rl cn be bw wo) ++ wL cI cZ cG a r nc (nw + 1) cx cy ch rm on (upd wx nw p1) (upd wy nw p2) (upd dm nw p3) (upd sv nw (-1)) mu qq) rfl dX2_walker_71 ?_
    refine g_iload C dX2_walker_72 rfl ?_
    exact gx_I (g_iret C hret dX2_walker_74 (Nat.le_of_ble_eq_true rfl) (Nat.le_of_ble_eq_true rfl) ⟨⟨hin, c_33⟩, rfl, rfl⟩)
  · skip
    have c_33 : ¬ nw < 6 := fun h => c_33 ((nI_ltI (a := nw) (b := 6) (by omega) (by decide)).mpr h)
    obtain ⟨sa9, hstr9⟩ := hX.1.2.2.2.2.2.2.1
    exact gx_throwI C hl0 hE hX hstr9 hX.1.1.2.1 (by decide +kernel) (by decide +kernel) (by decide +kernel) hatX2_walker_xIS at2_xIS hgdX2_walker_xIS dX2_walker_36 dX2_walker_39 dX2_walker_40 dX2_walker_42 dX2_walker_45 rfl (Nat.le_of_ble_eq_true rfl) (Nat.le_of_ble_eq_true rfl) (Nat.le_of_ble_eq_true rfl) (Nat.le_of_ble_eq_true rfl) (Nat.le_of_ble_eq_true rfl) (Nat.le_of_ble_eq_true rfl) (Nat.le_of_ble_eq_true rfl) (Or.inr ⟨hin, c_33, rfl⟩)
theorem iX2_load_X2 : ∀ w ∈ u_ws RX2 TX2 13, w ∈ wsX2_load := by decide +kernel
set_option maxHeartbeats 1000000 in
set_option maxRecDepth 100000 in
theorem t_X2_load {l : Launch} (hl0 : l.stackTraces = false) {D : va_G} {cI cZ cJ cG cW : ClassId} {a b d : Nat → Nat} {mg pt bd tk ho ri lo : Int32} {fv hd lf la : Nat → Int32} {r2 : Nat → Nat} {hp rl cn be : Nat → Int32} {bw : Int32} {wo : Nat → Nat → Int32} {r : Nat → Nat} {nc nw : Nat} {cx cy ch rm on wx wy dm sv mu : Nat → Int32} {qq : Nat → Nat → Int32} {p1 : Int32} (h5 : nc ≤ 5) (h6 : nw ≤ 6) : CxI l yX2_load wsX2_load 7 111 2 12 D (T5 cI cZ cJ cG cW) [.ref (d 0), .int p1] ((wCo cI a b d mg pt bd tk ho ri lo fv hd lf la ++ wSo cI cW a b r2 hp rl cn be bw wo) ++ wL cI cZ cG a r nc nw cx cy ch rm on wx wy dm sv mu qq) (fun rv wv => IC nc p1 ∧ rv = fld sv dm p1 nw ∧ wv = ((wCo cI a b d mg pt bd tk ho ri lo fv hd lf la ++ wSo cI cW a b r2 hp rl cn be bw wo) ++ wL cI cZ cG a r nc nw cx cy ch rm on wx wy dm sv mu qq)) (fun Ev => ¬ IC nc p1 ∧ Ev = xIB) := by
  refine cxI_of (cc := cX2_load) (maxL := 2) RX2 0 [some (.ref (d 0)), some (.int p1)] (by decide +kernel) rfl rfl (Nat.le_of_ble_eq_true rfl) rfl (fun p_ e_ s_ m_ as_ bl_ me_ co_ C hret hE hX => ?_)
  have f10 := C.ts (.fieldLink RX2 10 "CellPlanner" "land" "LCellPlanner$Land;") (by decide +kernel)
  refine g_aload_n C dX2_load_0 rfl ?_
  refine g_iload_n C dX2_load_1 rfl ?_
  refine gx_propVI C hE hX [] ((wCo cI a b d mg pt bd tk ho ri lo fv hd lf la ++ wSo cI cW a b r2 hp rl cn be bw wo) ++ wL cI cZ cG a r nc nw cx cy ch rm on wx wy dm sv mu qq) [.int p1] (t_X2_requireCell hl0 (by omega)) rfl rfl (cwV 1 C.ts gX2_load_X2_requireCell rfl rfl rfl (by decide +kernel) ⟨Nat.le_of_ble_eq_true rfl, Nat.le_of_ble_eq_true rfl⟩) rfl rfl rfl rfl (Nat.le_of_ble_eq_true rfl) dX2_load_2 ⟨Nat.le_of_ble_eq_true rfl, Nat.le_of_ble_eq_true rfl⟩ (Nat.le_of_ble_eq_true rfl) (Nat.le_of_ble_eq_true rfl) (fun _ h => h) (fun wv1 tv1 hp1 => ?_)
  obtain ⟨hok2, rfl, rfl⟩ := hp1
  obtain ⟨kc, hlkc, rfl⟩ := hok2
  refine g_aload_n C dX2_load_5 rfl ?_
  refine g_get C 0 iX2_load_X2 rfl rfl 0 (by decide) f10 rfl dX2_load_6 ?_
  refine g_iload_n C dX2_load_9 rfl ?_
  refine g_callVi C (wCo cI a b d mg pt bd tk ho ri lo fv hd lf la ++ wSo cI cW a b r2 hp rl cn be bw wo) (wL cI cZ cG a r nc nw cx cy ch rm on wx wy dm sv mu qq) [.int (nI kc)] (t_X0_loadOf h6) rfl rfl (cwV 1 C.ts gX2_load_X0_loadOf rfl rfl rfl (by decide +kernel) ⟨Nat.le_of_ble_eq_true rfl, Nat.le_of_ble_eq_true rfl⟩) rfl rfl rfl (Nat.le_of_ble_eq_true rfl) dX2_load_10 ⟨Nat.le_of_ble_eq_true rfl, Nat.le_of_ble_eq_true rfl⟩ (fun rv2 wv2 hp2 => ?_)
  obtain ⟨rfl, rfl⟩ := hp2
  exact gx_I (g_iret C hret dX2_load_13 (Nat.le_of_ble_eq_true rfl) (Nat.le_of_ble_eq_true rfl) ⟨⟨kc, hlkc, rfl⟩, rfl, rfl⟩)
theorem iX2_use_X2 : ∀ w ∈ u_ws RX2 TX2 13, w ∈ wsX2_use := by decide +kernel
set_option maxHeartbeats 1000000 in
set_option maxRecDepth 100000 in
theorem t_X2_use {l : Launch} (hl0 : l.stackTraces = false) {D : va_G} {cI cZ cJ cG cW : ClassId} {a b d : Nat → Nat} {mg pt bd tk ho ri lo : Int32} {fv hd lf la : Nat → Int32} {r2 : Nat → Nat} {hp rl cn be : Nat → Int32} {bw : Int32} {wo : Nat → Nat → Int32} {r : Nat → Nat} {nc nw : Nat} {cx cy ch rm on wx wy dm sv mu : Nat → Int32} {qq : Nat → Nat → Int32} {p1 : Int32} (h5 : nc ≤ 5) (h6 : nw ≤ 6) (hr : ∀ c, c < nc → ¬ rm c ≤ 0) : CxI l yX2_use wsX2_use 7 111 2 12 D (T5 cI cZ cJ cG cW) [.ref (d 0), .int p1] ((wCo cI a b d mg pt bd tk ho ri lo fv hd lf la ++ wSo cI cW a b r2 hp rl cn be bw wo) ++ wL cI cZ cG a r nc nw cx cy ch rm on wx wy dm sv mu qq) (fun rv wv => IC nc p1 ∧ rv = fus rm sv dm nw p1.toNatClampNeg ∧ wv = ((wCo cI a b d mg pt bd tk ho ri lo fv hd lf la ++ wSo cI cW a b r2 hp rl cn be bw wo) ++ wL cI cZ cG a r nc nw cx cy ch rm on wx wy dm sv mu qq)) (fun Ev => ¬ IC nc p1 ∧ Ev = xIB) := by
  refine cxI_of (cc := cX2_use) (maxL := 2) RX2 0 [some (.ref (d 0)), some (.int p1)] (by decide +kernel) rfl rfl (Nat.le_of_ble_eq_true rfl) rfl (fun p_ e_ s_ m_ as_ bl_ me_ co_ C hret hE hX => ?_)
  have f10 := C.ts (.fieldLink RX2 10 "CellPlanner" "land" "LCellPlanner$Land;") (by decide +kernel)
  refine g_aload_n C dX2_use_0 rfl ?_
  refine g_iload_n C dX2_use_1 rfl ?_
  refine gx_propVI C hE hX [] ((wCo cI a b d mg pt bd tk ho ri lo fv hd lf la ++ wSo cI cW a b r2 hp rl cn be bw wo) ++ wL cI cZ cG a r nc nw cx cy ch rm on wx wy dm sv mu qq) [.int p1] (t_X2_requireCell hl0 (by omega)) rfl rfl (cwV 1 C.ts gX2_use_X2_requireCell rfl rfl rfl (by decide +kernel) ⟨Nat.le_of_ble_eq_true rfl, Nat.le_of_ble_eq_true rfl⟩) rfl rfl rfl rfl (Nat.le_of_ble_eq_true rfl) dX2_use_2 ⟨Nat.le_of_ble_eq_true rfl, Nat.le_of_ble_eq_true rfl⟩ (Nat.le_of_ble_eq_true rfl) (Nat.le_of_ble_eq_true rfl) (fun _ h => h) (fun wv1 tv1 hp1 => ?_)
  obtain ⟨hok2, rfl, rfl⟩ := hp1
  obtain ⟨kc, hlkc, rfl⟩ := hok2
  refine g_aload_n C dX2_use_5 rfl ?_
  refine g_get C 0 iX2_use_X2 rfl rfl 0 (by decide) f10 rfl dX2_use_6 ?_
  refine g_iload_n C dX2_use_9 rfl ?_
  refine g_callVi C (wCo cI a b d mg pt bd tk ho ri lo fv hd lf la ++ wSo cI cW a b r2 hp rl cn be bw wo) (wL cI cZ cG a r nc nw cx cy ch rm on wx wy dm sv mu qq) [.int (nI kc)] (t_X0_useOf h6 (by omega) (hr kc hlkc)) rfl rfl (cwV 1 C.ts gX2_use_X0_useOf rfl rfl rfl (by decide +kernel) ⟨Nat.le_of_ble_eq_true rfl, Nat.le_of_ble_eq_true rfl⟩) rfl rfl rfl (Nat.le_of_ble_eq_true rfl) dX2_use_10 ⟨Nat.le_of_ble_eq_true rfl, Nat.le_of_ble_eq_true rfl⟩ (fun rv2 wv2 hp2 => ?_)
  obtain ⟨rfl, rfl⟩ := hp2
  exact gx_I (g_iret C hret dX2_use_13 (Nat.le_of_ble_eq_true rfl) (Nat.le_of_ble_eq_true rfl) ⟨⟨kc, hlkc, rfl⟩, (by rw [nI_clamp (by omega)]), rfl⟩)
theorem iX2_servedBy_X0 : ∀ w ∈ u_ws RX0 TX0 13, w ∈ wsX2_servedBy := by decide +kernel
theorem iX2_servedBy_X2 : ∀ w ∈ u_ws RX2 TX2 13, w ∈ wsX2_servedBy := by decide +kernel
set_option maxHeartbeats 1000000 in
set_option maxRecDepth 100000 in
theorem t_X2_servedBy {l : Launch} (hl0 : l.stackTraces = false) {D : va_G} {cI cZ cJ cG cW : ClassId} {a b d : Nat → Nat} {mg pt bd tk ho ri lo : Int32} {fv hd lf la : Nat → Int32} {r2 : Nat → Nat} {hp rl cn be : Nat → Int32} {bw : Int32} {wo : Nat → Nat → Int32} {r : Nat → Nat} {nc nw : Nat} {cx cy ch rm on wx wy dm sv mu : Nat → Int32} {qq : Nat → Nat → Int32} {p1 : Int32} (h5 : nc ≤ 5) (h6 : nw ≤ 6) : CxI l yX2_servedBy wsX2_servedBy 7 111 2 12 D (T5 cI cZ cJ cG cW) [.ref (d 0), .int p1] ((wCo cI a b d mg pt bd tk ho ri lo fv hd lf la ++ wSo cI cW a b r2 hp rl cn be bw wo) ++ wL cI cZ cG a r nc nw cx cy ch rm on wx wy dm sv mu qq) (fun rv wv => IC nw p1 ∧ rv = sv p1.toNatClampNeg ∧ wv = ((wCo cI a b d mg pt bd tk ho ri lo fv hd lf la ++ wSo cI cW a b r2 hp rl cn be bw wo) ++ wL cI cZ cG a r nc nw cx cy ch rm on wx wy dm sv mu qq)) (fun Ev => ¬ IC nw p1 ∧ Ev = xIB) := by
  refine cxI_of (cc := cX2_servedBy) (maxL := 2) RX2 0 [some (.ref (d 0)), some (.int p1)] (by decide +kernel) rfl rfl (Nat.le_of_ble_eq_true rfl) rfl (fun p_ e_ s_ m_ as_ bl_ me_ co_ C hret hE hX => ?_)
  have f10 := C.ts (.fieldLink RX2 10 "CellPlanner" "land" "LCellPlanner$Land;") (by decide +kernel)
  have f128 := C.ts (.fieldLink RX2 128 "CellPlanner$Land" "server" "[I") (by decide +kernel)
  refine g_aload_n C dX2_servedBy_0 rfl ?_
  refine g_iload_n C dX2_servedBy_1 rfl ?_
  refine gx_propVI C hE hX [] ((wCo cI a b d mg pt bd tk ho ri lo fv hd lf la ++ wSo cI cW a b r2 hp rl cn be bw wo) ++ wL cI cZ cG a r nc nw cx cy ch rm on wx wy dm sv mu qq) [.int p1] (t_X2_requireWalker hl0 (by omega)) rfl rfl (cwV 1 C.ts gX2_servedBy_X2_requireWalker rfl rfl rfl (by decide +kernel) ⟨Nat.le_of_ble_eq_true rfl, Nat.le_of_ble_eq_true rfl⟩) rfl rfl rfl rfl (Nat.le_of_ble_eq_true rfl) dX2_servedBy_2 ⟨Nat.le_of_ble_eq_true rfl, Nat.le_of_ble_eq_true rfl⟩ (Nat.le_of_ble_eq_true rfl) (Nat.le_of_ble_eq_true rfl) (fun _ h => h) (fun wv1 tv1 hp1 => ?_)
  obtain ⟨hok2, rfl, rfl⟩ := hp1
  obtain ⟨kc, hlkc, rfl⟩ := hok2
  refine g_aload_n C dX2_servedBy_5 rfl ?_
  refine g_get C 0 iX2_servedBy_X2 rfl rfl 0 (by decide) f10 rfl dX2_servedBy_6 ?_
  refine g_get C 17 iX2_servedBy_X0 rfl rfl 9 (by decide) f128 rfl dX2_servedBy_9 ?_
  refine g_iload_n C dX2_servedBy_12 rfl ?_
  refine g_iald C 26 0 rfl rfl kc rfl (by omega) (by decide) (sv kc) rfl dX2_servedBy_13 ?_
  exact gx_I (g_iret C hret dX2_servedBy_14 (Nat.le_of_ble_eq_true rfl) (Nat.le_of_ble_eq_true rfl) ⟨⟨kc, hlkc, rfl⟩, (by rw [nI_clamp (by omega)]), rfl⟩)
theorem iX2_favourite_X2 : ∀ w ∈ u_ws RX2 TX2 13, w ∈ wsX2_favourite := by decide +kernel
set_option maxHeartbeats 1000000 in
set_option maxRecDepth 100000 in
theorem t_X2_favourite {l : Launch} (hl0 : l.stackTraces = false) {D : va_G} {cI cZ cJ cG cW : ClassId} {a b d : Nat → Nat} {mg pt bd tk ho ri lo : Int32} {fv hd lf la : Nat → Int32} {r2 : Nat → Nat} {hp rl cn be : Nat → Int32} {bw : Int32} {wo : Nat → Nat → Int32} {r : Nat → Nat} {nc nw : Nat} {cx cy ch rm on wx wy dm sv mu : Nat → Int32} {qq : Nat → Nat → Int32} {p1 : Int32} (h5 : nc ≤ 5) (h6 : nw ≤ 6) : CxI l yX2_favourite wsX2_favourite 7 111 2 12 D (T5 cI cZ cJ cG cW) [.ref (d 0), .int p1] ((wCo cI a b d mg pt bd tk ho ri lo fv hd lf la ++ wSo cI cW a b r2 hp rl cn be bw wo) ++ wL cI cZ cG a r nc nw cx cy ch rm on wx wy dm sv mu qq) (fun rv wv => IC nw p1 ∧ rv = fv p1.toNatClampNeg ∧ wv = ((wCo cI a b d mg pt bd tk ho ri lo fv hd lf la ++ wSo cI cW a b r2 hp rl cn be bw wo) ++ wL cI cZ cG a r nc nw cx cy ch rm on wx wy dm sv mu qq)) (fun Ev => ¬ IC nw p1 ∧ Ev = xIB) := by
  refine cxI_of (cc := cX2_favourite) (maxL := 2) RX2 0 [some (.ref (d 0)), some (.int p1)] (by decide +kernel) rfl rfl (Nat.le_of_ble_eq_true rfl) rfl (fun p_ e_ s_ m_ as_ bl_ me_ co_ C hret hE hX => ?_)
  have f25 := C.ts (.fieldLink RX2 25 "CellPlanner" "favourite" "[I") (by decide +kernel)
  refine g_aload_n C dX2_favourite_0 rfl ?_
  refine g_iload_n C dX2_favourite_1 rfl ?_
  refine gx_propVI C hE hX [] ((wCo cI a b d mg pt bd tk ho ri lo fv hd lf la ++ wSo cI cW a b r2 hp rl cn be bw wo) ++ wL cI cZ cG a r nc nw cx cy ch rm on wx wy dm sv mu qq) [.int p1] (t_X2_requireWalker hl0 (by omega)) rfl rfl (cwV 1 C.ts gX2_favourite_X2_requireWalker rfl rfl rfl (by decide +kernel) ⟨Nat.le_of_ble_eq_true rfl, Nat.le_of_ble_eq_true rfl⟩) rfl rfl rfl rfl (Nat.le_of_ble_eq_true rfl) dX2_favourite_2 ⟨Nat.le_of_ble_eq_true rfl, Nat.le_of_ble_eq_true rfl⟩ (Nat.le_of_ble_eq_true rfl) (Nat.le_of_ble_eq_true rfl) (fun _ h => h) (fun wv1 tv1 hp1 => ?_)
  obtain ⟨hok2, rfl, rfl⟩ := hp1
  obtain ⟨kc, hlkc, rfl⟩ := hok2
  refine g_aload_n C dX2_favourite_5 rfl ?_
  refine g_get C 0 iX2_favourite_X2 rfl rfl 2 (by decide) f25 rfl dX2_favourite_6 ?_
  refine g_iload_n C dX2_favourite_9 rfl ?_
  refine g_iald C 1 0 rfl rfl kc rfl (by omega) (by decide) (fv kc) rfl dX2_favourite_10 ?_
  exact gx_I (g_iret C hret dX2_favourite_11 (Nat.le_of_ble_eq_true rfl) (Nat.le_of_ble_eq_true rfl) ⟨⟨kc, hlkc, rfl⟩, (by rw [nI_clamp (by omega)]), rfl⟩)
theorem iX2_heldFor_X2 : ∀ w ∈ u_ws RX2 TX2 13, w ∈ wsX2_heldFor := by decide +kernel
set_option maxHeartbeats 1000000 in
set_option maxRecDepth 100000 in
theorem t_X2_heldFor {l : Launch} (hl0 : l.stackTraces = false) {D : va_G} {cI cZ cJ cG cW : ClassId} {a b d : Nat → Nat} {mg pt bd tk ho ri lo : Int32} {fv hd lf la : Nat → Int32} {r2 : Nat → Nat} {hp rl cn be : Nat → Int32} {bw : Int32} {wo : Nat → Nat → Int32} {r : Nat → Nat} {nc nw : Nat} {cx cy ch rm on wx wy dm sv mu : Nat → Int32} {qq : Nat → Nat → Int32} {p1 : Int32} (h5 : nc ≤ 5) (h6 : nw ≤ 6) : CxI l yX2_heldFor wsX2_heldFor 7 111 2 12 D (T5 cI cZ cJ cG cW) [.ref (d 0), .int p1] ((wCo cI a b d mg pt bd tk ho ri lo fv hd lf la ++ wSo cI cW a b r2 hp rl cn be bw wo) ++ wL cI cZ cG a r nc nw cx cy ch rm on wx wy dm sv mu qq) (fun rv wv => IC nw p1 ∧ rv = hd p1.toNatClampNeg ∧ wv = ((wCo cI a b d mg pt bd tk ho ri lo fv hd lf la ++ wSo cI cW a b r2 hp rl cn be bw wo) ++ wL cI cZ cG a r nc nw cx cy ch rm on wx wy dm sv mu qq)) (fun Ev => ¬ IC nw p1 ∧ Ev = xIB) := by
  refine cxI_of (cc := cX2_heldFor) (maxL := 2) RX2 0 [some (.ref (d 0)), some (.int p1)] (by decide +kernel) rfl rfl (Nat.le_of_ble_eq_true rfl) rfl (fun p_ e_ s_ m_ as_ bl_ me_ co_ C hret hE hX => ?_)
  have f29 := C.ts (.fieldLink RX2 29 "CellPlanner" "held" "[I") (by decide +kernel)
  refine g_aload_n C dX2_heldFor_0 rfl ?_
  refine g_iload_n C dX2_heldFor_1 rfl ?_
  refine gx_propVI C hE hX [] ((wCo cI a b d mg pt bd tk ho ri lo fv hd lf la ++ wSo cI cW a b r2 hp rl cn be bw wo) ++ wL cI cZ cG a r nc nw cx cy ch rm on wx wy dm sv mu qq) [.int p1] (t_X2_requireWalker hl0 (by omega)) rfl rfl (cwV 1 C.ts gX2_heldFor_X2_requireWalker rfl rfl rfl (by decide +kernel) ⟨Nat.le_of_ble_eq_true rfl, Nat.le_of_ble_eq_true rfl⟩) rfl rfl rfl rfl (Nat.le_of_ble_eq_true rfl) dX2_heldFor_2 ⟨Nat.le_of_ble_eq_true rfl, Nat.le_of_ble_eq_true rfl⟩ (Nat.le_of_ble_eq_true rfl) (Nat.le_of_ble_eq_true rfl) (fun _ h => h) (fun wv1 tv1 hp1 => ?_)
  obtain ⟨hok2, rfl, rfl⟩ := hp1
  obtain ⟨kc, hlkc, rfl⟩ := hok2
  refine g_aload_n C dX2_heldFor_5 rfl ?_
  refine g_get C 0 iX2_heldFor_X2 rfl rfl 3 (by decide) f29 rfl dX2_heldFor_6 ?_
  refine g_iload_n C dX2_heldFor_9 rfl ?_
  refine g_iald C 2 0 rfl rfl kc rfl (by omega) (by decide) (hd kc) rfl dX2_heldFor_10 ?_
  exact gx_I (g_iret C hret dX2_heldFor_11 (Nat.le_of_ble_eq_true rfl) (Nat.le_of_ble_eq_true rfl) ⟨⟨kc, hlkc, rfl⟩, (by rw [nI_clamp (by omega)]), rfl⟩)
theorem iX2_signal_X2 : ∀ w ∈ u_ws RX2 TX2 13, w ∈ wsX2_signal := by decide +kernel
set_option maxHeartbeats 1000000 in
set_option maxRecDepth 100000 in
theorem t_X2_signal {l : Launch} (hl0 : l.stackTraces = false) {D : va_G} {cI cZ cJ cG cW : ClassId} {a b d : Nat → Nat} {mg pt bd tk ho ri lo : Int32} {fv hd lf la : Nat → Int32} {r2 : Nat → Nat} {hp rl cn be : Nat → Int32} {bw : Int32} {wo : Nat → Nat → Int32} {r : Nat → Nat} {nc nw : Nat} {cx cy ch rm on wx wy dm sv mu : Nat → Int32} {qq : Nat → Nat → Int32} {p1 p2 : Int32} (h5 : nc ≤ 5) (h6 : nw ≤ 6) (hg : ∀ c w, c < nc → w < nw → ¬ dsq (cx c) (cy c) (wx w) (wy w) = 0) : CxI l yX2_signal wsX2_signal 7 111 4 24 D (T5 cI cZ cJ cG cW) [.ref (d 0), .int p1, .int p2] ((wCo cI a b d mg pt bd tk ho ri lo fv hd lf la ++ wSo cI cW a b r2 hp rl cn be bw wo) ++ wL cI cZ cG a r nc nw cx cy ch rm on wx wy dm sv mu qq) (fun rv wv => (IC nc p1 ∧ IC nw p2) ∧ rv = sg cx cy wx wy p1.toNatClampNeg p2.toNatClampNeg ∧ wv = ((wCo cI a b d mg pt bd tk ho ri lo fv hd lf la ++ wSo cI cW a b r2 hp rl cn be bw wo) ++ wL cI cZ cG a r nc nw cx cy ch rm on wx wy dm sv mu qq)) (fun Ev => ¬ (IC nc p1 ∧ IC nw p2) ∧ Ev = xIB) := by
  refine cxI_of (cc := cX2_signal) (maxL := 3) RX2 0 [some (.ref (d 0)), some (.int p1), some (.int p2)] (by decide +kernel) rfl rfl (Nat.le_of_ble_eq_true rfl) rfl (fun p_ e_ s_ m_ as_ bl_ me_ co_ C hret hE hX => ?_)
  have f10 := C.ts (.fieldLink RX2 10 "CellPlanner" "land" "LCellPlanner$Land;") (by decide +kernel)
  refine g_aload_n C dX2_signal_0 rfl ?_
  refine g_iload_n C dX2_signal_1 rfl ?_
  refine gx_propVI C hE hX [] ((wCo cI a b d mg pt bd tk ho ri lo fv hd lf la ++ wSo cI cW a b r2 hp rl cn be bw wo) ++ wL cI cZ cG a r nc nw cx cy ch rm on wx wy dm sv mu qq) [.int p1] (t_X2_requireCell hl0 (by omega)) rfl rfl (cwV 1 C.ts gX2_signal_X2_requireCell rfl rfl rfl (by decide +kernel) ⟨Nat.le_of_ble_eq_true rfl, Nat.le_of_ble_eq_true rfl⟩) rfl rfl rfl rfl (Nat.le_of_ble_eq_true rfl) dX2_signal_2 ⟨Nat.le_of_ble_eq_true rfl, Nat.le_of_ble_eq_true rfl⟩ (Nat.le_of_ble_eq_true rfl) (Nat.le_of_ble_eq_true rfl) (fun _ h => ⟨fun q => h.1 q.1, h.2⟩) (fun wv1 tv1 hp1 => ?_)
  obtain ⟨hok2, rfl, rfl⟩ := hp1
  obtain ⟨kc, hlkc, rfl⟩ := hok2
  refine g_aload_n C dX2_signal_5 rfl ?_
  refine g_iload_n C dX2_signal_6 rfl ?_
  refine gx_propVI C hE hX [] ((wCo cI a b d mg pt bd tk ho ri lo fv hd lf la ++ wSo cI cW a b r2 hp rl cn be bw wo) ++ wL cI cZ cG a r nc nw cx cy ch rm on wx wy dm sv mu qq) [.int p2] (t_X2_requireWalker hl0 (by omega)) rfl rfl (cwV 1 C.ts gX2_signal_X2_requireWalker rfl rfl rfl (by decide +kernel) ⟨Nat.le_of_ble_eq_true rfl, Nat.le_of_ble_eq_true rfl⟩) rfl rfl rfl rfl (Nat.le_of_ble_eq_true rfl) dX2_signal_7 ⟨Nat.le_of_ble_eq_true rfl, Nat.le_of_ble_eq_true rfl⟩ (Nat.le_of_ble_eq_true rfl) (Nat.le_of_ble_eq_true rfl) (fun _ h => ⟨fun q => h.1 q.2, h.2⟩) (fun wv2 tv2 hp2 => ?_)
  obtain ⟨hok7, rfl, rfl⟩ := hp2
  obtain ⟨kw, hlkw, rfl⟩ := hok7
  refine g_aload_n C dX2_signal_10 rfl ?_
  refine g_get C 0 iX2_signal_X2 rfl rfl 0 (by decide) f10 rfl dX2_signal_11 ?_
  refine g_iload_n C dX2_signal_14 rfl ?_
  refine g_iload_n C dX2_signal_15 rfl ?_
  refine g_callVi C (wCo cI a b d mg pt bd tk ho ri lo fv hd lf la ++ wSo cI cW a b r2 hp rl cn be bw wo) (wL cI cZ cG a r nc nw cx cy ch rm on wx wy dm sv mu qq) [.int (nI kc), .int (nI kw)] (t_X0_signalOf (by omega) (by omega) (hg kc kw hlkc hlkw)) rfl rfl (cwV 2 C.ts gX2_signal_X0_signalOf rfl rfl rfl (by decide +kernel) ⟨Nat.le_of_ble_eq_true rfl, Nat.le_of_ble_eq_true rfl⟩) rfl rfl rfl (Nat.le_of_ble_eq_true rfl) dX2_signal_16 ⟨Nat.le_of_ble_eq_true rfl, Nat.le_of_ble_eq_true rfl⟩ (fun rv3 wv3 hp3 => ?_)
  obtain ⟨rfl, rfl⟩ := hp3
  exact gx_I (g_iret C hret dX2_signal_19 (Nat.le_of_ble_eq_true rfl) (Nat.le_of_ble_eq_true rfl) ⟨⟨⟨kc, hlkc, rfl⟩, ⟨kw, hlkw, rfl⟩⟩, (by rw [nI_clamp (by omega), nI_clamp (by omega)]), rfl⟩)
theorem iX2_quality_X0 : ∀ w ∈ u_ws RX0 TX0 13, w ∈ wsX2_quality := by decide +kernel
theorem iX2_quality_X2 : ∀ w ∈ u_ws RX2 TX2 13, w ∈ wsX2_quality := by decide +kernel
set_option maxHeartbeats 1000000 in
set_option maxRecDepth 100000 in
theorem t_X2_quality {l : Launch} (hl0 : l.stackTraces = false) {D : va_G} {cI cZ cJ cG cW : ClassId} {a b d : Nat → Nat} {mg pt bd tk ho ri lo : Int32} {fv hd lf la : Nat → Int32} {r2 : Nat → Nat} {hp rl cn be : Nat → Int32} {bw : Int32} {wo : Nat → Nat → Int32} {r : Nat → Nat} {nc nw : Nat} {cx cy ch rm on wx wy dm sv mu : Nat → Int32} {qq : Nat → Nat → Int32} {p1 p2 : Int32} (h5 : nc ≤ 5) (h6 : nw ≤ 6) (hr : ∀ c, c < nc → ¬ rm c ≤ 0) (hg : ∀ c w, c < nc → w < nw → ¬ dsq (cx c) (cy c) (wx w) (wy w) = 0) (hq : ∀ c w, c < nc → w < nw → ¬ 10 + fdi ch on (fil nc (fus rm sv dm nw) mu) (sgw cx cy wx wy w) c nc = 0) : CxI l yX2_quality wsX2_quality 7 111 4 24 D (T5 cI cZ cJ cG cW) [.ref (d 0), .int p1, .int p2] ((wCo cI a b d mg pt bd tk ho ri lo fv hd lf la ++ wSo cI cW a b r2 hp rl cn be bw wo) ++ wL cI cZ cG a r nc nw cx cy ch rm on wx wy dm sv mu qq) (fun rv wv => (IC nc p1 ∧ IC nw p2) ∧ rv = fqu cx cy ch on wx wy (fil nc (fus rm sv dm nw) mu) nc p2.toNatClampNeg p1.toNatClampNeg ∧ wv = ((wCo cI a b d mg pt bd tk ho ri lo fv hd lf la ++ wSo cI cW a b r2 hp rl cn be bw wo) ++ wL cI cZ cG a r nc nw cx cy ch rm on wx wy dm sv (fil nc (fus rm sv dm nw) mu) (fil2 nw nc (fun w c => fqu cx cy ch on wx wy (fil nc (fus rm sv dm nw) mu) nc w c) qq))) (fun Ev => ¬ (IC nc p1 ∧ IC nw p2) ∧ Ev = xIB) := by
  refine cxI_of (cc := cX2_quality) (maxL := 3) RX2 0 [some (.ref (d 0)), some (.int p1), some (.int p2)] (by decide +kernel) rfl rfl (Nat.le_of_ble_eq_true rfl) rfl (fun p_ e_ s_ m_ as_ bl_ me_ co_ C hret hE hX => ?_)
  have f10 := C.ts (.fieldLink RX2 10 "CellPlanner" "land" "LCellPlanner$Land;") (by decide +kernel)
  have f117 := C.ts (.fieldLink RX2 117 "CellPlanner$Land" "quality" "[[I") (by decide +kernel)
  refine g_aload_n C dX2_quality_0 rfl ?_
  refine g_iload_n C dX2_quality_1 rfl ?_
  refine gx_propVI C hE hX [] ((wCo cI a b d mg pt bd tk ho ri lo fv hd lf la ++ wSo cI cW a b r2 hp rl cn be bw wo) ++ wL cI cZ cG a r nc nw cx cy ch rm on wx wy dm sv mu qq) [.int p1] (t_X2_requireCell hl0 (by omega)) rfl rfl (cwV 1 C.ts gX2_quality_X2_requireCell rfl rfl rfl (by decide +kernel) ⟨Nat.le_of_ble_eq_true rfl, Nat.le_of_ble_eq_true rfl⟩) rfl rfl rfl rfl (Nat.le_of_ble_eq_true rfl) dX2_quality_2 ⟨Nat.le_of_ble_eq_true rfl, Nat.le_of_ble_eq_true rfl⟩ (Nat.le_of_ble_eq_true rfl) (Nat.le_of_ble_eq_true rfl) (fun _ h => ⟨fun q => h.1 q.1, h.2⟩) (fun wv1 tv1 hp1 => ?_)
  obtain ⟨hok2, rfl, rfl⟩ := hp1
  obtain ⟨kc, hlkc, rfl⟩ := hok2
  refine g_aload_n C dX2_quality_5 rfl ?_
  refine g_iload_n C dX2_quality_6 rfl ?_
  refine gx_propVI C hE hX [] ((wCo cI a b d mg pt bd tk ho ri lo fv hd lf la ++ wSo cI cW a b r2 hp rl cn be bw wo) ++ wL cI cZ cG a r nc nw cx cy ch rm on wx wy dm sv mu qq) [.int p2] (t_X2_requireWalker hl0 (by omega)) rfl rfl (cwV 1 C.ts gX2_quality_X2_requireWalker rfl rfl rfl (by decide +kernel) ⟨Nat.le_of_ble_eq_true rfl, Nat.le_of_ble_eq_true rfl⟩) rfl rfl rfl rfl (Nat.le_of_ble_eq_true rfl) dX2_quality_7 ⟨Nat.le_of_ble_eq_true rfl, Nat.le_of_ble_eq_true rfl⟩ (Nat.le_of_ble_eq_true rfl) (Nat.le_of_ble_eq_true rfl) (fun _ h => ⟨fun q => h.1 q.2, h.2⟩) (fun wv2 tv2 hp2 => ?_)
  obtain ⟨hok7, rfl, rfl⟩ := hp2
  obtain ⟨kw, hlkw, rfl⟩ := hok7
  refine g_aload_n C dX2_quality_10 rfl ?_
  refine g_get C 0 iX2_quality_X2 rfl rfl 0 (by decide) f10 rfl dX2_quality_11 ?_
  refine g_callVv C (wCo cI a b d mg pt bd tk ho ri lo fv hd lf la ++ wSo cI cW a b r2 hp rl cn be bw wo) (wL cI cZ cG a r nc nw cx cy ch rm on wx wy dm sv mu qq) [] (t_X0_measure h5 h6 hr hg hq) rfl rfl (cwV 0 C.ts gX2_quality_X0_measure rfl rfl rfl (by decide +kernel) ⟨Nat.le_of_ble_eq_true rfl, Nat.le_of_ble_eq_true rfl⟩) rfl rfl rfl (Nat.le_of_ble_eq_true rfl) dX2_quality_14 ⟨Nat.le_of_ble_eq_true rfl, Nat.le_of_ble_eq_true rfl⟩ (fun wv3 tv3 hp3 => ?_)
  obtain ⟨rfl, rfl⟩ := hp3
  refine g_aload_n C dX2_quality_17 rfl ?_
  refine g_get C 0 iX2_quality_X2 rfl rfl 0 (by decide) f10 rfl dX2_quality_18 ?_
  refine g_get C 17 iX2_quality_X0 rfl rfl 12 (by decide) f117 rfl dX2_quality_21 ?_
  refine g_iload_n C dX2_quality_24 rfl ?_
  refine g_aald C 28 3 rfl rfl kw rfl (by omega) (by decide) (r kw) (if_pos (by omega)) dX2_quality_25 ?_
  refine g_iload_n C dX2_quality_26 rfl ?_
  refine g_iald C (29 + kw) 0 (wC_row (by omega)) rfl kc rfl (by omega) (by decide) (fqu cx cy ch on wx wy (fil nc (fus rm sv dm nw) mu) nc kw kc) (if_pos ⟨hlkw, hlkc⟩) dX2_quality_27 ?_
  exact gx_I (g_iret C hret dX2_quality_28 (Nat.le_of_ble_eq_true rfl) (Nat.le_of_ble_eq_true rfl) ⟨⟨⟨kc, hlkc, rfl⟩, ⟨kw, hlkw, rfl⟩⟩, (by rw [nI_clamp (by omega), nI_clamp (by omega)]), rfl⟩)
theorem iX2_tune_X0 : ∀ w ∈ u_ws RX0 TX0 13, w ∈ wsX2_tune := by decide +kernel
theorem iX2_tune_X2 : ∀ w ∈ u_ws RX2 TX2 13, w ∈ wsX2_tune := by decide +kernel
set_option maxHeartbeats 1000000 in
set_option maxRecDepth 100000 in
theorem t_X2_tune {l : Launch} (hl0 : l.stackTraces = false) {D : va_G} {cI cZ cJ cG cW : ClassId} {a b d : Nat → Nat} {mg pt bd tk ho ri lo : Int32} {fv hd lf la : Nat → Int32} {r2 : Nat → Nat} {hp rl cn be : Nat → Int32} {bw : Int32} {wo : Nat → Nat → Int32} {r : Nat → Nat} {nc nw : Nat} {cx cy ch rm on wx wy dm sv mu : Nat → Int32} {qq : Nat → Nat → Int32} {p1 p2 : Int32} (h5 : nc ≤ 5) : CxI l yX2_tune wsX2_tune 7 113 4 24 D (T5 cI cZ cJ cG cW) [.ref (d 0), .int p1, .int p2] ((wCo cI a b d mg pt bd tk ho ri lo fv hd lf la ++ wSo cI cW a b r2 hp rl cn be bw wo) ++ wL cI cZ cG a r nc nw cx cy ch rm on wx wy dm sv mu qq) (fun rv wv => (IC nc p1 ∧ (0 ≤ p2 ∧ p2 ≤ 2)) ∧ rv = ch p1.toNatClampNeg ∧ wv = ((wCo cI a b d mg pt bd tk ho ri lo fv hd lf la ++ wSo cI cW a b r2 hp rl cn be bw wo) ++ wL cI cZ cG a r nc nw cx cy (upd ch p1.toNatClampNeg p2) rm on wx wy dm sv mu qq)) (fun Ev => (¬ IC nc p1 ∧ Ev = xIB) ∨ (IC nc p1 ∧ ¬ (0 ≤ p2 ∧ p2 ≤ 2) ∧ Ev = xIA)) := by
  refine cxI_of (cc := cX2_tune) (maxL := 4) RX2 1 [some (.ref (d 0)), some (.int p1), some (.int p2), none] (by decide +kernel) rfl rfl (Nat.le_of_ble_eq_true rfl) rfl (fun p_ e_ s_ m_ as_ bl_ me_ co_ C hret hE hX => ?_)
  have f10 := C.ts (.fieldLink RX2 10 "CellPlanner" "land" "LCellPlanner$Land;") (by decide +kernel)
  have f77 := C.ts (.fieldLink RX2 77 "CellPlanner$Land" "channel" "[I") (by decide +kernel)
  refine g_aload_n C dX2_tune_0 rfl ?_
  refine g_iload_n C dX2_tune_1 rfl ?_
  refine gx_propVI C hE hX [] ((wCo cI a b d mg pt bd tk ho ri lo fv hd lf la ++ wSo cI cW a b r2 hp rl cn be bw wo) ++ wL cI cZ cG a r nc nw cx cy ch rm on wx wy dm sv mu qq) [.int p1] (t_X2_requireCell hl0 (by omega)) rfl rfl (cwV 1 C.ts gX2_tune_X2_requireCell rfl rfl rfl (by decide +kernel) ⟨Nat.le_of_ble_eq_true rfl, Nat.le_of_ble_eq_true rfl⟩) rfl rfl rfl rfl (Nat.le_of_ble_eq_true rfl) dX2_tune_2 ⟨Nat.le_of_ble_eq_true rfl, Nat.le_of_ble_eq_true rfl⟩ (Nat.le_of_ble_eq_true rfl) (Nat.le_of_ble_eq_true rfl) (fun _ h => Or.inl h) (fun wv1 tv1 hp1 => ?_)
  obtain ⟨hok2, rfl, rfl⟩ := hp1
  obtain ⟨kc, hlkc, rfl⟩ := hok2
  refine g_iload_n C dX2_tune_5 rfl ?_
  refine g_i2l C p2.toInt64 dX2_tune_6 rfl ?_
  refine g_iconst C 0 dX2_tune_7 (by decide +kernel) ?_
  refine g_iconst C 2 dX2_tune_8 (by decide +kernel) ?_
  refine gx_propSI C hE hX ((wCo cI a b d mg pt bd tk ho ri lo fv hd lf la ++ wSo cI cW a b r2 hp rl cn be bw wo) ++ wL cI cZ cG a r nc nw cx cy ch rm on wx wy dm sv mu qq) [] [.long p2.toInt64, .int 0, .int 2] (t_X2_requireRange hl0) (va_cwS 3 C.ts gX2_tune_X2_requireRange rfl rfl rfl (by decide +kernel) ⟨Nat.le_of_ble_eq_true rfl, Nat.le_of_ble_eq_true rfl⟩) rfl (List.append_nil _).symm (List.append_nil _) rfl (Nat.le_of_ble_eq_true rfl) dX2_tune_9 ⟨Nat.le_of_ble_eq_true rfl, Nat.le_of_ble_eq_true rfl⟩ (Nat.le_of_ble_eq_true rfl) (Nat.le_of_ble_eq_true rfl) (fun _ h => Or.inr ⟨⟨kc, hlkc, rfl⟩, fun q => h.1 (rng_i.mpr q), h.2⟩) (fun wv2 tv2 hp2 => ?_)
  obtain ⟨hok9, rfl, rfl⟩ := hp2
  refine g_w (ws' := ((wCo cI a b d mg pt bd tk ho ri lo fv hd lf la ++ wSo cI cW a b r2 hp rl cn be bw wo) ++ wL cI cZ cG a r nc nw cx cy ch rm on wx wy dm sv mu qq)) (List.append_nil _) ?_
  refine g_aload_n C dX2_tune_12 rfl ?_
  refine g_get C 0 iX2_tune_X2 rfl rfl 0 (by decide) f10 rfl dX2_tune_13 ?_
  refine g_get C 17 iX2_tune_X0 rfl rfl 2 (by decide) f77 rfl dX2_tune_16 ?_
  refine g_iload_n C dX2_tune_19 rfl ?_
  refine g_iald C 20 0 rfl rfl kc rfl (by omega) (by decide) (ch kc) rfl dX2_tune_20 ?_
  refine g_istore_n C [some (.ref (d 0)), some (.int (nI kc)), some (.int p2), some (.int (ch kc))] dX2_tune_21 (by decide) rfl rfl ?_
  refine g_aload_n C dX2_tune_22 rfl ?_
  refine g_get C 0 iX2_tune_X2 rfl rfl 0 (by decide) f10 rfl dX2_tune_23 ?_
  refine g_get C 17 iX2_tune_X0 rfl rfl 2 (by decide) f77 rfl dX2_tune_26 ?_
  refine g_iload_n C dX2_tune_29 rfl ?_
  refine g_iload_n C dX2_tune_30 rfl ?_
  refine g_iast C 20 0 rfl rfl kc rfl (by omega) (by decide) ((wCo cI a b d mg pt bd tk ho ri lo fv hd lf la ++ wSo cI cW a b r2 hp rl cn be bw wo) ++ wL cI cZ cG a r nc nw cx cy (upd ch kc p2) rm on wx wy dm sv mu qq) rfl dX2_tune_31 ?_
  refine g_iload_n C dX2_tune_32 rfl ?_
  exact gx_I (g_iret C hret dX2_tune_33 (Nat.le_of_ble_eq_true rfl) (Nat.le_of_ble_eq_true rfl) ⟨⟨⟨kc, hlkc, rfl⟩, rng_i.mp hok9⟩, (by rw [nI_clamp (by omega)]), (by rw [nI_clamp (by omega)] <;> rfl)⟩)
theorem iX2_margin_X2 : ∀ w ∈ u_ws RX2 TX2 13, w ∈ wsX2_margin := by decide +kernel
set_option maxHeartbeats 1000000 in
set_option maxRecDepth 100000 in
theorem t_X2_margin {l : Launch} (hl0 : l.stackTraces = false) {D : va_G} {cI cZ cJ cG cW : ClassId} {a b d : Nat → Nat} {mg pt bd tk ho ri lo : Int32} {fv hd lf la : Nat → Int32} {r2 : Nat → Nat} {hp rl cn be : Nat → Int32} {bw : Int32} {wo : Nat → Nat → Int32} {r : Nat → Nat} {nc nw : Nat} {cx cy ch rm on wx wy dm sv mu : Nat → Int32} {qq : Nat → Nat → Int32} {p1 : Int32}  : CxI l yX2_margin wsX2_margin 7 113 2 12 D (T5 cI cZ cJ cG cW) [.ref (d 0), .int p1] ((wCo cI a b d mg pt bd tk ho ri lo fv hd lf la ++ wSo cI cW a b r2 hp rl cn be bw wo) ++ wL cI cZ cG a r nc nw cx cy ch rm on wx wy dm sv mu qq) (fun rv wv => (0 ≤ p1 ∧ p1 ≤ 1000) ∧ rv = mg ∧ wv = ((wCo cI a b d p1 pt bd tk ho ri lo fv hd lf la ++ wSo cI cW a b r2 hp rl cn be bw wo) ++ wL cI cZ cG a r nc nw cx cy ch rm on wx wy dm sv mu qq)) (fun Ev => ¬ (0 ≤ p1 ∧ p1 ≤ 1000) ∧ Ev = xIA) := by
  refine cxI_of (cc := cX2_margin) (maxL := 3) RX2 1 [some (.ref (d 0)), some (.int p1), none] (by decide +kernel) rfl rfl (Nat.le_of_ble_eq_true rfl) rfl (fun p_ e_ s_ m_ as_ bl_ me_ co_ C hret hE hX => ?_)
  have f38 := C.ts (.fieldLink RX2 38 "CellPlanner" "margin" "I") (by decide +kernel)
  refine g_iload_n C dX2_margin_0 rfl ?_
  refine g_i2l C p1.toInt64 dX2_margin_1 rfl ?_
  refine g_iconst C 0 dX2_margin_2 (by decide +kernel) ?_
  refine g_sipush C 1000 dX2_margin_3 (by decide +kernel) ?_
  refine gx_propSI C hE hX ((wCo cI a b d mg pt bd tk ho ri lo fv hd lf la ++ wSo cI cW a b r2 hp rl cn be bw wo) ++ wL cI cZ cG a r nc nw cx cy ch rm on wx wy dm sv mu qq) [] [.long p1.toInt64, .int 0, .int 1000] (t_X2_requireRange hl0) (va_cwS 3 C.ts gX2_margin_X2_requireRange rfl rfl rfl (by decide +kernel) ⟨Nat.le_of_ble_eq_true rfl, Nat.le_of_ble_eq_true rfl⟩) rfl (List.append_nil _).symm (List.append_nil _) rfl (Nat.le_of_ble_eq_true rfl) dX2_margin_6 ⟨Nat.le_of_ble_eq_true rfl, Nat.le_of_ble_eq_true rfl⟩ (Nat.le_of_ble_eq_true rfl) (Nat.le_of_ble_eq_true rfl) (fun _ h => ⟨fun q => h.1 (rng_i.mpr q), h.2⟩) (fun wv1 tv1 hp1 => ?_)
  obtain ⟨hok6, rfl, rfl⟩ := hp1
  refine g_w (ws' := ((wCo cI a b d mg pt bd tk ho ri lo fv hd lf la ++ wSo cI cW a b r2 hp rl cn be bw wo) ++ wL cI cZ cG a r nc nw cx cy ch rm on wx wy dm sv mu qq)) (List.append_nil _) ?_
  refine g_aload_n C dX2_margin_9 rfl ?_
  refine g_get C 0 iX2_margin_X2 rfl rfl 6 (by decide) f38 rfl dX2_margin_10 ?_
  refine g_istore_n C [some (.ref (d 0)), some (.int p1), some (.int mg)] dX2_margin_13 (by decide) rfl rfl ?_
  refine g_aload_n C dX2_margin_14 rfl ?_
  refine g_iload_n C dX2_margin_15 rfl ?_
  refine g_put C 0 iX2_margin_X2 rfl rfl 6 (by decide) f38 rfl tyX2 tyX2_ok nmX2 (ty := .int) (by decide +kernel) rfl rfl (Nat.le_of_ble_eq_true rfl) ((wCo cI a b d p1 pt bd tk ho ri lo fv hd lf la ++ wSo cI cW a b r2 hp rl cn be bw wo) ++ wL cI cZ cG a r nc nw cx cy ch rm on wx wy dm sv mu qq) rfl dX2_margin_16 ?_
  refine g_iload_n C dX2_margin_19 rfl ?_
  exact gx_I (g_iret C hret dX2_margin_20 (Nat.le_of_ble_eq_true rfl) (Nat.le_of_ble_eq_true rfl) ⟨(rng_i.mp hok6), rfl, rfl⟩)
theorem iX2_patience_X2 : ∀ w ∈ u_ws RX2 TX2 13, w ∈ wsX2_patience := by decide +kernel
set_option maxHeartbeats 1000000 in
set_option maxRecDepth 100000 in
theorem t_X2_patience {l : Launch} (hl0 : l.stackTraces = false) {D : va_G} {cI cZ cJ cG cW : ClassId} {a b d : Nat → Nat} {mg pt bd tk ho ri lo : Int32} {fv hd lf la : Nat → Int32} {r2 : Nat → Nat} {hp rl cn be : Nat → Int32} {bw : Int32} {wo : Nat → Nat → Int32} {r : Nat → Nat} {nc nw : Nat} {cx cy ch rm on wx wy dm sv mu : Nat → Int32} {qq : Nat → Nat → Int32} {p1 : Int32}  : CxI l yX2_patience wsX2_patience 7 113 2 12 D (T5 cI cZ cJ cG cW) [.ref (d 0), .int p1] ((wCo cI a b d mg pt bd tk ho ri lo fv hd lf la ++ wSo cI cW a b r2 hp rl cn be bw wo) ++ wL cI cZ cG a r nc nw cx cy ch rm on wx wy dm sv mu qq) (fun rv wv => (1 ≤ p1 ∧ p1 ≤ 10) ∧ rv = pt ∧ wv = ((wCo cI a b d mg p1 bd tk ho ri lo fv hd lf la ++ wSo cI cW a b r2 hp rl cn be bw wo) ++ wL cI cZ cG a r nc nw cx cy ch rm on wx wy dm sv mu qq)) (fun Ev => ¬ (1 ≤ p1 ∧ p1 ≤ 10) ∧ Ev = xIA) := by
  refine cxI_of (cc := cX2_patience) (maxL := 3) RX2 1 [some (.ref (d 0)), some (.int p1), none] (by decide +kernel) rfl rfl (Nat.le_of_ble_eq_true rfl) rfl (fun p_ e_ s_ m_ as_ bl_ me_ co_ C hret hE hX => ?_)
  have f42 := C.ts (.fieldLink RX2 42 "CellPlanner" "patience" "I") (by decide +kernel)
  refine g_iload_n C dX2_patience_0 rfl ?_
  refine g_i2l C p1.toInt64 dX2_patience_1 rfl ?_
  refine g_iconst C 1 dX2_patience_2 (by decide +kernel) ?_
  refine g_bipush C 10 dX2_patience_3 (by decide +kernel) ?_
  refine gx_propSI C hE hX ((wCo cI a b d mg pt bd tk ho ri lo fv hd lf la ++ wSo cI cW a b r2 hp rl cn be bw wo) ++ wL cI cZ cG a r nc nw cx cy ch rm on wx wy dm sv mu qq) [] [.long p1.toInt64, .int 1, .int 10] (t_X2_requireRange hl0) (va_cwS 3 C.ts gX2_patience_X2_requireRange rfl rfl rfl (by decide +kernel) ⟨Nat.le_of_ble_eq_true rfl, Nat.le_of_ble_eq_true rfl⟩) rfl (List.append_nil _).symm (List.append_nil _) rfl (Nat.le_of_ble_eq_true rfl) dX2_patience_5 ⟨Nat.le_of_ble_eq_true rfl, Nat.le_of_ble_eq_true rfl⟩ (Nat.le_of_ble_eq_true rfl) (Nat.le_of_ble_eq_true rfl) (fun _ h => ⟨fun q => h.1 (rng_i.mpr q), h.2⟩) (fun wv1 tv1 hp1 => ?_)
  obtain ⟨hok5, rfl, rfl⟩ := hp1
  refine g_w (ws' := ((wCo cI a b d mg pt bd tk ho ri lo fv hd lf la ++ wSo cI cW a b r2 hp rl cn be bw wo) ++ wL cI cZ cG a r nc nw cx cy ch rm on wx wy dm sv mu qq)) (List.append_nil _) ?_
  refine g_aload_n C dX2_patience_8 rfl ?_
  refine g_get C 0 iX2_patience_X2 rfl rfl 7 (by decide) f42 rfl dX2_patience_9 ?_
  refine g_istore_n C [some (.ref (d 0)), some (.int p1), some (.int pt)] dX2_patience_12 (by decide) rfl rfl ?_
  refine g_aload_n C dX2_patience_13 rfl ?_
  refine g_iload_n C dX2_patience_14 rfl ?_
  refine g_put C 0 iX2_patience_X2 rfl rfl 7 (by decide) f42 rfl tyX2 tyX2_ok nmX2 (ty := .int) (by decide +kernel) rfl rfl (Nat.le_of_ble_eq_true rfl) ((wCo cI a b d mg p1 bd tk ho ri lo fv hd lf la ++ wSo cI cW a b r2 hp rl cn be bw wo) ++ wL cI cZ cG a r nc nw cx cy ch rm on wx wy dm sv mu qq) rfl dX2_patience_15 ?_
  refine g_iload_n C dX2_patience_18 rfl ?_
  exact gx_I (g_iret C hret dX2_patience_19 (Nat.le_of_ble_eq_true rfl) (Nat.le_of_ble_eq_true rfl) ⟨(rng_i.mp hok5), rfl, rfl⟩)
theorem iX2_bound_X2 : ∀ w ∈ u_ws RX2 TX2 13, w ∈ wsX2_bound := by decide +kernel
set_option maxHeartbeats 1000000 in
set_option maxRecDepth 100000 in
theorem t_X2_bound {l : Launch} (hl0 : l.stackTraces = false) {D : va_G} {cI cZ cJ cG cW : ClassId} {a b d : Nat → Nat} {mg pt bd tk ho ri lo : Int32} {fv hd lf la : Nat → Int32} {r2 : Nat → Nat} {hp rl cn be : Nat → Int32} {bw : Int32} {wo : Nat → Nat → Int32} {r : Nat → Nat} {nc nw : Nat} {cx cy ch rm on wx wy dm sv mu : Nat → Int32} {qq : Nat → Nat → Int32} {p1 : Int32}  : CxI l yX2_bound wsX2_bound 7 113 2 12 D (T5 cI cZ cJ cG cW) [.ref (d 0), .int p1] ((wCo cI a b d mg pt bd tk ho ri lo fv hd lf la ++ wSo cI cW a b r2 hp rl cn be bw wo) ++ wL cI cZ cG a r nc nw cx cy ch rm on wx wy dm sv mu qq) (fun rv wv => (1 ≤ p1 ∧ p1 ≤ 10000) ∧ rv = bd ∧ wv = ((wCo cI a b d mg pt p1 tk ho ri lo fv hd lf la ++ wSo cI cW a b r2 hp rl cn be bw wo) ++ wL cI cZ cG a r nc nw cx cy ch rm on wx wy dm sv mu qq)) (fun Ev => ¬ (1 ≤ p1 ∧ p1 ≤ 10000) ∧ Ev = xIA) := by
  refine cxI_of (cc := cX2_bound) (maxL := 3) RX2 1 [some (.ref (d 0)), some (.int p1), none] (by decide +kernel) rfl rfl (Nat.le_of_ble_eq_true rfl) rfl (fun p_ e_ s_ m_ as_ bl_ me_ co_ C hret hE hX => ?_)
  have f45 := C.ts (.fieldLink RX2 45 "CellPlanner" "bound" "I") (by decide +kernel)
  refine g_iload_n C dX2_bound_0 rfl ?_
  refine g_i2l C p1.toInt64 dX2_bound_1 rfl ?_
  refine g_iconst C 1 dX2_bound_2 (by decide +kernel) ?_
  refine g_sipush C 10000 dX2_bound_3 (by decide +kernel) ?_
  refine gx_propSI C hE hX ((wCo cI a b d mg pt bd tk ho ri lo fv hd lf la ++ wSo cI cW a b r2 hp rl cn be bw wo) ++ wL cI cZ cG a r nc nw cx cy ch rm on wx wy dm sv mu qq) [] [.long p1.toInt64, .int 1, .int 10000] (t_X2_requireRange hl0) (va_cwS 3 C.ts gX2_bound_X2_requireRange rfl rfl rfl (by decide +kernel) ⟨Nat.le_of_ble_eq_true rfl, Nat.le_of_ble_eq_true rfl⟩) rfl (List.append_nil _).symm (List.append_nil _) rfl (Nat.le_of_ble_eq_true rfl) dX2_bound_6 ⟨Nat.le_of_ble_eq_true rfl, Nat.le_of_ble_eq_true rfl⟩ (Nat.le_of_ble_eq_true rfl) (Nat.le_of_ble_eq_true rfl) (fun _ h => ⟨fun q => h.1 (rng_i.mpr q), h.2⟩) (fun wv1 tv1 hp1 => ?_)
  obtain ⟨hok6, rfl, rfl⟩ := hp1
  refine g_w (ws' := ((wCo cI a b d mg pt bd tk ho ri lo fv hd lf la ++ wSo cI cW a b r2 hp rl cn be bw wo) ++ wL cI cZ cG a r nc nw cx cy ch rm on wx wy dm sv mu qq)) (List.append_nil _) ?_
  refine g_aload_n C dX2_bound_9 rfl ?_
  refine g_get C 0 iX2_bound_X2 rfl rfl 8 (by decide) f45 rfl dX2_bound_10 ?_
  refine g_istore_n C [some (.ref (d 0)), some (.int p1), some (.int bd)] dX2_bound_13 (by decide) rfl rfl ?_
  refine g_aload_n C dX2_bound_14 rfl ?_
  refine g_iload_n C dX2_bound_15 rfl ?_
  refine g_put C 0 iX2_bound_X2 rfl rfl 8 (by decide) f45 rfl tyX2 tyX2_ok nmX2 (ty := .int) (by decide +kernel) rfl rfl (Nat.le_of_ble_eq_true rfl) ((wCo cI a b d mg pt p1 tk ho ri lo fv hd lf la ++ wSo cI cW a b r2 hp rl cn be bw wo) ++ wL cI cZ cG a r nc nw cx cy ch rm on wx wy dm sv mu qq) rfl dX2_bound_16 ?_
  refine g_iload_n C dX2_bound_19 rfl ?_
  exact gx_I (g_iret C hret dX2_bound_20 (Nat.le_of_ble_eq_true rfl) (Nat.le_of_ble_eq_true rfl) ⟨(rng_i.mp hok6), rfl, rfl⟩)
theorem iX2_move_X0 : ∀ w ∈ u_ws RX0 TX0 13, w ∈ wsX2_move := by decide +kernel
theorem iX2_move_X2 : ∀ w ∈ u_ws RX2 TX2 13, w ∈ wsX2_move := by decide +kernel
set_option maxHeartbeats 1000000 in
set_option maxRecDepth 100000 in
theorem t_X2_move {l : Launch} (hl0 : l.stackTraces = false) {D : va_G} {cI cZ cJ cG cW : ClassId} {a b d : Nat → Nat} {mg pt bd tk ho ri lo : Int32} {fv hd lf la : Nat → Int32} {r2 : Nat → Nat} {hp rl cn be : Nat → Int32} {bw : Int32} {wo : Nat → Nat → Int32} {r : Nat → Nat} {nc nw : Nat} {cx cy ch rm on wx wy dm sv mu : Nat → Int32} {qq : Nat → Nat → Int32} {p1 p2 p3 : Int32} (h6 : nw ≤ 6) : CxV l yX2_move wsX2_move 7 113 6 36 D (T5 cI cZ cJ cG cW) [.ref (d 0), .int p1, .int p2, .int p3] ((wCo cI a b d mg pt bd tk ho ri lo fv hd lf la ++ wSo cI cW a b r2 hp rl cn be bw wo) ++ wL cI cZ cG a r nc nw cx cy ch rm on wx wy dm sv mu qq) (fun wv tv => (IC nw p1 ∧ rng (mvx wx p1 p2) 0 63 ∧ rng (mvx wy p1 p3) 0 63) ∧ wv = ((wCo cI a b d mg pt bd tk ho ri lo fv hd lf la ++ wSo cI cW a b r2 hp rl cn be bw wo) ++ wL cI cZ cG a r nc nw cx cy ch rm on (upd wx p1.toNatClampNeg (mvx wx p1 p2).toInt32) (upd wy p1.toNatClampNeg (mvx wy p1 p3).toInt32) dm sv mu qq) ∧ tv = (T5 cI cZ cJ cG cW)) (fun Ev => (¬ IC nw p1 ∧ Ev = xIB) ∨ (IC nw p1 ∧ ¬ (rng (mvx wx p1 p2) 0 63 ∧ rng (mvx wy p1 p3) 0 63) ∧ Ev = xIA)) := by
  refine cxV_of (cc := cX2_move) (maxL := 8) RX2 4 [some (.ref (d 0)), some (.int p1), some (.int p2), some (.int p3), none, none, none, none] (by decide +kernel) rfl rfl (Nat.le_of_ble_eq_true rfl) rfl (fun p_ e_ s_ m_ as_ bl_ me_ co_ C hret hE hX => ?_)
  have f10 := C.ts (.fieldLink RX2 10 "CellPlanner" "land" "LCellPlanner$Land;") (by decide +kernel)
  have f95 := C.ts (.fieldLink RX2 95 "CellPlanner$Land" "walkerX" "[I") (by decide +kernel)
  have f98 := C.ts (.fieldLink RX2 98 "CellPlanner$Land" "walkerY" "[I") (by decide +kernel)
  refine g_aload_n C dX2_move_0 rfl ?_
  refine g_iload_n C dX2_move_1 rfl ?_
  refine gx_propVV C hE hX [] ((wCo cI a b d mg pt bd tk ho ri lo fv hd lf la ++ wSo cI cW a b r2 hp rl cn be bw wo) ++ wL cI cZ cG a r nc nw cx cy ch rm on wx wy dm sv mu qq) [.int p1] (t_X2_requireWalker hl0 (by omega)) rfl rfl (cwV 1 C.ts gX2_move_X2_requireWalker rfl rfl rfl (by decide +kernel) ⟨Nat.le_of_ble_eq_true rfl, Nat.le_of_ble_eq_true rfl⟩) rfl rfl rfl rfl (Nat.le_of_ble_eq_true rfl) dX2_move_2 ⟨Nat.le_of_ble_eq_true rfl, Nat.le_of_ble_eq_true rfl⟩ (Nat.le_of_ble_eq_true rfl) (Nat.le_of_ble_eq_true rfl) (fun _ h => Or.inl h) (fun wv1 tv1 hp1 => ?_)
  obtain ⟨hok2, rfl, rfl⟩ := hp1
  obtain ⟨kc, hlkc, rfl⟩ := hok2
  have hkl : (nI kc).toNatClampNeg = kc := nI_clamp (by omega)
  refine g_aload_n C dX2_move_5 rfl ?_
  refine g_get C 0 iX2_move_X2 rfl rfl 0 (by decide) f10 rfl dX2_move_6 ?_
  refine g_get C 17 iX2_move_X0 rfl rfl 6 (by decide) f95 rfl dX2_move_9 ?_
  refine g_iload_n C dX2_move_12 rfl ?_
  refine g_iald C 23 0 rfl rfl kc rfl (by omega) (by decide) (wx kc) rfl dX2_move_13 ?_
  refine g_i2l C ((wx kc).toInt64) dX2_move_14 rfl ?_
  refine g_iload_n C dX2_move_15 rfl ?_
  refine g_i2l C p2.toInt64 dX2_move_16 rfl ?_
  refine g_ladd C (mvx wx (nI kc) p2) dX2_move_17 (by unfold mvx; rw [hkl]) ?_
  refine g_lstore C [some (.ref (d 0)), some (.int (nI kc)), some (.int p2), some (.int p3), some (.long (mvx wx (nI kc) p2)), none, none, none] dX2_move_18 (by decide) rfl rfl ?_
  refine g_aload_n C dX2_move_20 rfl ?_
  refine g_get C 0 iX2_move_X2 rfl rfl 0 (by decide) f10 rfl dX2_move_21 ?_
  refine g_get C 17 iX2_move_X0 rfl rfl 7 (by decide) f98 rfl dX2_move_24 ?_
  refine g_iload_n C dX2_move_27 rfl ?_
  refine g_iald C 24 0 rfl rfl kc rfl (by omega) (by decide) (wy kc) rfl dX2_move_28 ?_
  refine g_i2l C ((wy kc).toInt64) dX2_move_29 rfl ?_
  refine g_iload_n C dX2_move_30 rfl ?_
  refine g_i2l C p3.toInt64 dX2_move_31 rfl ?_
  refine g_ladd C (mvx wy (nI kc) p3) dX2_move_32 (by unfold mvx; rw [hkl]) ?_
  refine g_lstore C [some (.ref (d 0)), some (.int (nI kc)), some (.int p2), some (.int p3), some (.long (mvx wx (nI kc) p2)), none, some (.long (mvx wy (nI kc) p3)), none] dX2_move_33 (by decide) rfl rfl ?_
  refine g_lload C dX2_move_35 rfl ?_
  refine g_iconst C 0 dX2_move_37 (by decide +kernel) ?_
  refine g_bipush C 63 dX2_move_38 (by decide +kernel) ?_
  refine gx_propSV C hE hX ((wCo cI a b d mg pt bd tk ho ri lo fv hd lf la ++ wSo cI cW a b r2 hp rl cn be bw wo) ++ wL cI cZ cG a r nc nw cx cy ch rm on wx wy dm sv mu qq) [] [.long (mvx wx (nI kc) p2), .int 0, .int 63] (t_X2_requireRange hl0) (va_cwS 3 C.ts gX2_move_X2_requireRange rfl rfl rfl (by decide +kernel) ⟨Nat.le_of_ble_eq_true rfl, Nat.le_of_ble_eq_true rfl⟩) rfl (List.append_nil _).symm (List.append_nil _) rfl (Nat.le_of_ble_eq_true rfl) dX2_move_40 ⟨Nat.le_of_ble_eq_true rfl, Nat.le_of_ble_eq_true rfl⟩ (Nat.le_of_ble_eq_true rfl) (Nat.le_of_ble_eq_true rfl) (fun _ h => Or.inr ⟨⟨kc, hlkc, rfl⟩, fun q => h.1 q.1, h.2⟩) (fun wv2 tv2 hp2 => ?_)
  obtain ⟨hok40, rfl, rfl⟩ := hp2
  refine g_w (ws' := ((wCo cI a b d mg pt bd tk ho ri lo fv hd lf la ++ wSo cI cW a b r2 hp rl cn be bw wo) ++ wL cI cZ cG a r nc nw cx cy ch rm on wx wy dm sv mu qq)) (List.append_nil _) ?_
  refine g_lload C dX2_move_43 rfl ?_
  refine g_iconst C 0 dX2_move_45 (by decide +kernel) ?_
  refine g_bipush C 63 dX2_move_46 (by decide +kernel) ?_
  refine gx_propSV C hE hX ((wCo cI a b d mg pt bd tk ho ri lo fv hd lf la ++ wSo cI cW a b r2 hp rl cn be bw wo) ++ wL cI cZ cG a r nc nw cx cy ch rm on wx wy dm sv mu qq) [] [.long (mvx wy (nI kc) p3), .int 0, .int 63] (t_X2_requireRange hl0) (va_cwS 3 C.ts gX2_move_X2_requireRange rfl rfl rfl (by decide +kernel) ⟨Nat.le_of_ble_eq_true rfl, Nat.le_of_ble_eq_true rfl⟩) rfl (List.append_nil _).symm (List.append_nil _) rfl (Nat.le_of_ble_eq_true rfl) dX2_move_48 ⟨Nat.le_of_ble_eq_true rfl, Nat.le_of_ble_eq_true rfl⟩ (Nat.le_of_ble_eq_true rfl) (Nat.le_of_ble_eq_true rfl) (fun _ h => Or.inr ⟨⟨kc, hlkc, rfl⟩, fun q => h.1 q.2, h.2⟩) (fun wv3 tv3 hp3 => ?_)
  obtain ⟨hok48, rfl, rfl⟩ := hp3
  refine g_w (ws' := ((wCo cI a b d mg pt bd tk ho ri lo fv hd lf la ++ wSo cI cW a b r2 hp rl cn be bw wo) ++ wL cI cZ cG a r nc nw cx cy ch rm on wx wy dm sv mu qq)) (List.append_nil _) ?_
  refine g_aload_n C dX2_move_51 rfl ?_
  refine g_get C 0 iX2_move_X2 rfl rfl 0 (by decide) f10 rfl dX2_move_52 ?_
  refine g_get C 17 iX2_move_X0 rfl rfl 6 (by decide) f95 rfl dX2_move_55 ?_
  refine g_iload_n C dX2_move_58 rfl ?_
  refine g_lload C dX2_move_59 rfl ?_
  refine g_l2i C ((mvx wx (nI kc) p2).toInt32) dX2_move_61 rfl ?_
  refine g_iast C 23 0 rfl rfl kc rfl (by omega) (by decide) ((wCo cI a b d mg pt bd tk ho ri lo fv hd lf la ++ wSo cI cW a b r2 hp rl cn be bw wo) ++ wL cI cZ cG a r nc nw cx cy ch rm on (upd wx kc ((mvx wx (nI kc) p2).toInt32)) wy dm sv mu qq) rfl dX2_move_62 ?_
  refine g_aload_n C dX2_move_63 rfl ?_
  refine g_get C 0 iX2_move_X2 rfl rfl 0 (by decide) f10 rfl dX2_move_64 ?_
  refine g_get C 17 iX2_move_X0 rfl rfl 7 (by decide) f98 rfl dX2_move_67 ?_
  refine g_iload_n C dX2_move_70 rfl ?_
  refine g_lload C dX2_move_71 rfl ?_
  refine g_l2i C ((mvx wy (nI kc) p3).toInt32) dX2_move_73 rfl ?_
  refine g_iast C 24 0 rfl rfl kc rfl (by omega) (by decide) ((wCo cI a b d mg pt bd tk ho ri lo fv hd lf la ++ wSo cI cW a b r2 hp rl cn be bw wo) ++ wL cI cZ cG a r nc nw cx cy ch rm on (upd wx kc ((mvx wx (nI kc) p2).toInt32)) (upd wy kc ((mvx wy (nI kc) p3).toInt32)) dm sv mu qq) rfl dX2_move_74 ?_
  exact gx_V (g_vret C hret dX2_move_75 (Nat.le_of_ble_eq_true rfl) (Nat.le_of_ble_eq_true rfl) ⟨⟨⟨kc, hlkc, rfl⟩, hok40, hok48⟩, (by rw [hkl] <;> rfl), rfl⟩)
theorem iX2_turn_X0 : ∀ w ∈ u_ws RX0 TX0 13, w ∈ wsX2_turn := by decide +kernel
theorem iX2_turn_X2 : ∀ w ∈ u_ws RX2 TX2 13, w ∈ wsX2_turn := by decide +kernel
set_option maxHeartbeats 1000000 in
set_option maxRecDepth 100000 in
theorem t_X2_turn {l : Launch} (hl0 : l.stackTraces = false) {D : va_G} {cI cZ cJ cG cW : ClassId} {a b d : Nat → Nat} {mg pt bd tk ho ri lo : Int32} {fv hd lf la : Nat → Int32} {r2 : Nat → Nat} {hp rl cn be : Nat → Int32} {bw : Int32} {wo : Nat → Nat → Int32} {r : Nat → Nat} {nc nw : Nat} {cx cy ch rm on wx wy dm sv mu : Nat → Int32} {qq : Nat → Nat → Int32} {p1 : Int32} (h5 : nc ≤ 5) (h6 : nw ≤ 6) : CxI l yX2_turn wsX2_turn 7 111 2 12 D (T5 cI cZ cJ cG cW) [.ref (d 0), .int p1] ((wCo cI a b d mg pt bd tk ho ri lo fv hd lf la ++ wSo cI cW a b r2 hp rl cn be bw wo) ++ wL cI cZ cG a r nc nw cx cy ch rm on wx wy dm sv mu qq) (fun rv wv => IC nc p1 ∧ rv = ftn (on p1.toNatClampNeg) ∧ wv = ((wCo cI a b d mg pt bd tk ho ri lo ((if on p1.toNatClampNeg = 0 then (sv, fv, hd) else frw p1 (sv, fv, hd) nw).2.1) ((if on p1.toNatClampNeg = 0 then (sv, fv, hd) else frw p1 (sv, fv, hd) nw).2.2) lf la ++ wSo cI cW a b r2 hp rl cn be bw wo) ++ wL cI cZ cG a r nc nw cx cy ch rm (upd on p1.toNatClampNeg (ftn (on p1.toNatClampNeg))) wx wy dm ((if on p1.toNatClampNeg = 0 then (sv, fv, hd) else frw p1 (sv, fv, hd) nw).1) mu qq)) (fun Ev => ¬ IC nc p1 ∧ Ev = xIB) := by
  refine cxI_of (cc := cX2_turn) (maxL := 2) RX2 0 [some (.ref (d 0)), some (.int p1)] (by decide +kernel) rfl rfl (Nat.le_of_ble_eq_true rfl) rfl (fun p_ e_ s_ m_ as_ bl_ me_ co_ C hret hE hX => ?_)
  have f10 := C.ts (.fieldLink RX2 10 "CellPlanner" "land" "LCellPlanner$Land;") (by decide +kernel)
  have f70 := C.ts (.fieldLink RX2 70 "CellPlanner$Land" "on" "[Z") (by decide +kernel)
  refine g_aload_n C dX2_turn_0 rfl ?_
  refine g_iload_n C dX2_turn_1 rfl ?_
  refine gx_propVI C hE hX [] ((wCo cI a b d mg pt bd tk ho ri lo fv hd lf la ++ wSo cI cW a b r2 hp rl cn be bw wo) ++ wL cI cZ cG a r nc nw cx cy ch rm on wx wy dm sv mu qq) [.int p1] (t_X2_requireCell hl0 (by omega)) rfl rfl (cwV 1 C.ts gX2_turn_X2_requireCell rfl rfl rfl (by decide +kernel) ⟨Nat.le_of_ble_eq_true rfl, Nat.le_of_ble_eq_true rfl⟩) rfl rfl rfl rfl (Nat.le_of_ble_eq_true rfl) dX2_turn_2 ⟨Nat.le_of_ble_eq_true rfl, Nat.le_of_ble_eq_true rfl⟩ (Nat.le_of_ble_eq_true rfl) (Nat.le_of_ble_eq_true rfl) (fun _ h => h) (fun wv1 tv1 hp1 => ?_)
  obtain ⟨hok2, rfl, rfl⟩ := hp1
  obtain ⟨kc, hlkc, rfl⟩ := hok2
  have hkl : (nI kc).toNatClampNeg = kc := nI_clamp (by omega)
  refine g_aload_n C dX2_turn_5 rfl ?_
  refine g_get C 0 iX2_turn_X2 rfl rfl 0 (by decide) f10 rfl dX2_turn_6 ?_
  refine g_get C 17 iX2_turn_X0 rfl rfl 4 (by decide) f70 rfl dX2_turn_9 ?_
  refine g_iload_n C dX2_turn_12 rfl ?_
  refine g_aload_n C dX2_turn_13 rfl ?_
  refine g_get C 0 iX2_turn_X2 rfl rfl 0 (by decide) f10 rfl dX2_turn_14 ?_
  refine g_get C 17 iX2_turn_X0 rfl rfl 4 (by decide) f70 rfl dX2_turn_17 ?_
  refine g_iload_n C dX2_turn_20 rfl ?_
  refine g_zald C 22 1 rfl rfl kc rfl (by omega) (by decide) (on kc) rfl dX2_turn_21 ?_
  refine g_if_ne C 29 dX2_turn_22 (by decide) (fun c_22 => ?_) (fun c_22 => ?_)
  · skip
    refine g_iconst C 0 dX2_turn_29 (by decide +kernel) ?_
    refine g_zast C 22 1 rfl rfl kc rfl (by omega) (by decide) ((wCo cI a b d mg pt bd tk ho ri lo fv hd lf la ++ wSo cI cW a b r2 hp rl cn be bw wo) ++ wL cI cZ cG a r nc nw cx cy ch rm (upd on kc 0) wx wy dm sv mu qq) rfl dX2_turn_30 ?_
    refine g_aload_n C dX2_turn_31 rfl ?_
    refine g_get C 0 iX2_turn_X2 rfl rfl 0 (by decide) f10 rfl dX2_turn_32 ?_
    refine g_get C 17 iX2_turn_X0 rfl rfl 4 (by decide) f70 rfl dX2_turn_35 ?_
    refine g_iload_n C dX2_turn_38 rfl ?_
    refine g_zald C 22 1 rfl rfl kc rfl (by omega) (by decide) 0 upd_at dX2_turn_39 ?_
    refine g_if_ne C 48 dX2_turn_40 (by decide) (fun c9 => absurd rfl c9) (fun _ => ?_)
    refine g_aload_n C dX2_turn_43 rfl ?_
    refine g_iload_n C dX2_turn_44 rfl ?_
    refine g_callVv C [] ((wCo cI a b d mg pt bd tk ho ri lo fv hd lf la ++ wSo cI cW a b r2 hp rl cn be bw wo) ++ wL cI cZ cG a r nc nw cx cy ch rm (upd on kc 0) wx wy dm sv mu qq) [.int (nI kc)] (t_X2_releaseWalkers h6) rfl rfl (cwV 1 C.ts gX2_turn_X2_releaseWalkers rfl rfl rfl (by decide +kernel) ⟨Nat.le_of_ble_eq_true rfl, Nat.le_of_ble_eq_true rfl⟩) rfl rfl rfl (Nat.le_of_ble_eq_true rfl) dX2_turn_45 ⟨Nat.le_of_ble_eq_true rfl, Nat.le_of_ble_eq_true rfl⟩ (fun wv2 tv2 hp2 => ?_)
    obtain ⟨rfl, rfl⟩ := hp2
    refine g_aload_n C dX2_turn_48 rfl ?_
    refine g_get C 0 iX2_turn_X2 rfl rfl 0 (by decide) f10 rfl dX2_turn_49 ?_
    refine g_get C 17 iX2_turn_X0 rfl rfl 4 (by decide) f70 rfl dX2_turn_52 ?_
    refine g_iload_n C dX2_turn_55 rfl ?_
    refine g_zald C 22 1 rfl rfl kc rfl (by omega) (by decide) 0 upd_at dX2_turn_56 ?_
    exact gx_I (g_zret C hret rfl dX2_turn_57 (Nat.le_of_ble_eq_true rfl) (Nat.le_of_ble_eq_true rfl) ⟨⟨kc, hlkc, rfl⟩, (by unfold ftn; rw [hkl, if_neg c_22]), (by rw [hkl, if_neg c_22]; unfold ftn; rw [if_neg c_22] <;> rfl)⟩)
  · skip
    refine g_iconst C 1 dX2_turn_25 (by decide +kernel) ?_
    refine g_goto C 30 dX2_turn_26 (by decide) ?_
    refine g_zast C 22 1 rfl rfl kc rfl (by omega) (by decide) ((wCo cI a b d mg pt bd tk ho ri lo fv hd lf la ++ wSo cI cW a b r2 hp rl cn be bw wo) ++ wL cI cZ cG a r nc nw cx cy ch rm (upd on kc 1) wx wy dm sv mu qq) rfl dX2_turn_30 ?_
    refine g_aload_n C dX2_turn_31 rfl ?_
    refine g_get C 0 iX2_turn_X2 rfl rfl 0 (by decide) f10 rfl dX2_turn_32 ?_
    refine g_get C 17 iX2_turn_X0 rfl rfl 4 (by decide) f70 rfl dX2_turn_35 ?_
    refine g_iload_n C dX2_turn_38 rfl ?_
    refine g_zald C 22 1 rfl rfl kc rfl (by omega) (by decide) 1 upd_at dX2_turn_39 ?_
    refine g_if_ne C 48 dX2_turn_40 (by decide) (fun _ => ?_) (fun c9 => absurd c9 (by decide))
    refine g_aload_n C dX2_turn_48 rfl ?_
    refine g_get C 0 iX2_turn_X2 rfl rfl 0 (by decide) f10 rfl dX2_turn_49 ?_
    refine g_get C 17 iX2_turn_X0 rfl rfl 4 (by decide) f70 rfl dX2_turn_52 ?_
    refine g_iload_n C dX2_turn_55 rfl ?_
    refine g_zald C 22 1 rfl rfl kc rfl (by omega) (by decide) 1 upd_at dX2_turn_56 ?_
    exact gx_I (g_zret C hret rfl dX2_turn_57 (Nat.le_of_ble_eq_true rfl) (Nat.le_of_ble_eq_true rfl) ⟨⟨kc, hlkc, rfl⟩, (by unfold ftn; rw [hkl, if_pos c_22]), (by rw [hkl, if_pos c_22]; unfold ftn; rw [if_pos c_22] <;> rfl)⟩)
theorem iX2_tick_X2 : ∀ w ∈ u_ws RX2 TX2 13, w ∈ wsX2_tick := by decide +kernel
set_option maxHeartbeats 1000000 in
set_option maxRecDepth 100000 in
theorem t_X2_tick {l : Launch} (hl0 : l.stackTraces = false) {D : va_G} {cI cZ cJ cG cW : ClassId} {a b d : Nat → Nat} {mg pt bd tk ho ri lo : Int32} {fv hd lf la : Nat → Int32} {r2 : Nat → Nat} {hp rl cn be : Nat → Int32} {bw : Int32} {wo : Nat → Nat → Int32} {r : Nat → Nat} {nc nw : Nat} {cx cy ch rm on wx wy dm sv mu : Nat → Int32} {qq : Nat → Nat → Int32} {p1 : Int32} (h5 : nc ≤ 5) (h6 : nw ≤ 6) (hr : ∀ c, c < nc → ¬ rm c ≤ 0) (hg : ∀ c w, c < nc → w < nw → ¬ dsq (cx c) (cy c) (wx w) (wy w) = 0) (hQ : GQ nc nw cx cy ch on wx wy rm dm) (hsv : ∀ j, j < nw → SV nc (sv j)) : CxI l yX2_tick wsX2_tick 7 131 2 12 D (T5 cI cZ cJ cG cW) [.ref (d 0), .int p1] ((wCo cI a b d mg pt bd tk ho ri lo fv hd lf la ++ wSo cI cW a b r2 hp rl cn be bw wo) ++ wL cI cZ cG a r nc nw cx cy ch rm on wx wy dm sv mu qq) (fun rv wv => (1 ≤ p1 ∧ p1 ≤ 20) ∧ rv = (fti cx cy ch on wx wy rm dm nc nw mg pt bd (tk, mu, qq, sv, fv, hd, lf, la, ho, ri, lo) p1.toNatClampNeg).2.2.2.2.2.2.2.2.1 - ho ∧ wv = ((wCo cI a b d mg pt bd ((fti cx cy ch on wx wy rm dm nc nw mg pt bd (tk, mu, qq, sv, fv, hd, lf, la, ho, ri, lo) p1.toNatClampNeg).1) ((fti cx cy ch on wx wy rm dm nc nw mg pt bd (tk, mu, qq, sv, fv, hd, lf, la, ho, ri, lo) p1.toNatClampNeg).2.2.2.2.2.2.2.2.1) ((fti cx cy ch on wx wy rm dm nc nw mg pt bd (tk, mu, qq, sv, fv, hd, lf, la, ho, ri, lo) p1.toNatClampNeg).2.2.2.2.2.2.2.2.2.1) ((fti cx cy ch on wx wy rm dm nc nw mg pt bd (tk, mu, qq, sv, fv, hd, lf, la, ho, ri, lo) p1.toNatClampNeg).2.2.2.2.2.2.2.2.2.2) ((fti cx cy ch on wx wy rm dm nc nw mg pt bd (tk, mu, qq, sv, fv, hd, lf, la, ho, ri, lo) p1.toNatClampNeg).2.2.2.2.1) ((fti cx cy ch on wx wy rm dm nc nw mg pt bd (tk, mu, qq, sv, fv, hd, lf, la, ho, ri, lo) p1.toNatClampNeg).2.2.2.2.2.1) ((fti cx cy ch on wx wy rm dm nc nw mg pt bd (tk, mu, qq, sv, fv, hd, lf, la, ho, ri, lo) p1.toNatClampNeg).2.2.2.2.2.2.1) ((fti cx cy ch on wx wy rm dm nc nw mg pt bd (tk, mu, qq, sv, fv, hd, lf, la, ho, ri, lo) p1.toNatClampNeg).2.2.2.2.2.2.2.1) ++ wSo cI cW a b r2 hp rl cn be bw wo) ++ wL cI cZ cG a r nc nw cx cy ch rm on wx wy dm ((fti cx cy ch on wx wy rm dm nc nw mg pt bd (tk, mu, qq, sv, fv, hd, lf, la, ho, ri, lo) p1.toNatClampNeg).2.2.2.1) ((fti cx cy ch on wx wy rm dm nc nw mg pt bd (tk, mu, qq, sv, fv, hd, lf, la, ho, ri, lo) p1.toNatClampNeg).2.1) ((fti cx cy ch on wx wy rm dm nc nw mg pt bd (tk, mu, qq, sv, fv, hd, lf, la, ho, ri, lo) p1.toNatClampNeg).2.2.1))) (fun Ev => ¬ (1 ≤ p1 ∧ p1 ≤ 20) ∧ Ev = xIA) := by
  refine cxI_of (cc := cX2_tick) (maxL := 4) RX2 2 [some (.ref (d 0)), some (.int p1), none, none] (by decide +kernel) rfl rfl (Nat.le_of_ble_eq_true rfl) rfl (fun p_ e_ s_ m_ as_ bl_ me_ co_ C hret hE hX => ?_)
  have f101 := C.ts (.fieldLink RX2 101 "CellPlanner" "handovers" "I") (by decide +kernel)
  refine g_iload_n C dX2_tick_0 rfl ?_
  refine g_i2l C p1.toInt64 dX2_tick_1 rfl ?_
  refine g_iconst C 1 dX2_tick_2 (by decide +kernel) ?_
  refine g_bipush C 20 dX2_tick_3 (by decide +kernel) ?_
  refine gx_propSI C hE hX ((wCo cI a b d mg pt bd tk ho ri lo fv hd lf la ++ wSo cI cW a b r2 hp rl cn be bw wo) ++ wL cI cZ cG a r nc nw cx cy ch rm on wx wy dm sv mu qq) [] [.long p1.toInt64, .int 1, .int 20] (t_X2_requireRange hl0) (va_cwS 3 C.ts gX2_tick_X2_requireRange rfl rfl rfl (by decide +kernel) ⟨Nat.le_of_ble_eq_true rfl, Nat.le_of_ble_eq_true rfl⟩) rfl (List.append_nil _).symm (List.append_nil _) rfl (Nat.le_of_ble_eq_true rfl) dX2_tick_5 ⟨Nat.le_of_ble_eq_true rfl, Nat.le_of_ble_eq_true rfl⟩ (Nat.le_of_ble_eq_true rfl) (Nat.le_of_ble_eq_true rfl) (fun _ h => ⟨fun q => h.1 (rng_i.mpr q), h.2⟩) (fun wv1 tv1 hp1 => ?_)
  obtain ⟨hok5, rfl, rfl⟩ := hp1
  refine g_w (ws' := ((wCo cI a b d mg pt bd tk ho ri lo fv hd lf la ++ wSo cI cW a b r2 hp rl cn be bw wo) ++ wL cI cZ cG a r nc nw cx cy ch rm on wx wy dm sv mu qq)) (List.append_nil _) ?_
  have hr1 := rng_i.mp hok5
  obtain ⟨T, hT, rfl⟩ := tick_T hr1
  have hTl : (nI T).toNatClampNeg = T := nI_clamp (by omega)
  refine g_aload_n C dX2_tick_8 rfl ?_
  refine g_get C 0 iX2_tick_X2 rfl rfl 10 (by decide) f101 rfl dX2_tick_9 ?_
  refine g_istore_n C [some (.ref (d 0)), some (.int (nI T)), some (.int ho), none] dX2_tick_12 (by decide) rfl rfl ?_
  refine g_iconst C 0 dX2_tick_13 (by decide +kernel) ?_
  refine g_istore_n C [some (.ref (d 0)), some (.int (nI T)), some (.int ho), some (.int 0)] dX2_tick_14 (by decide) rfl rfl ?_
  refine g_loop2 0 ((tk, mu, qq, sv, fv, hd, lf, la, ho, ri, lo)) (fun (i : Nat) (z : PS) => i ≤ T ∧ z = fti cx cy ch on wx wy rm dm nc nw mg pt bd (tk, mu, qq, sv, fv, hd, lf, la, ho, ri, lo) i ∧ ∀ j, j < nw → SV nc (z.2.2.2.1 j)) (fun (i : Nat) (z : PS) => ((wCo cI a b d mg pt bd z.1 z.2.2.2.2.2.2.2.2.1 z.2.2.2.2.2.2.2.2.2.1 z.2.2.2.2.2.2.2.2.2.2 z.2.2.2.2.1 z.2.2.2.2.2.1 z.2.2.2.2.2.2.1 z.2.2.2.2.2.2.2.1 ++ wSo cI cW a b r2 hp rl cn be bw wo) ++ wL cI cZ cG a r nc nw cx cy ch rm on wx wy dm z.2.2.2.1 z.2.1 z.2.2.1)) (fun (i : Nat) (z : PS) => [some (.ref (d 0)), some (.int (nI T)), some (.int ho), some (.int (nI i))]) (fun (i : Nat) (z : PS) => T - i) ⟨Nat.zero_le _, rfl, hsv⟩ rfl rfl (fun i z hI ih => ?_)
  obtain ⟨h1, h2, h3⟩ := hI
  refine g_iload_n C dX2_tick_15 rfl ?_
  refine g_iload_n C dX2_tick_16 rfl ?_
  refine g_icmp_ge C 30 dX2_tick_17 (by decide) (fun c_17 => ?_) (fun c_17 => ?_)
  · skip
    have c_17 : T ≤ i := (nI_leI (by omega) (by omega)).mp c_17
    refine g_aload_n C dX2_tick_30 rfl ?_
    refine g_get C 0 iX2_tick_X2 rfl rfl 10 (by decide) f101 rfl dX2_tick_31 ?_
    refine g_iload_n C dX2_tick_34 rfl ?_
    refine g_isub C (z.2.2.2.2.2.2.2.2.1 - ho) dX2_tick_35 rfl ?_
    exact gx_I (g_iret C hret dX2_tick_36 (Nat.le_of_ble_eq_true rfl) (Nat.le_of_ble_eq_true rfl) ⟨hr1, (by rw [hTl, h2, show i = T by omega]), (by rw [hTl, ← show z = fti cx cy ch on wx wy rm dm nc nw mg pt bd (tk, mu, qq, sv, fv, hd, lf, la, ho, ri, lo) T from (by rw [h2, show i = T by omega])] <;> rfl)⟩)
  · skip
    have c_17 : ¬ (T ≤ i) := fun h9 => c_17 ((nI_leI (by omega) (by omega)).mpr h9)
    refine g_aload_n C dX2_tick_20 rfl ?_
    refine g_callVv C [] ((wCo cI a b d mg pt bd z.1 z.2.2.2.2.2.2.2.2.1 z.2.2.2.2.2.2.2.2.2.1 z.2.2.2.2.2.2.2.2.2.2 z.2.2.2.2.1 z.2.2.2.2.2.1 z.2.2.2.2.2.2.1 z.2.2.2.2.2.2.2.1 ++ wSo cI cW a b r2 hp rl cn be bw wo) ++ wL cI cZ cG a r nc nw cx cy ch rm on wx wy dm z.2.2.2.1 z.2.1 z.2.2.1) [] (t_X2_passTick h5 h6 hr hg (hQ _ _) h3) rfl rfl (cwV 0 C.ts gX2_tick_X2_passTick rfl rfl rfl (by decide +kernel) ⟨Nat.le_of_ble_eq_true rfl, Nat.le_of_ble_eq_true rfl⟩) rfl rfl rfl (Nat.le_of_ble_eq_true rfl) dX2_tick_21 ⟨Nat.le_of_ble_eq_true rfl, Nat.le_of_ble_eq_true rfl⟩ (fun wv2 tv2 hp2 => ?_)
    obtain ⟨rfl, rfl⟩ := hp2
    refine g_iinc C (nI (i + 1)) [some (.ref (d 0)), some (.int (nI T)), some (.int ho), some (.int (nI (i + 1)))] dX2_tick_24 rfl (nI_1 i) (by decide) rfl rfl ?_
    refine g_goto C 15 dX2_tick_27 (by decide) ?_
    exact ih (i + 1) (fpt cx cy ch on wx wy rm dm nc nw mg pt bd z) ⟨by omega, by rw [fti, ← h2], ftw_sv nw h3⟩ (by omega)
theorem iX2_bestCell_X1 : ∀ w ∈ u_ws RX1 TX1 7, w ∈ wsX2_bestCell := by decide +kernel
theorem iX2_bestCell_X2 : ∀ w ∈ u_ws RX2 TX2 13, w ∈ wsX2_bestCell := by decide +kernel
set_option maxHeartbeats 1000000 in
set_option maxRecDepth 100000 in
theorem t_X2_bestCell {l : Launch} (hl0 : l.stackTraces = false) {D : va_G} {cI cZ cJ cG cW : ClassId} {a b d : Nat → Nat} {mg pt bd tk ho ri lo : Int32} {fv hd lf la : Nat → Int32} {r2 : Nat → Nat} {hp rl cn be : Nat → Int32} {bw : Int32} {wo : Nat → Nat → Int32} {r : Nat → Nat} {nc nw : Nat} {cx cy ch rm on wx wy dm sv mu : Nat → Int32} {qq : Nat → Nat → Int32} {p1 : Int32} (h5 : nc ≤ 5) (h6 : nw ≤ 6) (hr : ∀ c, c < nc → ¬ rm c ≤ 0) (hg : ∀ c w, c < nc → w < nw → ¬ dsq (cx c) (cy c) (wx w) (wy w) = 0) (hq : ∀ c w, c < nc → w < nw → ¬ 10 + fdi ch on (fil nc (fus rm sv dm nw) mu) (sgw cx cy wx wy w) c nc = 0) : CxI l yX2_bestCell wsX2_bestCell 12 531 2 12 D (T5 cI cZ cJ cG cW) [.ref (d 0), .int p1] ((wCo cI a b d mg pt bd tk ho ri lo fv hd lf la ++ wSo cI cW a b r2 hp rl cn be bw wo) ++ wL cI cZ cG a r nc nw cx cy ch rm on wx wy dm sv mu qq) (fun rv wv => IC nw p1 ∧ ∃ (z : S4) (P : Nat → Int32) (Y : Nat → Nat → Int32), rv = z.2.2.1 p1.toNatClampNeg ∧ wv = ((wCo cI a b d mg pt bd tk ho ri lo fv hd lf la ++ wSo cI cW a b r2 P z.1 z.2.1 z.2.2.1 z.2.2.2 Y) ++ wL cI cZ cG a r nc nw cx cy ch rm on wx wy dm sv (fil nc (fus rm sv dm nw) mu) (fil2 nw nc (fun w c => fqu cx cy ch on wx wy (fil nc (fus rm sv dm nw) mu) nc w c) qq)) ∧ GW nc nw rm on dm (fil2 nw nc (fun w c => fqu cx cy ch on wx wy (fil nc (fus rm sv dm nw) mu) nc w c) qq) bd 1000000 0 1 rl cn be P Y z) (fun Ev => ¬ IC nw p1 ∧ Ev = xIB) := by
  refine cxI_of (cc := cX2_bestCell) (maxL := 2) RX2 0 [some (.ref (d 0)), some (.int p1)] (by decide +kernel) rfl rfl (Nat.le_of_ble_eq_true rfl) rfl (fun p_ e_ s_ m_ as_ bl_ me_ co_ C hret hE hX => ?_)
  have f21 := C.ts (.fieldLink RX2 21 "CellPlanner" "search" "LCellPlanner$Search;") (by decide +kernel)
  have f45 := C.ts (.fieldLink RX2 45 "CellPlanner" "bound" "I") (by decide +kernel)
  have f141 := C.ts (.fieldLink RX2 141 "CellPlanner$Search" "best" "[I") (by decide +kernel)
  refine g_aload_n C dX2_bestCell_0 rfl ?_
  refine g_iload_n C dX2_bestCell_1 rfl ?_
  refine gx_propVI C hE hX [] ((wCo cI a b d mg pt bd tk ho ri lo fv hd lf la ++ wSo cI cW a b r2 hp rl cn be bw wo) ++ wL cI cZ cG a r nc nw cx cy ch rm on wx wy dm sv mu qq) [.int p1] (t_X2_requireWalker hl0 (by omega)) rfl rfl (cwV 1 C.ts gX2_bestCell_X2_requireWalker rfl rfl rfl (by decide +kernel) ⟨Nat.le_of_ble_eq_true rfl, Nat.le_of_ble_eq_true rfl⟩) rfl rfl rfl rfl (Nat.le_of_ble_eq_true rfl) dX2_bestCell_2 ⟨Nat.le_of_ble_eq_true rfl, Nat.le_of_ble_eq_true rfl⟩ (Nat.le_of_ble_eq_true rfl) (Nat.le_of_ble_eq_true rfl) (fun _ h => h) (fun wv1 tv1 hp1 => ?_)
  obtain ⟨hok2, rfl, rfl⟩ := hp1
  obtain ⟨kc, hlkc, rfl⟩ := hok2
  refine g_aload_n C dX2_bestCell_5 rfl ?_
  refine g_get C 0 iX2_bestCell_X2 rfl rfl 1 (by decide) f21 rfl dX2_bestCell_6 ?_
  refine g_aload_n C dX2_bestCell_9 rfl ?_
  refine g_get C 0 iX2_bestCell_X2 rfl rfl 8 (by decide) f45 rfl dX2_bestCell_10 ?_
  refine g_ldc C (v := 1000000) (C.ts _ (by decide +kernel)) dX2_bestCell_13 ?_
  refine g_iconst C 0 dX2_bestCell_15 (by decide +kernel) ?_
  refine g_iconst C 1 dX2_bestCell_16 (by decide +kernel) ?_
  refine g_callVi C (wCo cI a b d mg pt bd tk ho ri lo fv hd lf la) (wSo cI cW a b r2 hp rl cn be bw wo ++ (wL cI cZ cG a r nc nw cx cy ch rm on wx wy dm sv mu qq)) [.int bd, .int 1000000, .int 0, .int 1] (t_X1_greatestWorth h5 h6 hr hg hq) rfl rfl (cwV 4 C.ts gX2_bestCell_X1_greatestWorth rfl rfl rfl (by decide +kernel) ⟨Nat.le_of_ble_eq_true rfl, Nat.le_of_ble_eq_true rfl⟩) rfl (List.append_assoc _ _ _) rfl (Nat.le_of_ble_eq_true rfl) dX2_bestCell_17 ⟨Nat.le_of_ble_eq_true rfl, Nat.le_of_ble_eq_true rfl⟩ (fun rv2 wv2 hp2 => ?_)
  obtain ⟨z, P, Y, rfl, rfl, hz⟩ := hp2
  refine g_w (ws' := ((wCo cI a b d mg pt bd tk ho ri lo fv hd lf la ++ wSo cI cW a b r2 P z.1 z.2.1 z.2.2.1 z.2.2.2 Y) ++ wL cI cZ cG a r nc nw cx cy ch rm on wx wy dm sv (fil nc (fus rm sv dm nw) mu) (fil2 nw nc (fun w c => fqu cx cy ch on wx wy (fil nc (fus rm sv dm nw) mu) nc w c) qq))) (List.append_assoc _ _ _).symm ?_
  refine g_pop C dX2_bestCell_20 rfl ?_
  refine g_aload_n C dX2_bestCell_21 rfl ?_
  refine g_get C 0 iX2_bestCell_X2 rfl rfl 1 (by decide) f21 rfl dX2_bestCell_22 ?_
  refine g_get C 5 iX2_bestCell_X1 rfl rfl 5 (by decide) f141 rfl dX2_bestCell_25 ?_
  refine g_iload_n C dX2_bestCell_28 rfl ?_
  refine g_iald C 10 0 rfl rfl kc rfl (by omega) (by decide) (z.2.2.1 kc) rfl dX2_bestCell_29 ?_
  exact gx_I (g_iret C hret dX2_bestCell_30 (Nat.le_of_ble_eq_true rfl) (Nat.le_of_ble_eq_true rfl) ⟨⟨kc, hlkc, rfl⟩, z, P, Y, by rw [nI_clamp (by omega)], rfl, hz⟩)
