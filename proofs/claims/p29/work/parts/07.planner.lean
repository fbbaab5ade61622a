/-! CellPlanner, what throws nothing -/
theorem iX2_ticks_X2 : ∀ w ∈ u_ws RX2 TX2 13, w ∈ wsX2_ticks := by decide +kernel
set_option maxHeartbeats 1000000 in
set_option maxRecDepth 100000 in
theorem t_X2_ticks {l : Launch} {D : va_G} {cI cZ cJ cG cW : ClassId} {a b d : Nat → Nat} {mg pt bd tk ho ri lo : Int32} {fv hd lf la : Nat → Int32} {r2 : Nat → Nat} {hp rl cn be : Nat → Int32} {bw : Int32} {wo : Nat → Nat → Int32} {r : Nat → Nat} {nc nw : Nat} {cx cy ch rm on wx wy dm sv mu : Nat → Int32} {qq : Nat → Nat → Int32}   : CtI l yX2_ticks wsX2_ticks 0 0 0 0 D (T5 cI cZ cJ cG cW) [.ref (d 0)] ((wCo cI a b d mg pt bd tk ho ri lo fv hd lf la ++ wSo cI cW a b r2 hp rl cn be bw wo) ++ wL cI cZ cG a r nc nw cx cy ch rm on wx wy dm sv mu qq) (fun rv wv => rv = tk ∧ wv = ((wCo cI a b d mg pt bd tk ho ri lo fv hd lf la ++ wSo cI cW a b r2 hp rl cn be bw wo) ++ wL cI cZ cG a r nc nw cx cy ch rm on wx wy dm sv mu qq)) := by
  refine ctI_of (cc := cX2_ticks) (maxL := 1) RX2 0 [some (.ref (d 0))] (by decide +kernel) rfl rfl (Nat.le_of_ble_eq_true rfl) rfl (fun p_ e_ s_ m_ as_ bl_ me_ co_ C hret => ?_)
  have f107 := C.ts (.fieldLink RX2 107 "CellPlanner" "ticks" "I") (by decide +kernel)
  refine g_aload_n C dX2_ticks_0 rfl ?_
  refine g_get C 0 iX2_ticks_X2 rfl rfl 9 (by decide) f107 rfl dX2_ticks_1 ?_
  exact g_iret C hret dX2_ticks_4 (Nat.le_of_ble_eq_true rfl) (Nat.le_of_ble_eq_true rfl) ⟨rfl, rfl⟩
theorem iX2_handovers_X2 : ∀ w ∈ u_ws RX2 TX2 13, w ∈ wsX2_handovers := by decide +kernel
set_option maxHeartbeats 1000000 in
set_option maxRecDepth 100000 in
theorem t_X2_handovers {l : Launch} {D : va_G} {cI cZ cJ cG cW : ClassId} {a b d : Nat → Nat} {mg pt bd tk ho ri lo : Int32} {fv hd lf la : Nat → Int32} {r2 : Nat → Nat} {hp rl cn be : Nat → Int32} {bw : Int32} {wo : Nat → Nat → Int32} {r : Nat → Nat} {nc nw : Nat} {cx cy ch rm on wx wy dm sv mu : Nat → Int32} {qq : Nat → Nat → Int32}   : CtI l yX2_handovers wsX2_handovers 0 0 0 0 D (T5 cI cZ cJ cG cW) [.ref (d 0)] ((wCo cI a b d mg pt bd tk ho ri lo fv hd lf la ++ wSo cI cW a b r2 hp rl cn be bw wo) ++ wL cI cZ cG a r nc nw cx cy ch rm on wx wy dm sv mu qq) (fun rv wv => rv = ho ∧ wv = ((wCo cI a b d mg pt bd tk ho ri lo fv hd lf la ++ wSo cI cW a b r2 hp rl cn be bw wo) ++ wL cI cZ cG a r nc nw cx cy ch rm on wx wy dm sv mu qq)) := by
  refine ctI_of (cc := cX2_handovers) (maxL := 1) RX2 0 [some (.ref (d 0))] (by decide +kernel) rfl rfl (Nat.le_of_ble_eq_true rfl) rfl (fun p_ e_ s_ m_ as_ bl_ me_ co_ C hret => ?_)
  have f101 := C.ts (.fieldLink RX2 101 "CellPlanner" "handovers" "I") (by decide +kernel)
  refine g_aload_n C dX2_handovers_0 rfl ?_
  refine g_get C 0 iX2_handovers_X2 rfl rfl 10 (by decide) f101 rfl dX2_handovers_1 ?_
  exact g_iret C hret dX2_handovers_4 (Nat.le_of_ble_eq_true rfl) (Nat.le_of_ble_eq_true rfl) ⟨rfl, rfl⟩
theorem iX2_rings_X2 : ∀ w ∈ u_ws RX2 TX2 13, w ∈ wsX2_rings := by decide +kernel
set_option maxHeartbeats 1000000 in
set_option maxRecDepth 100000 in
theorem t_X2_rings {l : Launch} {D : va_G} {cI cZ cJ cG cW : ClassId} {a b d : Nat → Nat} {mg pt bd tk ho ri lo : Int32} {fv hd lf la : Nat → Int32} {r2 : Nat → Nat} {hp rl cn be : Nat → Int32} {bw : Int32} {wo : Nat → Nat → Int32} {r : Nat → Nat} {nc nw : Nat} {cx cy ch rm on wx wy dm sv mu : Nat → Int32} {qq : Nat → Nat → Int32}   : CtI l yX2_rings wsX2_rings 0 0 0 0 D (T5 cI cZ cJ cG cW) [.ref (d 0)] ((wCo cI a b d mg pt bd tk ho ri lo fv hd lf la ++ wSo cI cW a b r2 hp rl cn be bw wo) ++ wL cI cZ cG a r nc nw cx cy ch rm on wx wy dm sv mu qq) (fun rv wv => rv = ri ∧ wv = ((wCo cI a b d mg pt bd tk ho ri lo fv hd lf la ++ wSo cI cW a b r2 hp rl cn be bw wo) ++ wL cI cZ cG a r nc nw cx cy ch rm on wx wy dm sv mu qq)) := by
  refine ctI_of (cc := cX2_rings) (maxL := 1) RX2 0 [some (.ref (d 0))] (by decide +kernel) rfl rfl (Nat.le_of_ble_eq_true rfl) rfl (fun p_ e_ s_ m_ as_ bl_ me_ co_ C hret => ?_)
  have f131 := C.ts (.fieldLink RX2 131 "CellPlanner" "rings" "I") (by decide +kernel)
  refine g_aload_n C dX2_rings_0 rfl ?_
  refine g_get C 0 iX2_rings_X2 rfl rfl 11 (by decide) f131 rfl dX2_rings_1 ?_
  exact g_iret C hret dX2_rings_4 (Nat.le_of_ble_eq_true rfl) (Nat.le_of_ble_eq_true rfl) ⟨rfl, rfl⟩
theorem iX2_losses_X2 : ∀ w ∈ u_ws RX2 TX2 13, w ∈ wsX2_losses := by decide +kernel
set_option maxHeartbeats 1000000 in
set_option maxRecDepth 100000 in
theorem t_X2_losses {l : Launch} {D : va_G} {cI cZ cJ cG cW : ClassId} {a b d : Nat → Nat} {mg pt bd tk ho ri lo : Int32} {fv hd lf la : Nat → Int32} {r2 : Nat → Nat} {hp rl cn be : Nat → Int32} {bw : Int32} {wo : Nat → Nat → Int32} {r : Nat → Nat} {nc nw : Nat} {cx cy ch rm on wx wy dm sv mu : Nat → Int32} {qq : Nat → Nat → Int32}   : CtI l yX2_losses wsX2_losses 0 0 0 0 D (T5 cI cZ cJ cG cW) [.ref (d 0)] ((wCo cI a b d mg pt bd tk ho ri lo fv hd lf la ++ wSo cI cW a b r2 hp rl cn be bw wo) ++ wL cI cZ cG a r nc nw cx cy ch rm on wx wy dm sv mu qq) (fun rv wv => rv = lo ∧ wv = ((wCo cI a b d mg pt bd tk ho ri lo fv hd lf la ++ wSo cI cW a b r2 hp rl cn be bw wo) ++ wL cI cZ cG a r nc nw cx cy ch rm on wx wy dm sv mu qq)) := by
  refine ctI_of (cc := cX2_losses) (maxL := 1) RX2 0 [some (.ref (d 0))] (by decide +kernel) rfl rfl (Nat.le_of_ble_eq_true rfl) rfl (fun p_ e_ s_ m_ as_ bl_ me_ co_ C hret => ?_)
  have f134 := C.ts (.fieldLink RX2 134 "CellPlanner" "losses" "I") (by decide +kernel)
  refine g_aload_n C dX2_losses_0 rfl ?_
  refine g_get C 0 iX2_losses_X2 rfl rfl 12 (by decide) f134 rfl dX2_losses_1 ?_
  exact g_iret C hret dX2_losses_4 (Nat.le_of_ble_eq_true rfl) (Nat.le_of_ble_eq_true rfl) ⟨rfl, rfl⟩
theorem iX2_cells_X0 : ∀ w ∈ u_ws RX0 TX0 13, w ∈ wsX2_cells := by decide +kernel
theorem iX2_cells_X2 : ∀ w ∈ u_ws RX2 TX2 13, w ∈ wsX2_cells := by decide +kernel
set_option maxHeartbeats 1000000 in
set_option maxRecDepth 100000 in
theorem t_X2_cells {l : Launch} {D : va_G} {cI cZ cJ cG cW : ClassId} {a b d : Nat → Nat} {mg pt bd tk ho ri lo : Int32} {fv hd lf la : Nat → Int32} {r2 : Nat → Nat} {hp rl cn be : Nat → Int32} {bw : Int32} {wo : Nat → Nat → Int32} {r : Nat → Nat} {nc nw : Nat} {cx cy ch rm on wx wy dm sv mu : Nat → Int32} {qq : Nat → Nat → Int32}   : CtI l yX2_cells wsX2_cells 0 0 0 0 D (T5 cI cZ cJ cG cW) [.ref (d 0)] ((wCo cI a b d mg pt bd tk ho ri lo fv hd lf la ++ wSo cI cW a b r2 hp rl cn be bw wo) ++ wL cI cZ cG a r nc nw cx cy ch rm on wx wy dm sv mu qq) (fun rv wv => rv = nI nc ∧ wv = ((wCo cI a b d mg pt bd tk ho ri lo fv hd lf la ++ wSo cI cW a b r2 hp rl cn be bw wo) ++ wL cI cZ cG a r nc nw cx cy ch rm on wx wy dm sv mu qq)) := by
  refine ctI_of (cc := cX2_cells) (maxL := 1) RX2 0 [some (.ref (d 0))] (by decide +kernel) rfl rfl (Nat.le_of_ble_eq_true rfl) rfl (fun p_ e_ s_ m_ as_ bl_ me_ co_ C hret => ?_)
  have f10 := C.ts (.fieldLink RX2 10 "CellPlanner" "land" "LCellPlanner$Land;") (by decide +kernel)
  have f52 := C.ts (.fieldLink RX2 52 "CellPlanner$Land" "cells" "I") (by decide +kernel)
  refine g_aload_n C dX2_cells_0 rfl ?_
  refine g_get C 0 iX2_cells_X2 rfl rfl 0 (by decide) f10 rfl dX2_cells_1 ?_
  refine g_get C 17 iX2_cells_X0 rfl rfl 5 (by decide) f52 rfl dX2_cells_4 ?_
  exact g_iret C hret dX2_cells_7 (Nat.le_of_ble_eq_true rfl) (Nat.le_of_ble_eq_true rfl) ⟨rfl, rfl⟩
theorem iX2_walkers_X0 : ∀ w ∈ u_ws RX0 TX0 13, w ∈ wsX2_walkers := by decide +kernel
theorem iX2_walkers_X2 : ∀ w ∈ u_ws RX2 TX2 13, w ∈ wsX2_walkers := by decide +kernel
set_option maxHeartbeats 1000000 in
set_option maxRecDepth 100000 in
theorem t_X2_walkers {l : Launch} {D : va_G} {cI cZ cJ cG cW : ClassId} {a b d : Nat → Nat} {mg pt bd tk ho ri lo : Int32} {fv hd lf la : Nat → Int32} {r2 : Nat → Nat} {hp rl cn be : Nat → Int32} {bw : Int32} {wo : Nat → Nat → Int32} {r : Nat → Nat} {nc nw : Nat} {cx cy ch rm on wx wy dm sv mu : Nat → Int32} {qq : Nat → Nat → Int32}   : CtI l yX2_walkers wsX2_walkers 0 0 0 0 D (T5 cI cZ cJ cG cW) [.ref (d 0)] ((wCo cI a b d mg pt bd tk ho ri lo fv hd lf la ++ wSo cI cW a b r2 hp rl cn be bw wo) ++ wL cI cZ cG a r nc nw cx cy ch rm on wx wy dm sv mu qq) (fun rv wv => rv = nI nw ∧ wv = ((wCo cI a b d mg pt bd tk ho ri lo fv hd lf la ++ wSo cI cW a b r2 hp rl cn be bw wo) ++ wL cI cZ cG a r nc nw cx cy ch rm on wx wy dm sv mu qq)) := by
  refine ctI_of (cc := cX2_walkers) (maxL := 1) RX2 0 [some (.ref (d 0))] (by decide +kernel) rfl rfl (Nat.le_of_ble_eq_true rfl) rfl (fun p_ e_ s_ m_ as_ bl_ me_ co_ C hret => ?_)
  have f10 := C.ts (.fieldLink RX2 10 "CellPlanner" "land" "LCellPlanner$Land;") (by decide +kernel)
  have f80 := C.ts (.fieldLink RX2 80 "CellPlanner$Land" "walkers" "I") (by decide +kernel)
  refine g_aload_n C dX2_walkers_0 rfl ?_
  refine g_get C 0 iX2_walkers_X2 rfl rfl 0 (by decide) f10 rfl dX2_walkers_1 ?_
  refine g_get C 17 iX2_walkers_X0 rfl rfl 10 (by decide) f80 rfl dX2_walkers_4 ?_
  exact g_iret C hret dX2_walkers_7 (Nat.le_of_ble_eq_true rfl) (Nat.le_of_ble_eq_true rfl) ⟨rfl, rfl⟩
theorem iX2_dropFavourite_X2 : ∀ w ∈ u_ws RX2 TX2 13, w ∈ wsX2_dropFavourite := by decide +kernel
set_option maxHeartbeats 1000000 in
set_option maxRecDepth 100000 in
theorem t_X2_dropFavourite {l : Launch} {D : va_G} {cI cZ cJ cG cW : ClassId} {a b d : Nat → Nat} {mg pt bd tk ho ri lo : Int32} {fv hd lf la : Nat → Int32} {r2 : Nat → Nat} {hp rl cn be : Nat → Int32} {bw : Int32} {wo : Nat → Nat → Int32} {r : Nat → Nat} {nc nw : Nat} {cx cy ch rm on wx wy dm sv mu : Nat → Int32} {qq : Nat → Nat → Int32} {kw : Nat} (hw : kw < 6) : CtV l yX2_dropFavourite wsX2_dropFavourite 0 0 0 0 D (T5 cI cZ cJ cG cW) [.ref (d 0), .int (nI kw)] ((wCo cI a b d mg pt bd tk ho ri lo fv hd lf la ++ wSo cI cW a b r2 hp rl cn be bw wo) ++ wL cI cZ cG a r nc nw cx cy ch rm on wx wy dm sv mu qq) (fun wv tv => wv = ((wCo cI a b d mg pt bd tk ho ri lo (upd fv kw (-1)) (upd hd kw 0) lf la ++ wSo cI cW a b r2 hp rl cn be bw wo) ++ wL cI cZ cG a r nc nw cx cy ch rm on wx wy dm sv mu qq) ∧ tv = (T5 cI cZ cJ cG cW)) := by
  refine ctV_of (cc := cX2_dropFavourite) (maxL := 2) RX2 0 [some (.ref (d 0)), some (.int (nI kw))] (by decide +kernel) rfl rfl (Nat.le_of_ble_eq_true rfl) rfl (fun p_ e_ s_ m_ as_ bl_ me_ co_ C hret hini => ?_)
  have f25 := C.ts (.fieldLink RX2 25 "CellPlanner" "favourite" "[I") (by decide +kernel)
  have f29 := C.ts (.fieldLink RX2 29 "CellPlanner" "held" "[I") (by decide +kernel)
  refine g_aload_n C dX2_dropFavourite_0 rfl ?_
  refine g_get C 0 iX2_dropFavourite_X2 rfl rfl 2 (by decide) f25 rfl dX2_dropFavourite_1 ?_
  refine g_iload_n C dX2_dropFavourite_4 rfl ?_
  refine g_iconst C (-1) dX2_dropFavourite_5 (by decide +kernel) ?_
  refine g_iast C 1 0 rfl rfl kw rfl (by omega) (by decide) ((wCo cI a b d mg pt bd tk ho ri lo (upd fv kw ((-1))) hd lf la ++ wSo cI cW a b r2 hp rl cn be bw wo) ++ wL cI cZ cG a r nc nw cx cy ch rm on wx wy dm sv mu qq) rfl dX2_dropFavourite_6 ?_
  refine g_aload_n C dX2_dropFavourite_7 rfl ?_
  refine g_get C 0 iX2_dropFavourite_X2 rfl rfl 3 (by decide) f29 rfl dX2_dropFavourite_8 ?_
  refine g_iload_n C dX2_dropFavourite_11 rfl ?_
  refine g_iconst C 0 dX2_dropFavourite_12 (by decide +kernel) ?_
  refine g_iast C 2 0 rfl rfl kw rfl (by omega) (by decide) ((wCo cI a b d mg pt bd tk ho ri lo (upd fv kw ((-1))) (upd hd kw 0) lf la ++ wSo cI cW a b r2 hp rl cn be bw wo) ++ wL cI cZ cG a r nc nw cx cy ch rm on wx wy dm sv mu qq) rfl dX2_dropFavourite_13 ?_
  exact g_vret C hret dX2_dropFavourite_14 (Nat.le_of_ble_eq_true rfl) (Nat.le_of_ble_eq_true rfl) ⟨rfl, rfl⟩
theorem iX2_releaseWalkers_X0 : ∀ w ∈ u_ws RX0 TX0 13, w ∈ wsX2_releaseWalkers := by decide +kernel
theorem iX2_releaseWalkers_X2 : ∀ w ∈ u_ws RX2 TX2 13, w ∈ wsX2_releaseWalkers := by decide +kernel
set_option maxHeartbeats 1000000 in
set_option maxRecDepth 100000 in
theorem t_X2_releaseWalkers {l : Launch} {D : va_G} {cI cZ cJ cG cW : ClassId} {a b d : Nat → Nat} {mg pt bd tk ho ri lo : Int32} {fv hd lf la : Nat → Int32} {r2 : Nat → Nat} {hp rl cn be : Nat → Int32} {bw : Int32} {wo : Nat → Nat → Int32} {r : Nat → Nat} {nc nw : Nat} {cx cy ch rm on wx wy dm sv mu : Nat → Int32} {qq : Nat → Nat → Int32} {p1 : Int32} (h6 : nw ≤ 6) : CtV l yX2_releaseWalkers wsX2_releaseWalkers 1 21 0 0 D (T5 cI cZ cJ cG cW) [.ref (d 0), .int p1] ((wCo cI a b d mg pt bd tk ho ri lo fv hd lf la ++ wSo cI cW a b r2 hp rl cn be bw wo) ++ wL cI cZ cG a r nc nw cx cy ch rm on wx wy dm sv mu qq) (fun wv tv => wv = ((wCo cI a b d mg pt bd tk ho ri lo ((frw p1 (sv, fv, hd) nw).2.1) ((frw p1 (sv, fv, hd) nw).2.2) lf la ++ wSo cI cW a b r2 hp rl cn be bw wo) ++ wL cI cZ cG a r nc nw cx cy ch rm on wx wy dm ((frw p1 (sv, fv, hd) nw).1) mu qq) ∧ tv = (T5 cI cZ cJ cG cW)) := by
  refine ctV_of (cc := cX2_releaseWalkers) (maxL := 3) RX2 1 [some (.ref (d 0)), some (.int p1), none] (by decide +kernel) rfl rfl (Nat.le_of_ble_eq_true rfl) rfl (fun p_ e_ s_ m_ as_ bl_ me_ co_ C hret hini => ?_)
  have f10 := C.ts (.fieldLink RX2 10 "CellPlanner" "land" "LCellPlanner$Land;") (by decide +kernel)
  have f80 := C.ts (.fieldLink RX2 80 "CellPlanner$Land" "walkers" "I") (by decide +kernel)
  have f128 := C.ts (.fieldLink RX2 128 "CellPlanner$Land" "server" "[I") (by decide +kernel)
  refine g_iconst C 0 dX2_releaseWalkers_0 (by decide +kernel) ?_
  refine g_istore_n C [some (.ref (d 0)), some (.int p1), some (.int 0)] dX2_releaseWalkers_1 (by decide) rfl rfl ?_
  refine g_loop2 0 ((sv, fv, hd)) (fun (i : Nat) (z : (Nat → Int32) × (Nat → Int32) × (Nat → Int32)) => i ≤ nw ∧ z = frw p1 (sv, fv, hd) i) (fun (i : Nat) (z : (Nat → Int32) × (Nat → Int32) × (Nat → Int32)) => ((wCo cI a b d mg pt bd tk ho ri lo z.2.1 z.2.2 lf la ++ wSo cI cW a b r2 hp rl cn be bw wo) ++ wL cI cZ cG a r nc nw cx cy ch rm on wx wy dm z.1 mu qq)) (fun (i : Nat) (z : (Nat → Int32) × (Nat → Int32) × (Nat → Int32)) => [some (.ref (d 0)), some (.int p1), some (.int (nI i))]) (fun (i : Nat) (z : (Nat → Int32) × (Nat → Int32) × (Nat → Int32)) => nw - i) ⟨Nat.zero_le _, rfl⟩ rfl rfl (fun i z hI ih => ?_)
  obtain ⟨h1, h2⟩ := hI
  refine g_iload_n C dX2_releaseWalkers_2 rfl ?_
  refine g_aload_n C dX2_releaseWalkers_3 rfl ?_
  refine g_get C 0 iX2_releaseWalkers_X2 rfl rfl 0 (by decide) f10 rfl dX2_releaseWalkers_4 ?_
  refine g_get C 17 iX2_releaseWalkers_X0 rfl rfl 10 (by decide) f80 rfl dX2_releaseWalkers_7 ?_
  refine g_icmp_ge C 47 dX2_releaseWalkers_10 (by decide) (fun c_10 => ?_) (fun c_10 => ?_)
  · skip
    have c_10 : nw ≤ i := (nI_leI (by omega) (by omega)).mp c_10
    exact g_vret C hret dX2_releaseWalkers_47 (Nat.le_of_ble_eq_true rfl) (Nat.le_of_ble_eq_true rfl) ⟨(by rw [← show z = frw p1 (sv, fv, hd) nw from (by rw [h2, show i = nw by omega])] <;> rfl), rfl⟩
  · skip
    have c_10 : ¬ (nw ≤ i) := fun h9 => c_10 ((nI_leI (by omega) (by omega)).mpr h9)
    refine g_aload_n C dX2_releaseWalkers_13 rfl ?_
    refine g_get C 0 iX2_releaseWalkers_X2 rfl rfl 0 (by decide) f10 rfl dX2_releaseWalkers_14 ?_
    refine g_get C 17 iX2_releaseWalkers_X0 rfl rfl 9 (by decide) f128 rfl dX2_releaseWalkers_17 ?_
    refine g_iload_n C dX2_releaseWalkers_20 rfl ?_
    refine g_iald C 26 0 rfl rfl i rfl (by omega) (by decide) (z.1 i) rfl dX2_releaseWalkers_21 ?_
    refine g_iload_n C dX2_releaseWalkers_22 rfl ?_
    refine g_icmp_ne C 41 dX2_releaseWalkers_23 (by decide) (fun c_23 => ?_) (fun c_23 => ?_)
    · skip
      refine g_iinc C (nI (i + 1)) [some (.ref (d 0)), some (.int p1), some (.int (nI (i + 1)))] dX2_releaseWalkers_41 rfl (nI_1 i) (by decide) rfl rfl ?_
      refine g_goto C 2 dX2_releaseWalkers_44 (by decide) ?_
      exact ih (i + 1) z ⟨by omega, by rw [frw, ← h2, if_neg c_23]⟩ (by omega)
    · skip
      refine g_aload_n C dX2_releaseWalkers_26 rfl ?_
      refine g_get C 0 iX2_releaseWalkers_X2 rfl rfl 0 (by decide) f10 rfl dX2_releaseWalkers_27 ?_
      refine g_get C 17 iX2_releaseWalkers_X0 rfl rfl 9 (by decide) f128 rfl dX2_releaseWalkers_30 ?_
      refine g_iload_n C dX2_releaseWalkers_33 rfl ?_
      refine g_iconst C (-1) dX2_releaseWalkers_34 (by decide +kernel) ?_
      refine g_iast C 26 0 rfl rfl i rfl (by omega) (by decide) ((wCo cI a b d mg pt bd tk ho ri lo z.2.1 z.2.2 lf la ++ wSo cI cW a b r2 hp rl cn be bw wo) ++ wL cI cZ cG a r nc nw cx cy ch rm on wx wy dm (upd z.1 i ((-1))) mu qq) rfl dX2_releaseWalkers_35 ?_
      refine g_aload_n C dX2_releaseWalkers_36 rfl ?_
      refine g_iload_n C dX2_releaseWalkers_37 rfl ?_
      refine g_callVv C [] ((wCo cI a b d mg pt bd tk ho ri lo z.2.1 z.2.2 lf la ++ wSo cI cW a b r2 hp rl cn be bw wo) ++ wL cI cZ cG a r nc nw cx cy ch rm on wx wy dm (upd z.1 i ((-1))) mu qq) [.int (nI i)] (t_X2_dropFavourite (by omega)) rfl rfl (cwV 1 C.ts gX2_releaseWalkers_X2_dropFavourite rfl rfl rfl (by decide +kernel) ⟨Nat.le_of_ble_eq_true rfl, Nat.le_of_ble_eq_true rfl⟩) rfl rfl rfl (Nat.le_of_ble_eq_true rfl) dX2_releaseWalkers_38 ⟨Nat.le_of_ble_eq_true rfl, Nat.le_of_ble_eq_true rfl⟩ (fun wv1 tv1 hp1 => ?_)
      obtain ⟨rfl, rfl⟩ := hp1
      refine g_iinc C (nI (i + 1)) [some (.ref (d 0)), some (.int p1), some (.int (nI (i + 1)))] dX2_releaseWalkers_41 rfl (nI_1 i) (by decide) rfl rfl ?_
      refine g_goto C 2 dX2_releaseWalkers_44 (by decide) ?_
      exact ih (i + 1) ((upd z.1 i ((-1)), upd z.2.1 i (-1), upd z.2.2 i 0)) ⟨by omega, by rw [frw, ← h2, if_pos c_23]⟩ (by omega)
theorem iX2_unserved_X0 : ∀ w ∈ u_ws RX0 TX0 13, w ∈ wsX2_unserved := by decide +kernel
theorem iX2_unserved_X2 : ∀ w ∈ u_ws RX2 TX2 13, w ∈ wsX2_unserved := by decide +kernel
set_option maxHeartbeats 1000000 in
set_option maxRecDepth 100000 in
theorem t_X2_unserved {l : Launch} {D : va_G} {cI cZ cJ cG cW : ClassId} {a b d : Nat → Nat} {mg pt bd tk ho ri lo : Int32} {fv hd lf la : Nat → Int32} {r2 : Nat → Nat} {hp rl cn be : Nat → Int32} {bw : Int32} {wo : Nat → Nat → Int32} {r : Nat → Nat} {nc nw : Nat} {cx cy ch rm on wx wy dm sv mu : Nat → Int32} {qq : Nat → Nat → Int32}  (h6 : nw ≤ 6) : CtI l yX2_unserved wsX2_unserved 0 0 0 0 D (T5 cI cZ cJ cG cW) [.ref (d 0)] ((wCo cI a b d mg pt bd tk ho ri lo fv hd lf la ++ wSo cI cW a b r2 hp rl cn be bw wo) ++ wL cI cZ cG a r nc nw cx cy ch rm on wx wy dm sv mu qq) (fun rv wv => rv = fun0 sv nw ∧ wv = ((wCo cI a b d mg pt bd tk ho ri lo fv hd lf la ++ wSo cI cW a b r2 hp rl cn be bw wo) ++ wL cI cZ cG a r nc nw cx cy ch rm on wx wy dm sv mu qq)) := by
  refine ctI_of (cc := cX2_unserved) (maxL := 3) RX2 2 [some (.ref (d 0)), none, none] (by decide +kernel) rfl rfl (Nat.le_of_ble_eq_true rfl) rfl (fun p_ e_ s_ m_ as_ bl_ me_ co_ C hret => ?_)
  have f10 := C.ts (.fieldLink RX2 10 "CellPlanner" "land" "LCellPlanner$Land;") (by decide +kernel)
  have f80 := C.ts (.fieldLink RX2 80 "CellPlanner$Land" "walkers" "I") (by decide +kernel)
  have f128 := C.ts (.fieldLink RX2 128 "CellPlanner$Land" "server" "[I") (by decide +kernel)
  refine g_iconst C 0 dX2_unserved_0 (by decide +kernel) ?_
  refine g_istore_n C [some (.ref (d 0)), some (.int 0), none] dX2_unserved_1 (by decide) rfl rfl ?_
  refine g_iconst C 0 dX2_unserved_2 (by decide +kernel) ?_
  refine g_istore_n C [some (.ref (d 0)), some (.int 0), some (.int 0)] dX2_unserved_3 (by decide) rfl rfl ?_
  refine g_loop2 0 0 (fun (i : Nat) (x : Int32) => i ≤ nw ∧ x = fun0 sv i) (fun (i : Nat) (x : Int32) => ((wCo cI a b d mg pt bd tk ho ri lo fv hd lf la ++ wSo cI cW a b r2 hp rl cn be bw wo) ++ wL cI cZ cG a r nc nw cx cy ch rm on wx wy dm sv mu qq)) (fun (i : Nat) (x : Int32) => [some (.ref (d 0)), some (.int x), some (.int (nI i))]) (fun (i : Nat) (x : Int32) => nw - i) ⟨Nat.zero_le _, rfl⟩ rfl rfl (fun i x hI ih => ?_)
  obtain ⟨h1, h2⟩ := hI
  refine g_iload_n C dX2_unserved_4 rfl ?_
  refine g_aload_n C dX2_unserved_5 rfl ?_
  refine g_get C 0 iX2_unserved_X2 rfl rfl 0 (by decide) f10 rfl dX2_unserved_6 ?_
  refine g_get C 17 iX2_unserved_X0 rfl rfl 10 (by decide) f80 rfl dX2_unserved_9 ?_
  refine g_icmp_ge C 40 dX2_unserved_12 (by decide) (fun c_12 => ?_) (fun c_12 => ?_)
  · skip
    have c_12 : nw ≤ i := (nI_leI (by omega) (by omega)).mp c_12
    refine g_iload_n C dX2_unserved_40 rfl ?_
    exact g_iret C hret dX2_unserved_41 (Nat.le_of_ble_eq_true rfl) (Nat.le_of_ble_eq_true rfl) ⟨(by rw [h2, show i = nw by omega]), rfl⟩
  · skip
    have c_12 : ¬ (nw ≤ i) := fun h9 => c_12 ((nI_leI (by omega) (by omega)).mpr h9)
    refine g_aload_n C dX2_unserved_15 rfl ?_
    refine g_get C 0 iX2_unserved_X2 rfl rfl 0 (by decide) f10 rfl dX2_unserved_16 ?_
    refine g_get C 17 iX2_unserved_X0 rfl rfl 9 (by decide) f128 rfl dX2_unserved_19 ?_
    refine g_iload_n C dX2_unserved_22 rfl ?_
    refine g_iald C 26 0 rfl rfl i rfl (by omega) (by decide) (sv i) rfl dX2_unserved_23 ?_
    refine g_iconst C (-1) dX2_unserved_24 (by decide +kernel) ?_
    refine g_icmp_ne C 34 dX2_unserved_25 (by decide) (fun c_25 => ?_) (fun c_25 => ?_)
    · skip
      refine g_iinc C (nI (i + 1)) [some (.ref (d 0)), some (.int x), some (.int (nI (i + 1)))] dX2_unserved_34 rfl (nI_1 i) (by decide) rfl rfl ?_
      refine g_goto C 4 dX2_unserved_37 (by decide) ?_
      exact ih (i + 1) x ⟨by omega, by rw [fun0, if_neg c_25, h2]⟩ (by omega)
    · skip
      refine g_iload_n C dX2_unserved_28 rfl ?_
      refine g_iconst C 1 dX2_unserved_29 (by decide +kernel) ?_
      refine g_iload_n C dX2_unserved_30 rfl ?_
      refine g_ishl C (1 <<< ((nI i) &&& 31)) dX2_unserved_31 rfl ?_
      refine g_ior C (x ||| (1 <<< ((nI i) &&& 31))) dX2_unserved_32 rfl ?_
      refine g_istore_n C [some (.ref (d 0)), some (.int (x ||| (1 <<< ((nI i) &&& 31)))), some (.int (nI i))] dX2_unserved_33 (by decide) rfl rfl ?_
      refine g_iinc C (nI (i + 1)) [some (.ref (d 0)), some (.int (x ||| (1 <<< ((nI i) &&& 31)))), some (.int (nI (i + 1)))] dX2_unserved_34 rfl (nI_1 i) (by decide) rfl rfl ?_
      refine g_goto C 4 dX2_unserved_37 (by decide) ?_
      exact ih (i + 1) (x ||| (1 <<< ((nI i) &&& 31))) ⟨by omega, by rw [fun0, if_pos c_25, h2]⟩ (by omega)
theorem iX2_seekCell_X0 : ∀ w ∈ u_ws RX0 TX0 13, w ∈ wsX2_seekCell := by decide +kernel
theorem iX2_seekCell_X2 : ∀ w ∈ u_ws RX2 TX2 13, w ∈ wsX2_seekCell := by decide +kernel
set_option maxHeartbeats 1000000 in
set_option maxRecDepth 100000 in
theorem t_X2_seekCell {l : Launch} {D : va_G} {cI cZ cJ cG cW : ClassId} {a b d : Nat → Nat} {mg pt bd tk ho ri lo : Int32} {fv hd lf la : Nat → Int32} {r2 : Nat → Nat} {hp rl cn be : Nat → Int32} {bw : Int32} {wo : Nat → Nat → Int32} {r : Nat → Nat} {nc nw : Nat} {cx cy ch rm on wx wy dm sv mu : Nat → Int32} {qq : Nat → Nat → Int32} {kw : Nat} (h5 : nc ≤ 5) (h6 : nw ≤ 6) (hw : kw < 6) (hs : sv kw = -1) : CtV l yX2_seekCell wsX2_seekCell 3 68 0 0 D (T5 cI cZ cJ cG cW) [.ref (d 0), .int (nI kw)] ((wCo cI a b d mg pt bd tk ho ri lo fv hd lf la ++ wSo cI cW a b r2 hp rl cn be bw wo) ++ wL cI cZ cG a r nc nw cx cy ch rm on wx wy dm sv mu qq) (fun wv tv => wv = ((wCo cI a b d mg pt bd tk ((fts on dm rm nc nw qq mg pt bd tk kw (sv, fv, hd, lf, la, ho, ri, lo)).2.2.2.2.2.1) ((fts on dm rm nc nw qq mg pt bd tk kw (sv, fv, hd, lf, la, ho, ri, lo)).2.2.2.2.2.2.1) ((fts on dm rm nc nw qq mg pt bd tk kw (sv, fv, hd, lf, la, ho, ri, lo)).2.2.2.2.2.2.2) ((fts on dm rm nc nw qq mg pt bd tk kw (sv, fv, hd, lf, la, ho, ri, lo)).2.1) ((fts on dm rm nc nw qq mg pt bd tk kw (sv, fv, hd, lf, la, ho, ri, lo)).2.2.1) ((fts on dm rm nc nw qq mg pt bd tk kw (sv, fv, hd, lf, la, ho, ri, lo)).2.2.2.1) ((fts on dm rm nc nw qq mg pt bd tk kw (sv, fv, hd, lf, la, ho, ri, lo)).2.2.2.2.1) ++ wSo cI cW a b r2 hp rl cn be bw wo) ++ wL cI cZ cG a r nc nw cx cy ch rm on wx wy dm ((fts on dm rm nc nw qq mg pt bd tk kw (sv, fv, hd, lf, la, ho, ri, lo)).1) mu qq) ∧ tv = (T5 cI cZ cJ cG cW)) := by
  refine ctV_of (cc := cX2_seekCell) (maxL := 3) RX2 1 [some (.ref (d 0)), some (.int (nI kw)), none] (by decide +kernel) rfl rfl (Nat.le_of_ble_eq_true rfl) rfl (fun p_ e_ s_ m_ as_ bl_ me_ co_ C hret hini => ?_)
  have f10 := C.ts (.fieldLink RX2 10 "CellPlanner" "land" "LCellPlanner$Land;") (by decide +kernel)
  have f45 := C.ts (.fieldLink RX2 45 "CellPlanner" "bound" "I") (by decide +kernel)
  have f117 := C.ts (.fieldLink RX2 117 "CellPlanner$Land" "quality" "[[I") (by decide +kernel)
  have f128 := C.ts (.fieldLink RX2 128 "CellPlanner$Land" "server" "[I") (by decide +kernel)
  refine g_aload_n C dX2_seekCell_0 rfl ?_
  refine g_get C 0 iX2_seekCell_X2 rfl rfl 0 (by decide) f10 rfl dX2_seekCell_1 ?_
  refine g_iload_n C dX2_seekCell_4 rfl ?_
  refine g_callVi C (wCo cI a b d mg pt bd tk ho ri lo fv hd lf la ++ wSo cI cW a b r2 hp rl cn be bw wo) (wL cI cZ cG a r nc nw cx cy ch rm on wx wy dm sv mu qq) [.int (nI kw)] (t_X0_bestOther h5 h6 hw) rfl rfl (cwV 1 C.ts gX2_seekCell_X0_bestOther rfl rfl rfl (by decide +kernel) ⟨Nat.le_of_ble_eq_true rfl, Nat.le_of_ble_eq_true rfl⟩) rfl rfl rfl (Nat.le_of_ble_eq_true rfl) dX2_seekCell_5 ⟨Nat.le_of_ble_eq_true rfl, Nat.le_of_ble_eq_true rfl⟩ (fun rv1 wv1 hp1 => ?_)
  obtain ⟨rfl, rfl⟩ := hp1
  refine g_istore_n C [some (.ref (d 0)), some (.int (nI kw)), some (.int (en (fbo (fun u => ftk on sv dm rm nw kw u) (qq kw) nc)))] dX2_seekCell_8 (by decide) rfl rfl ?_
  have hb0 : ∀ z, fbo (fun u => ftk on sv dm rm nw kw u) (qq kw) nc = some z → z < 2 ^ 31 := fun z hz => by have := fbo_lt hz; omega
  obtain ⟨ob, hbo⟩ : ∃ ob, fbo (fun u => ftk on sv dm rm nw kw u) (qq kw) nc = ob := ⟨_, rfl⟩
  refine g_iload_n C dX2_seekCell_9 rfl ?_
  refine g_iconst C (-1) dX2_seekCell_10 (by decide +kernel) ?_
  refine g_icmp_eq C 42 dX2_seekCell_11 (by decide) (fun c_11 => ?_) (fun c_11 => ?_)
  · skip
    have hbo : fbo (fun u => ftk on sv dm rm nw kw u) (qq kw) nc = none := en_none hb0 c_11
    exact g_vret C hret dX2_seekCell_42 (Nat.le_of_ble_eq_true rfl) (Nat.le_of_ble_eq_true rfl) ⟨(by rw [show fts on dm rm nc nw qq mg pt bd tk kw (sv, fv, hd, lf, la, ho, ri, lo) = (sv, fv, hd, lf, la, ho, ri, lo) from (by first | (simp [fts, hs, hbo]; done) | (simp [fts, hs, hbo, c_29]; done))] <;> rfl), rfl⟩
  · skip
    obtain ⟨bb, hb⟩ := en_some c_11
    have hb2 := fbo_lt hb
    have hbo : fbo (fun u => ftk on sv dm rm nw kw u) (qq kw) nc = some bb := hb
    refine g_aload_n C dX2_seekCell_14 rfl ?_
    refine g_get C 0 iX2_seekCell_X2 rfl rfl 0 (by decide) f10 rfl dX2_seekCell_15 ?_
    refine g_get C 17 iX2_seekCell_X0 rfl rfl 12 (by decide) f117 rfl dX2_seekCell_18 ?_
    refine g_iload_n C dX2_seekCell_21 rfl ?_
    refine g_aald C 28 3 rfl rfl kw rfl hw (by decide) (r kw) (if_pos hw) dX2_seekCell_22 ?_
    refine g_iload_n C dX2_seekCell_23 rfl ?_
    refine g_iald C (29 + kw) 0 (wC_row hw) rfl bb (by rw [hb]; rfl) (by omega) (by decide) (qq kw bb) rfl dX2_seekCell_24 ?_
    refine g_aload_n C dX2_seekCell_25 rfl ?_
    refine g_get C 0 iX2_seekCell_X2 rfl rfl 8 (by decide) f45 rfl dX2_seekCell_26 ?_
    refine g_icmp_lt C 42 dX2_seekCell_29 (by decide) (fun c_29 => ?_) (fun c_29 => ?_)
    · skip
      exact g_vret C hret dX2_seekCell_42 (Nat.le_of_ble_eq_true rfl) (Nat.le_of_ble_eq_true rfl) ⟨(by rw [show fts on dm rm nc nw qq mg pt bd tk kw (sv, fv, hd, lf, la, ho, ri, lo) = (sv, fv, hd, lf, la, ho, ri, lo) from (by first | (simp [fts, hs, hbo]; done) | (simp [fts, hs, hbo, c_29]; done))] <;> rfl), rfl⟩
    · skip
      refine g_aload_n C dX2_seekCell_32 rfl ?_
      refine g_get C 0 iX2_seekCell_X2 rfl rfl 0 (by decide) f10 rfl dX2_seekCell_33 ?_
      refine g_get C 17 iX2_seekCell_X0 rfl rfl 9 (by decide) f128 rfl dX2_seekCell_36 ?_
      refine g_iload_n C dX2_seekCell_39 rfl ?_
      refine g_iload_n C dX2_seekCell_40 rfl ?_
      refine g_iast C 26 0 rfl rfl kw rfl (by omega) (by decide) ((wCo cI a b d mg pt bd tk ho ri lo fv hd lf la ++ wSo cI cW a b r2 hp rl cn be bw wo) ++ wL cI cZ cG a r nc nw cx cy ch rm on wx wy dm (upd sv kw (nI bb)) mu qq) (by rw [hb]; rfl) dX2_seekCell_41 ?_
      exact g_vret C hret dX2_seekCell_42 (Nat.le_of_ble_eq_true rfl) (Nat.le_of_ble_eq_true rfl) ⟨(by rw [show fts on dm rm nc nw qq mg pt bd tk kw (sv, fv, hd, lf, la, ho, ri, lo) = (upd sv kw (nI bb), fv, hd, lf, la, ho, ri, lo) from (by simp [fts, hs, hbo, c_29])] <;> rfl), rfl⟩
theorem iX2_loseCell_X0 : ∀ w ∈ u_ws RX0 TX0 13, w ∈ wsX2_loseCell := by decide +kernel
theorem iX2_loseCell_X2 : ∀ w ∈ u_ws RX2 TX2 13, w ∈ wsX2_loseCell := by decide +kernel
set_option maxHeartbeats 1000000 in
set_option maxRecDepth 100000 in
theorem t_X2_loseCell {l : Launch} {D : va_G} {cI cZ cJ cG cW : ClassId} {a b d : Nat → Nat} {mg pt bd tk ho ri lo : Int32} {fv hd lf la : Nat → Int32} {r2 : Nat → Nat} {hp rl cn be : Nat → Int32} {bw : Int32} {wo : Nat → Nat → Int32} {r : Nat → Nat} {nc nw : Nat} {cx cy ch rm on wx wy dm sv mu : Nat → Int32} {qq : Nat → Nat → Int32} {kw : Nat} (hw : kw < 6) (hs : ¬ sv kw = -1) (hq : ¬ bd ≤ qq kw (sv kw).toNatClampNeg) : CtV l yX2_loseCell wsX2_loseCell 1 21 0 0 D (T5 cI cZ cJ cG cW) [.ref (d 0), .int (nI kw)] ((wCo cI a b d mg pt bd tk ho ri lo fv hd lf la ++ wSo cI cW a b r2 hp rl cn be bw wo) ++ wL cI cZ cG a r nc nw cx cy ch rm on wx wy dm sv mu qq) (fun wv tv => wv = ((wCo cI a b d mg pt bd tk ((fts on dm rm nc nw qq mg pt bd tk kw (sv, fv, hd, lf, la, ho, ri, lo)).2.2.2.2.2.1) ((fts on dm rm nc nw qq mg pt bd tk kw (sv, fv, hd, lf, la, ho, ri, lo)).2.2.2.2.2.2.1) ((fts on dm rm nc nw qq mg pt bd tk kw (sv, fv, hd, lf, la, ho, ri, lo)).2.2.2.2.2.2.2) ((fts on dm rm nc nw qq mg pt bd tk kw (sv, fv, hd, lf, la, ho, ri, lo)).2.1) ((fts on dm rm nc nw qq mg pt bd tk kw (sv, fv, hd, lf, la, ho, ri, lo)).2.2.1) ((fts on dm rm nc nw qq mg pt bd tk kw (sv, fv, hd, lf, la, ho, ri, lo)).2.2.2.1) ((fts on dm rm nc nw qq mg pt bd tk kw (sv, fv, hd, lf, la, ho, ri, lo)).2.2.2.2.1) ++ wSo cI cW a b r2 hp rl cn be bw wo) ++ wL cI cZ cG a r nc nw cx cy ch rm on wx wy dm ((fts on dm rm nc nw qq mg pt bd tk kw (sv, fv, hd, lf, la, ho, ri, lo)).1) mu qq) ∧ tv = (T5 cI cZ cJ cG cW)) := by
  refine ctV_of (cc := cX2_loseCell) (maxL := 2) RX2 0 [some (.ref (d 0)), some (.int (nI kw))] (by decide +kernel) rfl rfl (Nat.le_of_ble_eq_true rfl) rfl (fun p_ e_ s_ m_ as_ bl_ me_ co_ C hret hini => ?_)
  have f10 := C.ts (.fieldLink RX2 10 "CellPlanner" "land" "LCellPlanner$Land;") (by decide +kernel)
  have f32 := C.ts (.fieldLink RX2 32 "CellPlanner" "leftCell" "[I") (by decide +kernel)
  have f128 := C.ts (.fieldLink RX2 128 "CellPlanner$Land" "server" "[I") (by decide +kernel)
  have f134 := C.ts (.fieldLink RX2 134 "CellPlanner" "losses" "I") (by decide +kernel)
  refine g_aload_n C dX2_loseCell_0 rfl ?_
  refine g_dup C dX2_loseCell_1 rfl ?_
  refine g_get C 0 iX2_loseCell_X2 rfl rfl 12 (by decide) f134 rfl dX2_loseCell_2 ?_
  refine g_iconst C 1 dX2_loseCell_5 (by decide +kernel) ?_
  refine g_iadd C (lo + 1) dX2_loseCell_6 rfl ?_
  refine g_put C 0 iX2_loseCell_X2 rfl rfl 12 (by decide) f134 rfl tyX2 tyX2_ok nmX2 (ty := .int) (by decide +kernel) rfl rfl (Nat.le_of_ble_eq_true rfl) ((wCo cI a b d mg pt bd tk ho ri (lo + 1) fv hd lf la ++ wSo cI cW a b r2 hp rl cn be bw wo) ++ wL cI cZ cG a r nc nw cx cy ch rm on wx wy dm sv mu qq) rfl dX2_loseCell_7 ?_
  refine g_aload_n C dX2_loseCell_10 rfl ?_
  refine g_get C 0 iX2_loseCell_X2 rfl rfl 0 (by decide) f10 rfl dX2_loseCell_11 ?_
  refine g_get C 17 iX2_loseCell_X0 rfl rfl 9 (by decide) f128 rfl dX2_loseCell_14 ?_
  refine g_iload_n C dX2_loseCell_17 rfl ?_
  refine g_iconst C (-1) dX2_loseCell_18 (by decide +kernel) ?_
  refine g_iast C 26 0 rfl rfl kw rfl (by omega) (by decide) ((wCo cI a b d mg pt bd tk ho ri (lo + 1) fv hd lf la ++ wSo cI cW a b r2 hp rl cn be bw wo) ++ wL cI cZ cG a r nc nw cx cy ch rm on wx wy dm (upd sv kw ((-1))) mu qq) rfl dX2_loseCell_19 ?_
  refine g_aload_n C dX2_loseCell_20 rfl ?_
  refine g_iload_n C dX2_loseCell_21 rfl ?_
  refine g_callVv C [] ((wCo cI a b d mg pt bd tk ho ri (lo + 1) fv hd lf la ++ wSo cI cW a b r2 hp rl cn be bw wo) ++ wL cI cZ cG a r nc nw cx cy ch rm on wx wy dm (upd sv kw ((-1))) mu qq) [.int (nI kw)] (t_X2_dropFavourite hw) rfl rfl (cwV 1 C.ts gX2_loseCell_X2_dropFavourite rfl rfl rfl (by decide +kernel) ⟨Nat.le_of_ble_eq_true rfl, Nat.le_of_ble_eq_true rfl⟩) rfl rfl rfl (Nat.le_of_ble_eq_true rfl) dX2_loseCell_22 ⟨Nat.le_of_ble_eq_true rfl, Nat.le_of_ble_eq_true rfl⟩ (fun wv1 tv1 hp1 => ?_)
  obtain ⟨rfl, rfl⟩ := hp1
  refine g_aload_n C dX2_loseCell_25 rfl ?_
  refine g_get C 0 iX2_loseCell_X2 rfl rfl 4 (by decide) f32 rfl dX2_loseCell_26 ?_
  refine g_iload_n C dX2_loseCell_29 rfl ?_
  refine g_iconst C (-1) dX2_loseCell_30 (by decide +kernel) ?_
  refine g_iast C 3 0 rfl rfl kw rfl (by omega) (by decide) ((wCo cI a b d mg pt bd tk ho ri (lo + 1) (upd fv kw (-1)) (upd hd kw 0) (upd lf kw ((-1))) la ++ wSo cI cW a b r2 hp rl cn be bw wo) ++ wL cI cZ cG a r nc nw cx cy ch rm on wx wy dm (upd sv kw ((-1))) mu qq) rfl dX2_loseCell_31 ?_
  exact g_vret C hret dX2_loseCell_32 (Nat.le_of_ble_eq_true rfl) (Nat.le_of_ble_eq_true rfl) ⟨(by rw [show fts on dm rm nc nw qq mg pt bd tk kw (sv, fv, hd, lf, la, ho, ri, lo) = (upd sv kw ((-1)), upd fv kw (-1), upd hd kw 0, upd lf kw ((-1)), la, ho, ri, lo + 1) from (by simp [fts, hs, hq])] <;> rfl), rfl⟩
theorem iX2_handOver_X0 : ∀ w ∈ u_ws RX0 TX0 13, w ∈ wsX2_handOver := by decide +kernel
theorem iX2_handOver_X2 : ∀ w ∈ u_ws RX2 TX2 13, w ∈ wsX2_handOver := by decide +kernel
set_option maxHeartbeats 1000000 in
set_option maxRecDepth 100000 in
theorem t_X2_handOver {l : Launch} {D : va_G} {cI cZ cJ cG cW : ClassId} {a b d : Nat → Nat} {mg pt bd tk ho ri lo : Int32} {fv hd lf la : Nat → Int32} {r2 : Nat → Nat} {hp rl cn be : Nat → Int32} {bw : Int32} {wo : Nat → Nat → Int32} {r : Nat → Nat} {nc nw : Nat} {cx cy ch rm on wx wy dm sv mu : Nat → Int32} {qq : Nat → Nat → Int32} {kw : Nat} {p2 p3 : Int32} (hw : kw < 6) : CtV l yX2_handOver wsX2_handOver 1 21 0 0 D (T5 cI cZ cJ cG cW) [.ref (d 0), .int (nI kw), .int p2, .int p3] ((wCo cI a b d mg pt bd tk ho ri lo fv hd lf la ++ wSo cI cW a b r2 hp rl cn be bw wo) ++ wL cI cZ cG a r nc nw cx cy ch rm on wx wy dm sv mu qq) (fun wv tv => wv = ((wCo cI a b d mg pt bd tk (ho + 1) (frg lf la kw p3 tk ri) lo (upd fv kw (-1)) (upd hd kw 0) (upd lf kw p2) (upd la kw tk) ++ wSo cI cW a b r2 hp rl cn be bw wo) ++ wL cI cZ cG a r nc nw cx cy ch rm on wx wy dm (upd sv kw p3) mu qq) ∧ tv = (T5 cI cZ cJ cG cW)) := by
  refine ctV_of (cc := cX2_handOver) (maxL := 4) RX2 0 [some (.ref (d 0)), some (.int (nI kw)), some (.int p2), some (.int p3)] (by decide +kernel) rfl rfl (Nat.le_of_ble_eq_true rfl) rfl (fun p_ e_ s_ m_ as_ bl_ me_ co_ C hret hini => ?_)
  have f10 := C.ts (.fieldLink RX2 10 "CellPlanner" "land" "LCellPlanner$Land;") (by decide +kernel)
  have f32 := C.ts (.fieldLink RX2 32 "CellPlanner" "leftCell" "[I") (by decide +kernel)
  have f35 := C.ts (.fieldLink RX2 35 "CellPlanner" "leftAt" "[I") (by decide +kernel)
  have f101 := C.ts (.fieldLink RX2 101 "CellPlanner" "handovers" "I") (by decide +kernel)
  have f107 := C.ts (.fieldLink RX2 107 "CellPlanner" "ticks" "I") (by decide +kernel)
  have f128 := C.ts (.fieldLink RX2 128 "CellPlanner$Land" "server" "[I") (by decide +kernel)
  have f131 := C.ts (.fieldLink RX2 131 "CellPlanner" "rings" "I") (by decide +kernel)
  refine g_aload_n C dX2_handOver_0 rfl ?_
  refine g_dup C dX2_handOver_1 rfl ?_
  refine g_get C 0 iX2_handOver_X2 rfl rfl 10 (by decide) f101 rfl dX2_handOver_2 ?_
  refine g_iconst C 1 dX2_handOver_5 (by decide +kernel) ?_
  refine g_iadd C (ho + 1) dX2_handOver_6 rfl ?_
  refine g_put C 0 iX2_handOver_X2 rfl rfl 10 (by decide) f101 rfl tyX2 tyX2_ok nmX2 (ty := .int) (by decide +kernel) rfl rfl (Nat.le_of_ble_eq_true rfl) ((wCo cI a b d mg pt bd tk (ho + 1) ri lo fv hd lf la ++ wSo cI cW a b r2 hp rl cn be bw wo) ++ wL cI cZ cG a r nc nw cx cy ch rm on wx wy dm sv mu qq) rfl dX2_handOver_7 ?_
  refine g_iload_n C dX2_handOver_10 rfl ?_
  refine g_aload_n C dX2_handOver_11 rfl ?_
  refine g_get C 0 iX2_handOver_X2 rfl rfl 4 (by decide) f32 rfl dX2_handOver_12 ?_
  refine g_iload_n C dX2_handOver_15 rfl ?_
  refine g_iald C 3 0 rfl rfl kw rfl (by omega) (by decide) (lf kw) rfl dX2_handOver_16 ?_
  refine g_icmp_ne C 45 dX2_handOver_17 (by decide) (fun c_17 => ?_) (fun c_17 => ?_)
  · skip
    refine g_aload_n C dX2_handOver_45 rfl ?_
    refine g_get C 0 iX2_handOver_X2 rfl rfl 4 (by decide) f32 rfl dX2_handOver_46 ?_
    refine g_iload_n C dX2_handOver_49 rfl ?_
    refine g_iload_n C dX2_handOver_50 rfl ?_
    refine g_iast C 3 0 rfl rfl kw rfl (by omega) (by decide) ((wCo cI a b d mg pt bd tk (ho + 1) ri lo fv hd (upd lf kw p2) la ++ wSo cI cW a b r2 hp rl cn be bw wo) ++ wL cI cZ cG a r nc nw cx cy ch rm on wx wy dm sv mu qq) rfl dX2_handOver_51 ?_
    refine g_aload_n C dX2_handOver_52 rfl ?_
    refine g_get C 0 iX2_handOver_X2 rfl rfl 5 (by decide) f35 rfl dX2_handOver_53 ?_
    refine g_iload_n C dX2_handOver_56 rfl ?_
    refine g_aload_n C dX2_handOver_57 rfl ?_
    refine g_get C 0 iX2_handOver_X2 rfl rfl 9 (by decide) f107 rfl dX2_handOver_58 ?_
    refine g_iast C 4 0 rfl rfl kw rfl (by omega) (by decide) ((wCo cI a b d mg pt bd tk (ho + 1) ri lo fv hd (upd lf kw p2) (upd la kw tk) ++ wSo cI cW a b r2 hp rl cn be bw wo) ++ wL cI cZ cG a r nc nw cx cy ch rm on wx wy dm sv mu qq) rfl dX2_handOver_61 ?_
    refine g_aload_n C dX2_handOver_62 rfl ?_
    refine g_get C 0 iX2_handOver_X2 rfl rfl 0 (by decide) f10 rfl dX2_handOver_63 ?_
    refine g_get C 17 iX2_handOver_X0 rfl rfl 9 (by decide) f128 rfl dX2_handOver_66 ?_
    refine g_iload_n C dX2_handOver_69 rfl ?_
    refine g_iload_n C dX2_handOver_70 rfl ?_
    refine g_iast C 26 0 rfl rfl kw rfl (by omega) (by decide) ((wCo cI a b d mg pt bd tk (ho + 1) ri lo fv hd (upd lf kw p2) (upd la kw tk) ++ wSo cI cW a b r2 hp rl cn be bw wo) ++ wL cI cZ cG a r nc nw cx cy ch rm on wx wy dm (upd sv kw p3) mu qq) rfl dX2_handOver_71 ?_
    refine g_aload_n C dX2_handOver_72 rfl ?_
    refine g_iload_n C dX2_handOver_73 rfl ?_
    refine g_callVv C [] ((wCo cI a b d mg pt bd tk (ho + 1) ri lo fv hd (upd lf kw p2) (upd la kw tk) ++ wSo cI cW a b r2 hp rl cn be bw wo) ++ wL cI cZ cG a r nc nw cx cy ch rm on wx wy dm (upd sv kw p3) mu qq) [.int (nI kw)] (t_X2_dropFavourite hw) rfl rfl (cwV 1 C.ts gX2_handOver_X2_dropFavourite rfl rfl rfl (by decide +kernel) ⟨Nat.le_of_ble_eq_true rfl, Nat.le_of_ble_eq_true rfl⟩) rfl rfl rfl (Nat.le_of_ble_eq_true rfl) dX2_handOver_74 ⟨Nat.le_of_ble_eq_true rfl, Nat.le_of_ble_eq_true rfl⟩ (fun wv1 tv1 hp1 => ?_)
    obtain ⟨rfl, rfl⟩ := hp1
    exact g_vret C hret dX2_handOver_77 (Nat.le_of_ble_eq_true rfl) (Nat.le_of_ble_eq_true rfl) ⟨(by rw [show frg lf la kw p3 tk ri = ri from (by first | (simp [frg, c_17]; done) | (simp [frg, c_17, c_32]; done))] <;> rfl), rfl⟩
  · skip
    refine g_aload_n C dX2_handOver_20 rfl ?_
    refine g_get C 0 iX2_handOver_X2 rfl rfl 9 (by decide) f107 rfl dX2_handOver_21 ?_
    refine g_aload_n C dX2_handOver_24 rfl ?_
    refine g_get C 0 iX2_handOver_X2 rfl rfl 5 (by decide) f35 rfl dX2_handOver_25 ?_
    refine g_iload_n C dX2_handOver_28 rfl ?_
    refine g_iald C 4 0 rfl rfl kw rfl (by omega) (by decide) (la kw) rfl dX2_handOver_29 ?_
    refine g_isub C (tk - (la kw)) dX2_handOver_30 rfl ?_
    refine g_iconst C 5 dX2_handOver_31 (by decide +kernel) ?_
    refine g_icmp_gt C 45 dX2_handOver_32 (by decide) (fun c_32 => ?_) (fun c_32 => ?_)
    · skip
      refine g_aload_n C dX2_handOver_45 rfl ?_
      refine g_get C 0 iX2_handOver_X2 rfl rfl 4 (by decide) f32 rfl dX2_handOver_46 ?_
      refine g_iload_n C dX2_handOver_49 rfl ?_
      refine g_iload_n C dX2_handOver_50 rfl ?_
      refine g_iast C 3 0 rfl rfl kw rfl (by omega) (by decide) ((wCo cI a b d mg pt bd tk (ho + 1) ri lo fv hd (upd lf kw p2) la ++ wSo cI cW a b r2 hp rl cn be bw wo) ++ wL cI cZ cG a r nc nw cx cy ch rm on wx wy dm sv mu qq) rfl dX2_handOver_51 ?_
      refine g_aload_n C dX2_handOver_52 rfl ?_
      refine g_get C 0 iX2_handOver_X2 rfl rfl 5 (by decide) f35 rfl dX2_handOver_53 ?_
      refine g_iload_n C dX2_handOver_56 rfl ?_
      refine g_aload_n C dX2_handOver_57 rfl ?_
      refine g_get C 0 iX2_handOver_X2 rfl rfl 9 (by decide) f107 rfl dX2_handOver_58 ?_
      refine g_iast C 4 0 rfl rfl kw rfl (by omega) (by decide) ((wCo cI a b d mg pt bd tk (ho + 1) ri lo fv hd (upd lf kw p2) (upd la kw tk) ++ wSo cI cW a b r2 hp rl cn be bw wo) ++ wL cI cZ cG a r nc nw cx cy ch rm on wx wy dm sv mu qq) rfl dX2_handOver_61 ?_
      refine g_aload_n C dX2_handOver_62 rfl ?_
      refine g_get C 0 iX2_handOver_X2 rfl rfl 0 (by decide) f10 rfl dX2_handOver_63 ?_
      refine g_get C 17 iX2_handOver_X0 rfl rfl 9 (by decide) f128 rfl dX2_handOver_66 ?_
      refine g_iload_n C dX2_handOver_69 rfl ?_
      refine g_iload_n C dX2_handOver_70 rfl ?_
      refine g_iast C 26 0 rfl rfl kw rfl (by omega) (by decide) ((wCo cI a b d mg pt bd tk (ho + 1) ri lo fv hd (upd lf kw p2) (upd la kw tk) ++ wSo cI cW a b r2 hp rl cn be bw wo) ++ wL cI cZ cG a r nc nw cx cy ch rm on wx wy dm (upd sv kw p3) mu qq) rfl dX2_handOver_71 ?_
      refine g_aload_n C dX2_handOver_72 rfl ?_
      refine g_iload_n C dX2_handOver_73 rfl ?_
      refine g_callVv C [] ((wCo cI a b d mg pt bd tk (ho + 1) ri lo fv hd (upd lf kw p2) (upd la kw tk) ++ wSo cI cW a b r2 hp rl cn be bw wo) ++ wL cI cZ cG a r nc nw cx cy ch rm on wx wy dm (upd sv kw p3) mu qq) [.int (nI kw)] (t_X2_dropFavourite hw) rfl rfl (cwV 1 C.ts gX2_handOver_X2_dropFavourite rfl rfl rfl (by decide +kernel) ⟨Nat.le_of_ble_eq_true rfl, Nat.le_of_ble_eq_true rfl⟩) rfl rfl rfl (Nat.le_of_ble_eq_true rfl) dX2_handOver_74 ⟨Nat.le_of_ble_eq_true rfl, Nat.le_of_ble_eq_true rfl⟩ (fun wv2 tv2 hp2 => ?_)
      obtain ⟨rfl, rfl⟩ := hp2
      exact g_vret C hret dX2_handOver_77 (Nat.le_of_ble_eq_true rfl) (Nat.le_of_ble_eq_true rfl) ⟨(by rw [show frg lf la kw p3 tk ri = ri from (by first | (simp [frg, c_17]; done) | (simp [frg, c_17, c_32]; done))] <;> rfl), rfl⟩
    · skip
      refine g_aload_n C dX2_handOver_35 rfl ?_
      refine g_dup C dX2_handOver_36 rfl ?_
      refine g_get C 0 iX2_handOver_X2 rfl rfl 11 (by decide) f131 rfl dX2_handOver_37 ?_
      refine g_iconst C 1 dX2_handOver_40 (by decide +kernel) ?_
      refine g_iadd C (ri + 1) dX2_handOver_41 rfl ?_
      refine g_put C 0 iX2_handOver_X2 rfl rfl 11 (by decide) f131 rfl tyX2 tyX2_ok nmX2 (ty := .int) (by decide +kernel) rfl rfl (Nat.le_of_ble_eq_true rfl) ((wCo cI a b d mg pt bd tk (ho + 1) (ri + 1) lo fv hd lf la ++ wSo cI cW a b r2 hp rl cn be bw wo) ++ wL cI cZ cG a r nc nw cx cy ch rm on wx wy dm sv mu qq) rfl dX2_handOver_42 ?_
      refine g_aload_n C dX2_handOver_45 rfl ?_
      refine g_get C 0 iX2_handOver_X2 rfl rfl 4 (by decide) f32 rfl dX2_handOver_46 ?_
      refine g_iload_n C dX2_handOver_49 rfl ?_
      refine g_iload_n C dX2_handOver_50 rfl ?_
      refine g_iast C 3 0 rfl rfl kw rfl (by omega) (by decide) ((wCo cI a b d mg pt bd tk (ho + 1) (ri + 1) lo fv hd (upd lf kw p2) la ++ wSo cI cW a b r2 hp rl cn be bw wo) ++ wL cI cZ cG a r nc nw cx cy ch rm on wx wy dm sv mu qq) rfl dX2_handOver_51 ?_
      refine g_aload_n C dX2_handOver_52 rfl ?_
      refine g_get C 0 iX2_handOver_X2 rfl rfl 5 (by decide) f35 rfl dX2_handOver_53 ?_
      refine g_iload_n C dX2_handOver_56 rfl ?_
      refine g_aload_n C dX2_handOver_57 rfl ?_
      refine g_get C 0 iX2_handOver_X2 rfl rfl 9 (by decide) f107 rfl dX2_handOver_58 ?_
      refine g_iast C 4 0 rfl rfl kw rfl (by omega) (by decide) ((wCo cI a b d mg pt bd tk (ho + 1) (ri + 1) lo fv hd (upd lf kw p2) (upd la kw tk) ++ wSo cI cW a b r2 hp rl cn be bw wo) ++ wL cI cZ cG a r nc nw cx cy ch rm on wx wy dm sv mu qq) rfl dX2_handOver_61 ?_
      refine g_aload_n C dX2_handOver_62 rfl ?_
      refine g_get C 0 iX2_handOver_X2 rfl rfl 0 (by decide) f10 rfl dX2_handOver_63 ?_
      refine g_get C 17 iX2_handOver_X0 rfl rfl 9 (by decide) f128 rfl dX2_handOver_66 ?_
      refine g_iload_n C dX2_handOver_69 rfl ?_
      refine g_iload_n C dX2_handOver_70 rfl ?_
      refine g_iast C 26 0 rfl rfl kw rfl (by omega) (by decide) ((wCo cI a b d mg pt bd tk (ho + 1) (ri + 1) lo fv hd (upd lf kw p2) (upd la kw tk) ++ wSo cI cW a b r2 hp rl cn be bw wo) ++ wL cI cZ cG a r nc nw cx cy ch rm on wx wy dm (upd sv kw p3) mu qq) rfl dX2_handOver_71 ?_
      refine g_aload_n C dX2_handOver_72 rfl ?_
      refine g_iload_n C dX2_handOver_73 rfl ?_
      refine g_callVv C [] ((wCo cI a b d mg pt bd tk (ho + 1) (ri + 1) lo fv hd (upd lf kw p2) (upd la kw tk) ++ wSo cI cW a b r2 hp rl cn be bw wo) ++ wL cI cZ cG a r nc nw cx cy ch rm on wx wy dm (upd sv kw p3) mu qq) [.int (nI kw)] (t_X2_dropFavourite hw) rfl rfl (cwV 1 C.ts gX2_handOver_X2_dropFavourite rfl rfl rfl (by decide +kernel) ⟨Nat.le_of_ble_eq_true rfl, Nat.le_of_ble_eq_true rfl⟩) rfl rfl rfl (Nat.le_of_ble_eq_true rfl) dX2_handOver_74 ⟨Nat.le_of_ble_eq_true rfl, Nat.le_of_ble_eq_true rfl⟩ (fun wv3 tv3 hp3 => ?_)
      obtain ⟨rfl, rfl⟩ := hp3
      exact g_vret C hret dX2_handOver_77 (Nat.le_of_ble_eq_true rfl) (Nat.le_of_ble_eq_true rfl) ⟨(by rw [show frg lf la kw p3 tk ri = ri + 1 from (by first | (simp [frg, c_17]; done) | (simp [frg, c_17, c_32]; done))] <;> rfl), rfl⟩
theorem iX2_weighFavourite_X0 : ∀ w ∈ u_ws RX0 TX0 13, w ∈ wsX2_weighFavourite := by decide +kernel
theorem iX2_weighFavourite_X2 : ∀ w ∈ u_ws RX2 TX2 13, w ∈ wsX2_weighFavourite := by decide +kernel
set_option maxHeartbeats 1000000 in
set_option maxRecDepth 100000 in
theorem t_X2_weighFavourite {l : Launch} {D : va_G} {cI cZ cJ cG cW : ClassId} {a b d : Nat → Nat} {mg pt bd tk ho ri lo : Int32} {fv hd lf la : Nat → Int32} {r2 : Nat → Nat} {hp rl cn be : Nat → Int32} {bw : Int32} {wo : Nat → Nat → Int32} {r : Nat → Nat} {nc nw : Nat} {cx cy ch rm on wx wy dm sv mu : Nat → Int32} {qq : Nat → Nat → Int32} {kw ks : Nat} (h5 : nc ≤ 5) (h6 : nw ≤ 6) (hw : kw < 6) (hk : ks < 5) (hs : sv kw = nI ks) (hq : bd ≤ qq kw (sv kw).toNatClampNeg) : CtV l yX2_weighFavourite wsX2_weighFavourite 3 68 0 0 D (T5 cI cZ cJ cG cW) [.ref (d 0), .int (nI kw), .int (sv kw)] ((wCo cI a b d mg pt bd tk ho ri lo fv hd lf la ++ wSo cI cW a b r2 hp rl cn be bw wo) ++ wL cI cZ cG a r nc nw cx cy ch rm on wx wy dm sv mu qq) (fun wv tv => wv = ((wCo cI a b d mg pt bd tk ((fts on dm rm nc nw qq mg pt bd tk kw (sv, fv, hd, lf, la, ho, ri, lo)).2.2.2.2.2.1) ((fts on dm rm nc nw qq mg pt bd tk kw (sv, fv, hd, lf, la, ho, ri, lo)).2.2.2.2.2.2.1) ((fts on dm rm nc nw qq mg pt bd tk kw (sv, fv, hd, lf, la, ho, ri, lo)).2.2.2.2.2.2.2) ((fts on dm rm nc nw qq mg pt bd tk kw (sv, fv, hd, lf, la, ho, ri, lo)).2.1) ((fts on dm rm nc nw qq mg pt bd tk kw (sv, fv, hd, lf, la, ho, ri, lo)).2.2.1) ((fts on dm rm nc nw qq mg pt bd tk kw (sv, fv, hd, lf, la, ho, ri, lo)).2.2.2.1) ((fts on dm rm nc nw qq mg pt bd tk kw (sv, fv, hd, lf, la, ho, ri, lo)).2.2.2.2.1) ++ wSo cI cW a b r2 hp rl cn be bw wo) ++ wL cI cZ cG a r nc nw cx cy ch rm on wx wy dm ((fts on dm rm nc nw qq mg pt bd tk kw (sv, fv, hd, lf, la, ho, ri, lo)).1) mu qq) ∧ tv = (T5 cI cZ cJ cG cW)) := by
  refine ctV_of (cc := cX2_weighFavourite) (maxL := 4) RX2 1 [some (.ref (d 0)), some (.int (nI kw)), some (.int (sv kw)), none] (by decide +kernel) rfl rfl (Nat.le_of_ble_eq_true rfl) rfl (fun p_ e_ s_ m_ as_ bl_ me_ co_ C hret hini => ?_)
  have f10 := C.ts (.fieldLink RX2 10 "CellPlanner" "land" "LCellPlanner$Land;") (by decide +kernel)
  have f25 := C.ts (.fieldLink RX2 25 "CellPlanner" "favourite" "[I") (by decide +kernel)
  have f29 := C.ts (.fieldLink RX2 29 "CellPlanner" "held" "[I") (by decide +kernel)
  have f38 := C.ts (.fieldLink RX2 38 "CellPlanner" "margin" "I") (by decide +kernel)
  have f42 := C.ts (.fieldLink RX2 42 "CellPlanner" "patience" "I") (by decide +kernel)
  have f117 := C.ts (.fieldLink RX2 117 "CellPlanner$Land" "quality" "[[I") (by decide +kernel)
  refine g_aload_n C dX2_weighFavourite_0 rfl ?_
  refine g_get C 0 iX2_weighFavourite_X2 rfl rfl 0 (by decide) f10 rfl dX2_weighFavourite_1 ?_
  refine g_iload_n C dX2_weighFavourite_4 rfl ?_
  refine g_callVi C (wCo cI a b d mg pt bd tk ho ri lo fv hd lf la ++ wSo cI cW a b r2 hp rl cn be bw wo) (wL cI cZ cG a r nc nw cx cy ch rm on wx wy dm sv mu qq) [.int (nI kw)] (t_X0_bestOther h5 h6 hw) rfl rfl (cwV 1 C.ts gX2_weighFavourite_X0_bestOther rfl rfl rfl (by decide +kernel) ⟨Nat.le_of_ble_eq_true rfl, Nat.le_of_ble_eq_true rfl⟩) rfl rfl rfl (Nat.le_of_ble_eq_true rfl) dX2_weighFavourite_5 ⟨Nat.le_of_ble_eq_true rfl, Nat.le_of_ble_eq_true rfl⟩ (fun rv1 wv1 hp1 => ?_)
  obtain ⟨rfl, rfl⟩ := hp1
  refine g_istore_n C [some (.ref (d 0)), some (.int (nI kw)), some (.int (sv kw)), some (.int (en (fbo (fun u => ftk on sv dm rm nw kw u) (qq kw) nc)))] dX2_weighFavourite_8 (by decide) rfl rfl ?_
  have hb0 : ∀ z, fbo (fun u => ftk on sv dm rm nw kw u) (qq kw) nc = some z → z < 2 ^ 31 := fun z hz => by have := fbo_lt hz; omega
  obtain ⟨ob, hbo⟩ : ∃ ob, fbo (fun u => ftk on sv dm rm nw kw u) (qq kw) nc = ob := ⟨_, rfl⟩
  have hs9 : (nI ks).toNatClampNeg = ks := nI_clamp (by omega)
  rw [hs, hs9] at hq
  have hs8 : ¬ nI ks = -1 := en_m1 (by omega)
  refine g_iload_n C dX2_weighFavourite_9 rfl ?_
  refine g_iconst C (-1) dX2_weighFavourite_10 (by decide +kernel) ?_
  refine g_icmp_eq C 44 dX2_weighFavourite_11 (by decide) (fun c_11 => ?_) (fun c_11 => ?_)
  · skip
    have hbo : fbo (fun u => ftk on sv dm rm nw kw u) (qq kw) nc = none := en_none hb0 c_11
    refine g_aload_n C dX2_weighFavourite_44 rfl ?_
    refine g_iload_n C dX2_weighFavourite_45 rfl ?_
    refine g_callVv C [] ((wCo cI a b d mg pt bd tk ho ri lo fv hd lf la ++ wSo cI cW a b r2 hp rl cn be bw wo) ++ wL cI cZ cG a r nc nw cx cy ch rm on wx wy dm sv mu qq) [.int (nI kw)] (t_X2_dropFavourite hw) rfl rfl (cwV 1 C.ts gX2_weighFavourite_X2_dropFavourite rfl rfl rfl (by decide +kernel) ⟨Nat.le_of_ble_eq_true rfl, Nat.le_of_ble_eq_true rfl⟩) rfl rfl rfl (Nat.le_of_ble_eq_true rfl) dX2_weighFavourite_46 ⟨Nat.le_of_ble_eq_true rfl, Nat.le_of_ble_eq_true rfl⟩ (fun wv2 tv2 hp2 => ?_)
    obtain ⟨rfl, rfl⟩ := hp2
    exact g_vret C hret dX2_weighFavourite_49 (Nat.le_of_ble_eq_true rfl) (Nat.le_of_ble_eq_true rfl) ⟨(by rw [show fts on dm rm nc nw qq mg pt bd tk kw (sv, fv, hd, lf, la, ho, ri, lo) = (sv, upd fv kw (-1), upd hd kw 0, lf, la, ho, ri, lo) from (by first | (simp [fts, hs, hs8, hs9, hq, hbo]; done) | (simp [fts, hs, hs8, hs9, hq, hbo, c_41]; done))] <;> rfl), rfl⟩
  · skip
    obtain ⟨bb, hb⟩ := en_some c_11
    have hb2 := fbo_lt hb
    have hbo : fbo (fun u => ftk on sv dm rm nw kw u) (qq kw) nc = some bb := hb
    refine g_aload_n C dX2_weighFavourite_14 rfl ?_
    refine g_get C 0 iX2_weighFavourite_X2 rfl rfl 0 (by decide) f10 rfl dX2_weighFavourite_15 ?_
    refine g_get C 17 iX2_weighFavourite_X0 rfl rfl 12 (by decide) f117 rfl dX2_weighFavourite_18 ?_
    refine g_iload_n C dX2_weighFavourite_21 rfl ?_
    refine g_aald C 28 3 rfl rfl kw rfl hw (by decide) (r kw) (if_pos hw) dX2_weighFavourite_22 ?_
    refine g_iload_n C dX2_weighFavourite_23 rfl ?_
    refine g_iald C (29 + kw) 0 (wC_row hw) rfl bb (by rw [hb]; rfl) (by omega) (by decide) (qq kw bb) rfl dX2_weighFavourite_24 ?_
    refine g_aload_n C dX2_weighFavourite_25 rfl ?_
    refine g_get C 0 iX2_weighFavourite_X2 rfl rfl 0 (by decide) f10 rfl dX2_weighFavourite_26 ?_
    refine g_get C 17 iX2_weighFavourite_X0 rfl rfl 12 (by decide) f117 rfl dX2_weighFavourite_29 ?_
    refine g_iload_n C dX2_weighFavourite_32 rfl ?_
    refine g_aald C 28 3 rfl rfl kw rfl hw (by decide) (r kw) (if_pos hw) dX2_weighFavourite_33 ?_
    refine g_iload_n C dX2_weighFavourite_34 rfl ?_
    refine g_iald C (29 + kw) 0 (wC_row hw) rfl ks hs hk (by decide) (qq kw ks) rfl dX2_weighFavourite_35 ?_
    refine g_aload_n C dX2_weighFavourite_36 rfl ?_
    refine g_get C 0 iX2_weighFavourite_X2 rfl rfl 6 (by decide) f38 rfl dX2_weighFavourite_37 ?_
    refine g_iadd C ((qq kw ks) + mg) dX2_weighFavourite_40 rfl ?_
    refine g_icmp_ge C 50 dX2_weighFavourite_41 (by decide) (fun c_41 => ?_) (fun c_41 => ?_)
    · skip
      refine g_lv (lv' := [some (.ref (d 0)), some (.int (nI kw)), some (.int (sv kw)), some (.int (nI bb))]) (by rw [hb]; rfl) ?_
      refine g_aload_n C dX2_weighFavourite_50 rfl ?_
      refine g_get C 0 iX2_weighFavourite_X2 rfl rfl 3 (by decide) f29 rfl dX2_weighFavourite_51 ?_
      refine g_iload_n C dX2_weighFavourite_54 rfl ?_
      refine g_iload_n C dX2_weighFavourite_55 rfl ?_
      refine g_aload_n C dX2_weighFavourite_56 rfl ?_
      refine g_get C 0 iX2_weighFavourite_X2 rfl rfl 2 (by decide) f25 rfl dX2_weighFavourite_57 ?_
      refine g_iload_n C dX2_weighFavourite_60 rfl ?_
      refine g_iald C 1 0 rfl rfl kw rfl hw (by decide) (fv kw) rfl dX2_weighFavourite_61 ?_
      refine g_icmp_ne C 76 dX2_weighFavourite_62 (by decide) (fun c_62 => ?_) (fun c_62 => ?_)
      · skip
        refine g_iconst C 1 dX2_weighFavourite_76 (by decide +kernel) ?_
        refine g_iast C 2 0 rfl rfl kw rfl hw (by decide) ((wCo cI a b d mg pt bd tk ho ri lo fv (upd hd kw 1) lf la ++ wSo cI cW a b r2 hp rl cn be bw wo) ++ wL cI cZ cG a r nc nw cx cy ch rm on wx wy dm sv mu qq) rfl dX2_weighFavourite_77 ?_
        refine g_aload_n C dX2_weighFavourite_78 rfl ?_
        refine g_get C 0 iX2_weighFavourite_X2 rfl rfl 2 (by decide) f25 rfl dX2_weighFavourite_79 ?_
        refine g_iload_n C dX2_weighFavourite_82 rfl ?_
        refine g_iload_n C dX2_weighFavourite_83 rfl ?_
        refine g_iast C 1 0 rfl rfl kw rfl hw (by decide) ((wCo cI a b d mg pt bd tk ho ri lo (upd fv kw (nI bb)) (upd hd kw 1) lf la ++ wSo cI cW a b r2 hp rl cn be bw wo) ++ wL cI cZ cG a r nc nw cx cy ch rm on wx wy dm sv mu qq) rfl dX2_weighFavourite_84 ?_
        refine g_aload_n C dX2_weighFavourite_85 rfl ?_
        refine g_get C 0 iX2_weighFavourite_X2 rfl rfl 3 (by decide) f29 rfl dX2_weighFavourite_86 ?_
        refine g_iload_n C dX2_weighFavourite_89 rfl ?_
        refine g_iald C 2 0 rfl rfl kw rfl hw (by decide) 1 upd_at dX2_weighFavourite_90 ?_
        refine g_aload_n C dX2_weighFavourite_91 rfl ?_
        refine g_get C 0 iX2_weighFavourite_X2 rfl rfl 7 (by decide) f42 rfl dX2_weighFavourite_92 ?_
        refine g_icmp_lt C 105 dX2_weighFavourite_95 (by decide) (fun c_95 => ?_) (fun c_95 => ?_)
        · skip
          exact g_vret C hret dX2_weighFavourite_105 (Nat.le_of_ble_eq_true rfl) (Nat.le_of_ble_eq_true rfl) ⟨(by rw [show fts on dm rm nc nw qq mg pt bd tk kw (sv, fv, hd, lf, la, ho, ri, lo) = (sv, upd fv kw (nI bb), upd hd kw 1, lf, la, ho, ri, lo) from (by simp [fts, hs, hs8, hs9, hq, hbo, c_41, (show fhe fv hd kw bb = 1 from (by simp [fhe, c_62])), c_95, upd_upd])] <;> rfl), rfl⟩
        · skip
          refine g_aload_n C dX2_weighFavourite_98 rfl ?_
          refine g_iload_n C dX2_weighFavourite_99 rfl ?_
          refine g_iload_n C dX2_weighFavourite_100 rfl ?_
          refine g_iload_n C dX2_weighFavourite_101 rfl ?_
          refine g_callVv C [] ((wCo cI a b d mg pt bd tk ho ri lo (upd fv kw (nI bb)) (upd hd kw 1) lf la ++ wSo cI cW a b r2 hp rl cn be bw wo) ++ wL cI cZ cG a r nc nw cx cy ch rm on wx wy dm sv mu qq) [.int (nI kw), .int (sv kw), .int (nI bb)] (t_X2_handOver hw) rfl rfl (cwV 3 C.ts gX2_weighFavourite_X2_handOver rfl rfl rfl (by decide +kernel) ⟨Nat.le_of_ble_eq_true rfl, Nat.le_of_ble_eq_true rfl⟩) rfl rfl rfl (Nat.le_of_ble_eq_true rfl) dX2_weighFavourite_102 ⟨Nat.le_of_ble_eq_true rfl, Nat.le_of_ble_eq_true rfl⟩ (fun wv3 tv3 hp3 => ?_)
          obtain ⟨rfl, rfl⟩ := hp3
          exact g_vret C hret dX2_weighFavourite_105 (Nat.le_of_ble_eq_true rfl) (Nat.le_of_ble_eq_true rfl) ⟨(by rw [show fts on dm rm nc nw qq mg pt bd tk kw (sv, fv, hd, lf, la, ho, ri, lo) = (upd sv kw (nI bb), upd (upd fv kw (nI bb)) kw (-1), upd (upd hd kw 1) kw 0, upd lf kw (sv kw), upd la kw tk, ho + 1, frg lf la kw (nI bb) tk ri, lo) from (by simp [fts, hs, hs8, hs9, hq, hbo, c_41, (show fhe fv hd kw bb = 1 from (by simp [fhe, c_62])), c_95, upd_upd])] <;> rfl), rfl⟩
      · skip
        refine g_aload_n C dX2_weighFavourite_65 rfl ?_
        refine g_get C 0 iX2_weighFavourite_X2 rfl rfl 3 (by decide) f29 rfl dX2_weighFavourite_66 ?_
        refine g_iload_n C dX2_weighFavourite_69 rfl ?_
        refine g_iald C 2 0 rfl rfl kw rfl hw (by decide) (hd kw) rfl dX2_weighFavourite_70 ?_
        refine g_iconst C 1 dX2_weighFavourite_71 (by decide +kernel) ?_
        refine g_iadd C ((hd kw) + 1) dX2_weighFavourite_72 rfl ?_
        refine g_goto C 77 dX2_weighFavourite_73 (by decide) ?_
        refine g_iast C 2 0 rfl rfl kw rfl hw (by decide) ((wCo cI a b d mg pt bd tk ho ri lo fv (upd hd kw ((hd kw) + 1)) lf la ++ wSo cI cW a b r2 hp rl cn be bw wo) ++ wL cI cZ cG a r nc nw cx cy ch rm on wx wy dm sv mu qq) rfl dX2_weighFavourite_77 ?_
        refine g_aload_n C dX2_weighFavourite_78 rfl ?_
        refine g_get C 0 iX2_weighFavourite_X2 rfl rfl 2 (by decide) f25 rfl dX2_weighFavourite_79 ?_
        refine g_iload_n C dX2_weighFavourite_82 rfl ?_
        refine g_iload_n C dX2_weighFavourite_83 rfl ?_
        refine g_iast C 1 0 rfl rfl kw rfl hw (by decide) ((wCo cI a b d mg pt bd tk ho ri lo (upd fv kw (nI bb)) (upd hd kw ((hd kw) + 1)) lf la ++ wSo cI cW a b r2 hp rl cn be bw wo) ++ wL cI cZ cG a r nc nw cx cy ch rm on wx wy dm sv mu qq) rfl dX2_weighFavourite_84 ?_
        refine g_aload_n C dX2_weighFavourite_85 rfl ?_
        refine g_get C 0 iX2_weighFavourite_X2 rfl rfl 3 (by decide) f29 rfl dX2_weighFavourite_86 ?_
        refine g_iload_n C dX2_weighFavourite_89 rfl ?_
        refine g_iald C 2 0 rfl rfl kw rfl hw (by decide) ((hd kw) + 1) upd_at dX2_weighFavourite_90 ?_
        refine g_aload_n C dX2_weighFavourite_91 rfl ?_
        refine g_get C 0 iX2_weighFavourite_X2 rfl rfl 7 (by decide) f42 rfl dX2_weighFavourite_92 ?_
        refine g_icmp_lt C 105 dX2_weighFavourite_95 (by decide) (fun c_95 => ?_) (fun c_95 => ?_)
        · skip
          exact g_vret C hret dX2_weighFavourite_105 (Nat.le_of_ble_eq_true rfl) (Nat.le_of_ble_eq_true rfl) ⟨(by rw [show fts on dm rm nc nw qq mg pt bd tk kw (sv, fv, hd, lf, la, ho, ri, lo) = (sv, upd fv kw (nI bb), upd hd kw ((hd kw) + 1), lf, la, ho, ri, lo) from (by simp [fts, hs, hs8, hs9, hq, hbo, c_41, (show fhe fv hd kw bb = (hd kw) + 1 from (by simp [fhe, c_62])), c_95, upd_upd])] <;> rfl), rfl⟩
        · skip
          refine g_aload_n C dX2_weighFavourite_98 rfl ?_
          refine g_iload_n C dX2_weighFavourite_99 rfl ?_
          refine g_iload_n C dX2_weighFavourite_100 rfl ?_
          refine g_iload_n C dX2_weighFavourite_101 rfl ?_
          refine g_callVv C [] ((wCo cI a b d mg pt bd tk ho ri lo (upd fv kw (nI bb)) (upd hd kw ((hd kw) + 1)) lf la ++ wSo cI cW a b r2 hp rl cn be bw wo) ++ wL cI cZ cG a r nc nw cx cy ch rm on wx wy dm sv mu qq) [.int (nI kw), .int (sv kw), .int (nI bb)] (t_X2_handOver hw) rfl rfl (cwV 3 C.ts gX2_weighFavourite_X2_handOver rfl rfl rfl (by decide +kernel) ⟨Nat.le_of_ble_eq_true rfl, Nat.le_of_ble_eq_true rfl⟩) rfl rfl rfl (Nat.le_of_ble_eq_true rfl) dX2_weighFavourite_102 ⟨Nat.le_of_ble_eq_true rfl, Nat.le_of_ble_eq_true rfl⟩ (fun wv4 tv4 hp4 => ?_)
          obtain ⟨rfl, rfl⟩ := hp4
          exact g_vret C hret dX2_weighFavourite_105 (Nat.le_of_ble_eq_true rfl) (Nat.le_of_ble_eq_true rfl) ⟨(by rw [show fts on dm rm nc nw qq mg pt bd tk kw (sv, fv, hd, lf, la, ho, ri, lo) = (upd sv kw (nI bb), upd (upd fv kw (nI bb)) kw (-1), upd (upd hd kw ((hd kw) + 1)) kw 0, upd lf kw (sv kw), upd la kw tk, ho + 1, frg lf la kw (nI bb) tk ri, lo) from (by simp [fts, hs, hs8, hs9, hq, hbo, c_41, (show fhe fv hd kw bb = (hd kw) + 1 from (by simp [fhe, c_62])), c_95, upd_upd])] <;> rfl), rfl⟩
    · skip
      refine g_aload_n C dX2_weighFavourite_44 rfl ?_
      refine g_iload_n C dX2_weighFavourite_45 rfl ?_
      refine g_callVv C [] ((wCo cI a b d mg pt bd tk ho ri lo fv hd lf la ++ wSo cI cW a b r2 hp rl cn be bw wo) ++ wL cI cZ cG a r nc nw cx cy ch rm on wx wy dm sv mu qq) [.int (nI kw)] (t_X2_dropFavourite hw) rfl rfl (cwV 1 C.ts gX2_weighFavourite_X2_dropFavourite rfl rfl rfl (by decide +kernel) ⟨Nat.le_of_ble_eq_true rfl, Nat.le_of_ble_eq_true rfl⟩) rfl rfl rfl (Nat.le_of_ble_eq_true rfl) dX2_weighFavourite_46 ⟨Nat.le_of_ble_eq_true rfl, Nat.le_of_ble_eq_true rfl⟩ (fun wv5 tv5 hp5 => ?_)
      obtain ⟨rfl, rfl⟩ := hp5
      exact g_vret C hret dX2_weighFavourite_49 (Nat.le_of_ble_eq_true rfl) (Nat.le_of_ble_eq_true rfl) ⟨(by rw [show fts on dm rm nc nw qq mg pt bd tk kw (sv, fv, hd, lf, la, ho, ri, lo) = (sv, upd fv kw (-1), upd hd kw 0, lf, la, ho, ri, lo) from (by first | (simp [fts, hs, hs8, hs9, hq, hbo]; done) | (simp [fts, hs, hs8, hs9, hq, hbo, c_41]; done))] <;> rfl), rfl⟩
theorem iX2_passTick_X0 : ∀ w ∈ u_ws RX0 TX0 13, w ∈ wsX2_passTick := by decide +kernel
theorem iX2_passTick_X2 : ∀ w ∈ u_ws RX2 TX2 13, w ∈ wsX2_passTick := by decide +kernel
set_option maxHeartbeats 1000000 in
set_option maxRecDepth 100000 in
/-- one tick -/
theorem t_X2_passTick {l : Launch} {D : va_G} {cI cZ cJ cG cW : ClassId} {a b d : Nat → Nat} {mg pt bd tk ho ri lo : Int32} {fv hd lf la : Nat → Int32} {r2 : Nat → Nat} {hp rl cn be : Nat → Int32} {bw : Int32} {wo : Nat → Nat → Int32} {r : Nat → Nat} {nc nw : Nat} {cx cy ch rm on wx wy dm sv mu : Nat → Int32} {qq : Nat → Nat → Int32}  (h5 : nc ≤ 5) (h6 : nw ≤ 6) (hr : ∀ c, c < nc → ¬ rm c ≤ 0) (hg : ∀ c w, c < nc → w < nw → ¬ dsq (cx c) (cy c) (wx w) (wy w) = 0) (hq : ∀ c w, c < nc → w < nw → ¬ 10 + fdi ch on (fil nc (fus rm sv dm nw) mu) (sgw cx cy wx wy w) c nc = 0) (hsv : ∀ j, j < nw → SV nc (sv j)) : CtV l yX2_passTick wsX2_passTick 4 109 0 0 D (T5 cI cZ cJ cG cW) [.ref (d 0)] ((wCo cI a b d mg pt bd tk ho ri lo fv hd lf la ++ wSo cI cW a b r2 hp rl cn be bw wo) ++ wL cI cZ cG a r nc nw cx cy ch rm on wx wy dm sv mu qq) (fun wv tv => wv = ((wCo cI a b d mg pt bd (tk + 1) ((ftw on dm rm nc nw (fil2 nw nc (fun w c => fqu cx cy ch on wx wy (fil nc (fus rm sv dm nw) mu) nc w c) qq) mg pt bd (tk + 1) (sv, fv, hd, lf, la, ho, ri, lo) nw).2.2.2.2.2.1) ((ftw on dm rm nc nw (fil2 nw nc (fun w c => fqu cx cy ch on wx wy (fil nc (fus rm sv dm nw) mu) nc w c) qq) mg pt bd (tk + 1) (sv, fv, hd, lf, la, ho, ri, lo) nw).2.2.2.2.2.2.1) ((ftw on dm rm nc nw (fil2 nw nc (fun w c => fqu cx cy ch on wx wy (fil nc (fus rm sv dm nw) mu) nc w c) qq) mg pt bd (tk + 1) (sv, fv, hd, lf, la, ho, ri, lo) nw).2.2.2.2.2.2.2) ((ftw on dm rm nc nw (fil2 nw nc (fun w c => fqu cx cy ch on wx wy (fil nc (fus rm sv dm nw) mu) nc w c) qq) mg pt bd (tk + 1) (sv, fv, hd, lf, la, ho, ri, lo) nw).2.1) ((ftw on dm rm nc nw (fil2 nw nc (fun w c => fqu cx cy ch on wx wy (fil nc (fus rm sv dm nw) mu) nc w c) qq) mg pt bd (tk + 1) (sv, fv, hd, lf, la, ho, ri, lo) nw).2.2.1) ((ftw on dm rm nc nw (fil2 nw nc (fun w c => fqu cx cy ch on wx wy (fil nc (fus rm sv dm nw) mu) nc w c) qq) mg pt bd (tk + 1) (sv, fv, hd, lf, la, ho, ri, lo) nw).2.2.2.1) ((ftw on dm rm nc nw (fil2 nw nc (fun w c => fqu cx cy ch on wx wy (fil nc (fus rm sv dm nw) mu) nc w c) qq) mg pt bd (tk + 1) (sv, fv, hd, lf, la, ho, ri, lo) nw).2.2.2.2.1) ++ wSo cI cW a b r2 hp rl cn be bw wo) ++ wL cI cZ cG a r nc nw cx cy ch rm on wx wy dm ((ftw on dm rm nc nw (fil2 nw nc (fun w c => fqu cx cy ch on wx wy (fil nc (fus rm sv dm nw) mu) nc w c) qq) mg pt bd (tk + 1) (sv, fv, hd, lf, la, ho, ri, lo) nw).1) (fil nc (fus rm sv dm nw) mu) (fil2 nw nc (fun w c => fqu cx cy ch on wx wy (fil nc (fus rm sv dm nw) mu) nc w c) qq)) ∧ tv = (T5 cI cZ cJ cG cW)) := by
  refine ctV_of (cc := cX2_passTick) (maxL := 3) RX2 2 [some (.ref (d 0)), none, none] (by decide +kernel) rfl rfl (Nat.le_of_ble_eq_true rfl) rfl (fun p_ e_ s_ m_ as_ bl_ me_ co_ C hret hini => ?_)
  have f10 := C.ts (.fieldLink RX2 10 "CellPlanner" "land" "LCellPlanner$Land;") (by decide +kernel)
  have f45 := C.ts (.fieldLink RX2 45 "CellPlanner" "bound" "I") (by decide +kernel)
  have f80 := C.ts (.fieldLink RX2 80 "CellPlanner$Land" "walkers" "I") (by decide +kernel)
  have f107 := C.ts (.fieldLink RX2 107 "CellPlanner" "ticks" "I") (by decide +kernel)
  have f117 := C.ts (.fieldLink RX2 117 "CellPlanner$Land" "quality" "[[I") (by decide +kernel)
  have f128 := C.ts (.fieldLink RX2 128 "CellPlanner$Land" "server" "[I") (by decide +kernel)
  refine g_aload_n C dX2_passTick_0 rfl ?_
  refine g_dup C dX2_passTick_1 rfl ?_
  refine g_get C 0 iX2_passTick_X2 rfl rfl 9 (by decide) f107 rfl dX2_passTick_2 ?_
  refine g_iconst C 1 dX2_passTick_5 (by decide +kernel) ?_
  refine g_iadd C (tk + 1) dX2_passTick_6 rfl ?_
  refine g_put C 0 iX2_passTick_X2 rfl rfl 9 (by decide) f107 rfl tyX2 tyX2_ok nmX2 (ty := .int) (by decide +kernel) rfl rfl (Nat.le_of_ble_eq_true rfl) ((wCo cI a b d mg pt bd (tk + 1) ho ri lo fv hd lf la ++ wSo cI cW a b r2 hp rl cn be bw wo) ++ wL cI cZ cG a r nc nw cx cy ch rm on wx wy dm sv mu qq) rfl dX2_passTick_7 ?_
  refine g_aload_n C dX2_passTick_10 rfl ?_
  refine g_get C 0 iX2_passTick_X2 rfl rfl 0 (by decide) f10 rfl dX2_passTick_11 ?_
  refine g_callVv C (wCo cI a b d mg pt bd (tk + 1) ho ri lo fv hd lf la ++ wSo cI cW a b r2 hp rl cn be bw wo) (wL cI cZ cG a r nc nw cx cy ch rm on wx wy dm sv mu qq) [] (t_X0_measure h5 h6 hr hg hq) rfl rfl (cwV 0 C.ts gX2_passTick_X0_measure rfl rfl rfl (by decide +kernel) ⟨Nat.le_of_ble_eq_true rfl, Nat.le_of_ble_eq_true rfl⟩) rfl rfl rfl (Nat.le_of_ble_eq_true rfl) dX2_passTick_14 ⟨Nat.le_of_ble_eq_true rfl, Nat.le_of_ble_eq_true rfl⟩ (fun wv1 tv1 hp1 => ?_)
  obtain ⟨rfl, rfl⟩ := hp1
  refine g_iconst C 0 dX2_passTick_17 (by decide +kernel) ?_
  refine g_istore_n C [some (.ref (d 0)), some (.int 0), none] dX2_passTick_18 (by decide) rfl rfl ?_
  refine g_loop2 0 ((sv, fv, hd, lf, la, ho, ri, lo)) (fun (i : Nat) (z : TS) => i ≤ nw ∧ z = ftw on dm rm nc nw (fil2 nw nc (fun w c => fqu cx cy ch on wx wy (fil nc (fus rm sv dm nw) mu) nc w c) qq) mg pt bd (tk + 1) (sv, fv, hd, lf, la, ho, ri, lo) i ∧ ∀ j, j < nw → SV nc (z.1 j)) (fun (i : Nat) (z : TS) => ((wCo cI a b d mg pt bd (tk + 1) z.2.2.2.2.2.1 z.2.2.2.2.2.2.1 z.2.2.2.2.2.2.2 z.2.1 z.2.2.1 z.2.2.2.1 z.2.2.2.2.1 ++ wSo cI cW a b r2 hp rl cn be bw wo) ++ wL cI cZ cG a r nc nw cx cy ch rm on wx wy dm z.1 (fil nc (fus rm sv dm nw) mu) (fil2 nw nc (fun w c => fqu cx cy ch on wx wy (fil nc (fus rm sv dm nw) mu) nc w c) qq))) (fun (i : Nat) (z : TS) => [some (.ref (d 0)), some (.int (nI i)), none]) (fun (i : Nat) (z : TS) => nw - i) ⟨Nat.zero_le _, rfl, hsv⟩ rfl rfl (fun i z hI ih => ?_)
  obtain ⟨h1, h2, h3⟩ := hI
  refine g_iload_n C dX2_passTick_19 rfl ?_
  refine g_aload_n C dX2_passTick_20 rfl ?_
  refine g_get C 0 iX2_passTick_X2 rfl rfl 0 (by decide) f10 rfl dX2_passTick_21 ?_
  refine g_get C 17 iX2_passTick_X0 rfl rfl 10 (by decide) f80 rfl dX2_passTick_24 ?_
  refine g_icmp_ge C 91 dX2_passTick_27 (by decide) (fun c_27 => ?_) (fun c_27 => ?_)
  · skip
    have c_27 : nw ≤ i := (nI_leI (by omega) (by omega)).mp c_27
    exact g_vret C hret dX2_passTick_91 (Nat.le_of_ble_eq_true rfl) (Nat.le_of_ble_eq_true rfl) ⟨(by rw [← show z = ftw on dm rm nc nw (fil2 nw nc (fun w c => fqu cx cy ch on wx wy (fil nc (fus rm sv dm nw) mu) nc w c) qq) mg pt bd (tk + 1) (sv, fv, hd, lf, la, ho, ri, lo) nw from (by rw [h2, show i = nw by omega])] <;> rfl), rfl⟩
  · skip
    have c_27 : ¬ (nw ≤ i) := fun h9 => c_27 ((nI_leI (by omega) (by omega)).mpr h9)
    refine g_aload_n C dX2_passTick_30 rfl ?_
    refine g_get C 0 iX2_passTick_X2 rfl rfl 0 (by decide) f10 rfl dX2_passTick_31 ?_
    refine g_get C 17 iX2_passTick_X0 rfl rfl 9 (by decide) f128 rfl dX2_passTick_34 ?_
    refine g_iload_n C dX2_passTick_37 rfl ?_
    refine g_iald C 26 0 rfl rfl i rfl (by omega) (by decide) (z.1 i) rfl dX2_passTick_38 ?_
    refine g_istore_n C [some (.ref (d 0)), some (.int (nI i)), some (.int (z.1 i))] dX2_passTick_39 (by decide) rfl rfl ?_
    refine g_iload_n C dX2_passTick_40 rfl ?_
    refine g_iconst C (-1) dX2_passTick_41 (by decide +kernel) ?_
    refine g_icmp_ne C 53 dX2_passTick_42 (by decide) (fun c_42 => ?_) (fun c_42 => ?_)
    · skip
      obtain ⟨ks, hk5, hks⟩ : ∃ k, k < nc ∧ z.1 i = nI k := (h3 i (by omega)).resolve_left c_42
      refine g_aload_n C dX2_passTick_53 rfl ?_
      refine g_get C 0 iX2_passTick_X2 rfl rfl 0 (by decide) f10 rfl dX2_passTick_54 ?_
      refine g_get C 17 iX2_passTick_X0 rfl rfl 12 (by decide) f117 rfl dX2_passTick_57 ?_
      refine g_iload_n C dX2_passTick_60 rfl ?_
      refine g_aald C 28 3 rfl rfl i rfl (by omega) (by decide) (r i) (if_pos (by omega)) dX2_passTick_61 ?_
      refine g_iload_n C dX2_passTick_62 rfl ?_
      refine g_iald C (29 + i) 0 (wC_row (by omega)) rfl ks hks (by omega) (by decide) ((fil2 nw nc (fun w c => fqu cx cy ch on wx wy (fil nc (fus rm sv dm nw) mu) nc w c) qq) i ks) rfl dX2_passTick_63 ?_
      refine g_aload_n C dX2_passTick_64 rfl ?_
      refine g_get C 0 iX2_passTick_X2 rfl rfl 8 (by decide) f45 rfl dX2_passTick_65 ?_
      refine g_icmp_ge C 79 dX2_passTick_68 (by decide) (fun c_68 => ?_) (fun c_68 => ?_)
      · skip
        refine g_aload_n C dX2_passTick_79 rfl ?_
        refine g_iload_n C dX2_passTick_80 rfl ?_
        refine g_iload_n C dX2_passTick_81 rfl ?_
        refine g_callVv C [] ((wCo cI a b d mg pt bd (tk + 1) z.2.2.2.2.2.1 z.2.2.2.2.2.2.1 z.2.2.2.2.2.2.2 z.2.1 z.2.2.1 z.2.2.2.1 z.2.2.2.2.1 ++ wSo cI cW a b r2 hp rl cn be bw wo) ++ wL cI cZ cG a r nc nw cx cy ch rm on wx wy dm z.1 (fil nc (fus rm sv dm nw) mu) (fil2 nw nc (fun w c => fqu cx cy ch on wx wy (fil nc (fus rm sv dm nw) mu) nc w c) qq)) [.int (nI i), .int (z.1 i)] (t_X2_weighFavourite h5 h6 (by omega) (show ks < 5 by omega) hks (by rw [hks, nI_clamp (by omega)]; exact c_68)) rfl rfl (cwV 2 C.ts gX2_passTick_X2_weighFavourite rfl rfl rfl (by decide +kernel) ⟨Nat.le_of_ble_eq_true rfl, Nat.le_of_ble_eq_true rfl⟩) rfl rfl rfl (Nat.le_of_ble_eq_true rfl) dX2_passTick_82 ⟨Nat.le_of_ble_eq_true rfl, Nat.le_of_ble_eq_true rfl⟩ (fun wv2 tv2 hp2 => ?_)
        obtain ⟨rfl, rfl⟩ := hp2
        refine g_iinc C (nI (i + 1)) [some (.ref (d 0)), some (.int (nI (i + 1))), some (.int (z.1 i))] dX2_passTick_85 rfl (nI_1 i) (by decide) rfl rfl ?_
        refine g_goto C 19 dX2_passTick_88 (by decide) ?_
        refine g_mask [true, true, false] rfl ?_
        exact ih (i + 1) (fts on dm rm nc nw (fil2 nw nc (fun w c => fqu cx cy ch on wx wy (fil nc (fus rm sv dm nw) mu) nc w c) qq) mg pt bd (tk + 1) i z) ⟨by omega, by rw [ftw, ← h2], fts_sv h3⟩ (by omega)
      · skip
        refine g_aload_n C dX2_passTick_71 rfl ?_
        refine g_iload_n C dX2_passTick_72 rfl ?_
        refine g_callVv C [] ((wCo cI a b d mg pt bd (tk + 1) z.2.2.2.2.2.1 z.2.2.2.2.2.2.1 z.2.2.2.2.2.2.2 z.2.1 z.2.2.1 z.2.2.2.1 z.2.2.2.2.1 ++ wSo cI cW a b r2 hp rl cn be bw wo) ++ wL cI cZ cG a r nc nw cx cy ch rm on wx wy dm z.1 (fil nc (fus rm sv dm nw) mu) (fil2 nw nc (fun w c => fqu cx cy ch on wx wy (fil nc (fus rm sv dm nw) mu) nc w c) qq)) [.int (nI i)] (t_X2_loseCell (by omega) c_42 (by rw [hks, nI_clamp (by omega)]; exact c_68)) rfl rfl (cwV 1 C.ts gX2_passTick_X2_loseCell rfl rfl rfl (by decide +kernel) ⟨Nat.le_of_ble_eq_true rfl, Nat.le_of_ble_eq_true rfl⟩) rfl rfl rfl (Nat.le_of_ble_eq_true rfl) dX2_passTick_73 ⟨Nat.le_of_ble_eq_true rfl, Nat.le_of_ble_eq_true rfl⟩ (fun wv3 tv3 hp3 => ?_)
        obtain ⟨rfl, rfl⟩ := hp3
        refine g_goto C 85 dX2_passTick_76 (by decide) ?_
        refine g_iinc C (nI (i + 1)) [some (.ref (d 0)), some (.int (nI (i + 1))), some (.int (z.1 i))] dX2_passTick_85 rfl (nI_1 i) (by decide) rfl rfl ?_
        refine g_goto C 19 dX2_passTick_88 (by decide) ?_
        refine g_mask [true, true, false] rfl ?_
        exact ih (i + 1) (fts on dm rm nc nw (fil2 nw nc (fun w c => fqu cx cy ch on wx wy (fil nc (fus rm sv dm nw) mu) nc w c) qq) mg pt bd (tk + 1) i z) ⟨by omega, by rw [ftw, ← h2], fts_sv h3⟩ (by omega)
    · skip
      refine g_aload_n C dX2_passTick_45 rfl ?_
      refine g_iload_n C dX2_passTick_46 rfl ?_
      refine g_callVv C [] ((wCo cI a b d mg pt bd (tk + 1) z.2.2.2.2.2.1 z.2.2.2.2.2.2.1 z.2.2.2.2.2.2.2 z.2.1 z.2.2.1 z.2.2.2.1 z.2.2.2.2.1 ++ wSo cI cW a b r2 hp rl cn be bw wo) ++ wL cI cZ cG a r nc nw cx cy ch rm on wx wy dm z.1 (fil nc (fus rm sv dm nw) mu) (fil2 nw nc (fun w c => fqu cx cy ch on wx wy (fil nc (fus rm sv dm nw) mu) nc w c) qq)) [.int (nI i)] (t_X2_seekCell h5 h6 (by omega) c_42) rfl rfl (cwV 1 C.ts gX2_passTick_X2_seekCell rfl rfl rfl (by decide +kernel) ⟨Nat.le_of_ble_eq_true rfl, Nat.le_of_ble_eq_true rfl⟩) rfl rfl rfl (Nat.le_of_ble_eq_true rfl) dX2_passTick_47 ⟨Nat.le_of_ble_eq_true rfl, Nat.le_of_ble_eq_true rfl⟩ (fun wv4 tv4 hp4 => ?_)
      obtain ⟨rfl, rfl⟩ := hp4
      refine g_goto C 85 dX2_passTick_50 (by decide) ?_
      refine g_iinc C (nI (i + 1)) [some (.ref (d 0)), some (.int (nI (i + 1))), some (.int (z.1 i))] dX2_passTick_85 rfl (nI_1 i) (by decide) rfl rfl ?_
      refine g_goto C 19 dX2_passTick_88 (by decide) ?_
      refine g_mask [true, true, false] rfl ?_
      exact ih (i + 1) (fts on dm rm nc nw (fil2 nw nc (fun w c => fqu cx cy ch on wx wy (fil nc (fus rm sv dm nw) mu) nc w c) qq) mg pt bd (tk + 1) i z) ⟨by omega, by rw [ftw, ← h2], fts_sv h3⟩ (by omega)
theorem iX2_mostServed_X2 : ∀ w ∈ u_ws RX2 TX2 13, w ∈ wsX2_mostServed := by decide +kernel
set_option maxHeartbeats 1000000 in
set_option maxRecDepth 100000 in
theorem t_X2_mostServed {l : Launch} {D : va_G} {cI cZ cJ cG cW : ClassId} {a b d : Nat → Nat} {mg pt bd tk ho ri lo : Int32} {fv hd lf la : Nat → Int32} {r2 : Nat → Nat} {hp rl cn be : Nat → Int32} {bw : Int32} {wo : Nat → Nat → Int32} {r : Nat → Nat} {nc nw : Nat} {cx cy ch rm on wx wy dm sv mu : Nat → Int32} {qq : Nat → Nat → Int32}  (h5 : nc ≤ 5) (h6 : nw ≤ 6) (hr : ∀ c, c < nc → ¬ rm c ≤ 0) (hg : ∀ c w, c < nc → w < nw → ¬ dsq (cx c) (cy c) (wx w) (wy w) = 0) (hq : ∀ c w, c < nc → w < nw → ¬ 10 + fdi ch on (fil nc (fus rm sv dm nw) mu) (sgw cx cy wx wy w) c nc = 0) : CtI l yX2_mostServed wsX2_mostServed 12 531 0 0 D (T5 cI cZ cJ cG cW) [.ref (d 0)] ((wCo cI a b d mg pt bd tk ho ri lo fv hd lf la ++ wSo cI cW a b r2 hp rl cn be bw wo) ++ wL cI cZ cG a r nc nw cx cy ch rm on wx wy dm sv mu qq) (fun rv wv => ∃ (z : S4) (P : Nat → Int32) (Y : Nat → Nat → Int32), rv = z.2.2.2 ∧ wv = ((wCo cI a b d mg pt bd tk ho ri lo fv hd lf la ++ wSo cI cW a b r2 P z.1 z.2.1 z.2.2.1 z.2.2.2 Y) ++ wL cI cZ cG a r nc nw cx cy ch rm on wx wy dm sv (fil nc (fus rm sv dm nw) mu) (fil2 nw nc (fun w c => fqu cx cy ch on wx wy (fil nc (fus rm sv dm nw) mu) nc w c) qq)) ∧ GW nc nw rm on dm (fil2 nw nc (fun w c => fqu cx cy ch on wx wy (fil nc (fus rm sv dm nw) mu) nc w c) qq) bd 1 0 0 rl cn be P Y z) := by
  refine ctI_of (cc := cX2_mostServed) (maxL := 1) RX2 0 [some (.ref (d 0))] (by decide +kernel) rfl rfl (Nat.le_of_ble_eq_true rfl) rfl (fun p_ e_ s_ m_ as_ bl_ me_ co_ C hret => ?_)
  have f21 := C.ts (.fieldLink RX2 21 "CellPlanner" "search" "LCellPlanner$Search;") (by decide +kernel)
  have f45 := C.ts (.fieldLink RX2 45 "CellPlanner" "bound" "I") (by decide +kernel)
  refine g_aload_n C dX2_mostServed_0 rfl ?_
  refine g_get C 0 iX2_mostServed_X2 rfl rfl 1 (by decide) f21 rfl dX2_mostServed_1 ?_
  refine g_aload_n C dX2_mostServed_4 rfl ?_
  refine g_get C 0 iX2_mostServed_X2 rfl rfl 8 (by decide) f45 rfl dX2_mostServed_5 ?_
  refine g_iconst C 1 dX2_mostServed_8 (by decide +kernel) ?_
  refine g_iconst C 0 dX2_mostServed_9 (by decide +kernel) ?_
  refine g_iconst C 0 dX2_mostServed_10 (by decide +kernel) ?_
  refine g_callVi C (wCo cI a b d mg pt bd tk ho ri lo fv hd lf la) (wSo cI cW a b r2 hp rl cn be bw wo ++ (wL cI cZ cG a r nc nw cx cy ch rm on wx wy dm sv mu qq)) [.int bd, .int 1, .int 0, .int 0] (t_X1_greatestWorth h5 h6 hr hg hq) rfl rfl (cwV 4 C.ts gX2_mostServed_X1_greatestWorth rfl rfl rfl (by decide +kernel) ⟨Nat.le_of_ble_eq_true rfl, Nat.le_of_ble_eq_true rfl⟩) rfl (List.append_assoc _ _ _) rfl (Nat.le_of_ble_eq_true rfl) dX2_mostServed_11 ⟨Nat.le_of_ble_eq_true rfl, Nat.le_of_ble_eq_true rfl⟩ (fun rv1 wv1 hp1 => ?_)
  obtain ⟨z, P, Y, rfl, rfl, hz⟩ := hp1
  refine g_w (ws' := ((wCo cI a b d mg pt bd tk ho ri lo fv hd lf la ++ wSo cI cW a b r2 P z.1 z.2.1 z.2.2.1 z.2.2.2 Y) ++ wL cI cZ cG a r nc nw cx cy ch rm on wx wy dm sv (fil nc (fus rm sv dm nw) mu) (fil2 nw nc (fun w c => fqu cx cy ch on wx wy (fil nc (fus rm sv dm nw) mu) nc w c) qq))) (List.append_assoc _ _ _).symm ?_
  exact g_iret C hret dX2_mostServed_14 (Nat.le_of_ble_eq_true rfl) (Nat.le_of_ble_eq_true rfl) ⟨z, P, Y, rfl, rfl, hz⟩
theorem iX2_mostDemand_X2 : ∀ w ∈ u_ws RX2 TX2 13, w ∈ wsX2_mostDemand := by decide +kernel
set_option maxHeartbeats 1000000 in
set_option maxRecDepth 100000 in
theorem t_X2_mostDemand {l : Launch} {D : va_G} {cI cZ cJ cG cW : ClassId} {a b d : Nat → Nat} {mg pt bd tk ho ri lo : Int32} {fv hd lf la : Nat → Int32} {r2 : Nat → Nat} {hp rl cn be : Nat → Int32} {bw : Int32} {wo : Nat → Nat → Int32} {r : Nat → Nat} {nc nw : Nat} {cx cy ch rm on wx wy dm sv mu : Nat → Int32} {qq : Nat → Nat → Int32}  (h5 : nc ≤ 5) (h6 : nw ≤ 6) (hr : ∀ c, c < nc → ¬ rm c ≤ 0) (hg : ∀ c w, c < nc → w < nw → ¬ dsq (cx c) (cy c) (wx w) (wy w) = 0) (hq : ∀ c w, c < nc → w < nw → ¬ 10 + fdi ch on (fil nc (fus rm sv dm nw) mu) (sgw cx cy wx wy w) c nc = 0) : CtI l yX2_mostDemand wsX2_mostDemand 12 531 0 0 D (T5 cI cZ cJ cG cW) [.ref (d 0)] ((wCo cI a b d mg pt bd tk ho ri lo fv hd lf la ++ wSo cI cW a b r2 hp rl cn be bw wo) ++ wL cI cZ cG a r nc nw cx cy ch rm on wx wy dm sv mu qq) (fun rv wv => ∃ (z : S4) (P : Nat → Int32) (Y : Nat → Nat → Int32), rv = z.2.2.2 ∧ wv = ((wCo cI a b d mg pt bd tk ho ri lo fv hd lf la ++ wSo cI cW a b r2 P z.1 z.2.1 z.2.2.1 z.2.2.2 Y) ++ wL cI cZ cG a r nc nw cx cy ch rm on wx wy dm sv (fil nc (fus rm sv dm nw) mu) (fil2 nw nc (fun w c => fqu cx cy ch on wx wy (fil nc (fus rm sv dm nw) mu) nc w c) qq)) ∧ GW nc nw rm on dm (fil2 nw nc (fun w c => fqu cx cy ch on wx wy (fil nc (fus rm sv dm nw) mu) nc w c) qq) bd 0 1 0 rl cn be P Y z) := by
  refine ctI_of (cc := cX2_mostDemand) (maxL := 1) RX2 0 [some (.ref (d 0))] (by decide +kernel) rfl rfl (Nat.le_of_ble_eq_true rfl) rfl (fun p_ e_ s_ m_ as_ bl_ me_ co_ C hret => ?_)
  have f21 := C.ts (.fieldLink RX2 21 "CellPlanner" "search" "LCellPlanner$Search;") (by decide +kernel)
  have f45 := C.ts (.fieldLink RX2 45 "CellPlanner" "bound" "I") (by decide +kernel)
  refine g_aload_n C dX2_mostDemand_0 rfl ?_
  refine g_get C 0 iX2_mostDemand_X2 rfl rfl 1 (by decide) f21 rfl dX2_mostDemand_1 ?_
  refine g_aload_n C dX2_mostDemand_4 rfl ?_
  refine g_get C 0 iX2_mostDemand_X2 rfl rfl 8 (by decide) f45 rfl dX2_mostDemand_5 ?_
  refine g_iconst C 0 dX2_mostDemand_8 (by decide +kernel) ?_
  refine g_iconst C 1 dX2_mostDemand_9 (by decide +kernel) ?_
  refine g_iconst C 0 dX2_mostDemand_10 (by decide +kernel) ?_
  refine g_callVi C (wCo cI a b d mg pt bd tk ho ri lo fv hd lf la) (wSo cI cW a b r2 hp rl cn be bw wo ++ (wL cI cZ cG a r nc nw cx cy ch rm on wx wy dm sv mu qq)) [.int bd, .int 0, .int 1, .int 0] (t_X1_greatestWorth h5 h6 hr hg hq) rfl rfl (cwV 4 C.ts gX2_mostDemand_X1_greatestWorth rfl rfl rfl (by decide +kernel) ⟨Nat.le_of_ble_eq_true rfl, Nat.le_of_ble_eq_true rfl⟩) rfl (List.append_assoc _ _ _) rfl (Nat.le_of_ble_eq_true rfl) dX2_mostDemand_11 ⟨Nat.le_of_ble_eq_true rfl, Nat.le_of_ble_eq_true rfl⟩ (fun rv1 wv1 hp1 => ?_)
  obtain ⟨z, P, Y, rfl, rfl, hz⟩ := hp1
  refine g_w (ws' := ((wCo cI a b d mg pt bd tk ho ri lo fv hd lf la ++ wSo cI cW a b r2 P z.1 z.2.1 z.2.2.1 z.2.2.2 Y) ++ wL cI cZ cG a r nc nw cx cy ch rm on wx wy dm sv (fil nc (fus rm sv dm nw) mu) (fil2 nw nc (fun w c => fqu cx cy ch on wx wy (fil nc (fus rm sv dm nw) mu) nc w c) qq))) (List.append_assoc _ _ _).symm ?_
  exact g_iret C hret dX2_mostDemand_14 (Nat.le_of_ble_eq_true rfl) (Nat.le_of_ble_eq_true rfl) ⟨z, P, Y, rfl, rfl, hz⟩
