/-! Search -/
theorem iX1_keep_X0 : ∀ w ∈ u_ws RX0 TX0 13, w ∈ wsX1_keep := by decide +kernel
theorem iX1_keep_X1 : ∀ w ∈ u_ws RX1 TX1 7, w ∈ wsX1_keep := by decide +kernel
set_option maxHeartbeats 1000000 in
set_option maxRecDepth 100000 in
/-- the assignment is kept -/
theorem t_X1_keep {l : Launch} {D : va_G} {cI cZ cJ cG cW : ClassId} {a b r2 : Nat → Nat} {hp rl cn be : Nat → Int32} {bw : Int32} {wo : Nat → Nat → Int32} {r : Nat → Nat} {nc nw : Nat} {cx cy ch rm on wx wy dm sv mu : Nat → Int32} {qq : Nat → Nat → Int32} {p0 : Int32} (h6 : nw ≤ 6) : CtV l yX1_keep wsX1_keep 1 80 0 0 D (T5 cI cZ cJ cG cW) [.ref (b 0), .int p0] (wSo cI cW a b r2 hp rl cn be bw wo ++ (wL cI cZ cG a r nc nw cx cy ch rm on wx wy dm sv mu qq)) (fun wv tv => wv = (wSo cI cW a b r2 hp rl cn (va_cpy cn be 0 0 nw) p0 wo ++ (wL cI cZ cG a r nc nw cx cy ch rm on wx wy dm sv mu qq)) ∧ tv = (T5 cI cZ cJ cG cW)) := by
  refine ctV_of (cc := cX1_keep) (maxL := 2) RX1 0 [some (.ref (b 0)), some (.int p0)] (by decide +kernel) rfl rfl (Nat.le_of_ble_eq_true rfl) rfl (fun p_ e_ s_ m_ as_ bl_ me_ co_ C hret hini => ?_)
  have f23 := C.ts (.fieldLink RX1 23 "CellPlanner$Search" "chosen" "[I") (by decide +kernel)
  have f26 := C.ts (.fieldLink RX1 26 "CellPlanner$Search" "best" "[I") (by decide +kernel)
  have f29 := C.ts (.fieldLink RX1 29 "CellPlanner$Search" "land" "LCellPlanner$Land;") (by decide +kernel)
  have f38 := C.ts (.fieldLink RX1 38 "CellPlanner$Land" "walkers" "I") (by decide +kernel)
  have f61 := C.ts (.fieldLink RX1 61 "CellPlanner$Search" "bestWorth" "I") (by decide +kernel)
  refine g_aload_n C dX1_keep_0 rfl ?_
  refine g_iload_n C dX1_keep_1 rfl ?_
  refine g_put C 0 iX1_keep_X1 rfl rfl 6 (by decide) f61 rfl tyX1 tyX1_ok nmX1 (ty := .int) (by decide +kernel) rfl rfl (Nat.le_of_ble_eq_true rfl) (wSo cI cW a b r2 hp rl cn be p0 wo ++ (wL cI cZ cG a r nc nw cx cy ch rm on wx wy dm sv mu qq)) rfl dX1_keep_2 ?_
  refine g_aload_n C dX1_keep_5 rfl ?_
  refine g_get C 0 iX1_keep_X1 rfl rfl 4 (by decide) f23 rfl dX1_keep_6 ?_
  refine g_iconst C 0 dX1_keep_9 (by decide +kernel) ?_
  refine g_aload_n C dX1_keep_10 rfl ?_
  refine g_get C 0 iX1_keep_X1 rfl rfl 5 (by decide) f26 rfl dX1_keep_11 ?_
  refine g_iconst C 0 dX1_keep_14 (by decide +kernel) ?_
  refine g_aload_n C dX1_keep_15 rfl ?_
  refine g_get C 0 iX1_keep_X1 rfl rfl 0 (by decide) f29 rfl dX1_keep_16 ?_
  refine g_get C 12 iX1_keep_X0 rfl rfl 10 (by decide) f38 rfl dX1_keep_19 ?_
  refine g_copy C (C.ts _ (by decide +kernel)) (C.ts _ (by decide +kernel)) (C.ts _ (by decide +kernel)) (C.ts _ (by decide +kernel)) 4 5 rfl rfl rfl nw rfl (by omega) (by omega) (by omega) (Nat.le_of_ble_eq_true rfl) (Nat.le_of_ble_eq_true rfl) (wSo cI cW a b r2 hp rl cn (va_cpy cn be 0 0 nw) p0 wo ++ (wL cI cZ cG a r nc nw cx cy ch rm on wx wy dm sv mu qq)) rfl dX1_keep_22 ?_
  exact g_vret C hret dX1_keep_25 (Nat.le_of_ble_eq_true rfl) (Nat.le_of_ble_eq_true rfl) ⟨rfl, rfl⟩
theorem iX1_fillWorth_X0 : ∀ w ∈ u_ws RX0 TX0 13, w ∈ wsX1_fillWorth := by decide +kernel
theorem iX1_fillWorth_X1 : ∀ w ∈ u_ws RX1 TX1 7, w ∈ wsX1_fillWorth := by decide +kernel
set_option maxHeartbeats 1000000 in
set_option maxRecDepth 100000 in
/-- the worths of a walker with each cell -/
theorem t_X1_fillWorth {l : Launch} {D : va_G} {cI cZ cJ cG cW : ClassId} {a b r2 : Nat → Nat} {hp rl cn be : Nat → Int32} {bw : Int32} {wo : Nat → Nat → Int32} {r : Nat → Nat} {nc nw : Nat} {cx cy ch rm on wx wy dm sv mu : Nat → Int32} {qq : Nat → Nat → Int32} {kw : Nat} {p1 p2 p3 : Int32} (h5 : nc ≤ 5) (hw : kw < 6) : CtI l yX1_fillWorth wsX1_fillWorth 1 40 0 0 D (T5 cI cZ cJ cG cW) [.ref (b 0), .int (nI kw), .int p1, .int p2, .int p3] (wSo cI cW a b r2 hp rl cn be bw wo ++ (wL cI cZ cG a r nc nw cx cy ch rm on wx wy dm sv mu qq)) (fun rv wv => rv = fmx (fwv on p1 p2 p3 (qq kw)) nc ∧ wv = (wSo cI cW a b r2 hp rl cn be bw (fwr kw nc (fwv on p1 p2 p3 (qq kw)) wo) ++ (wL cI cZ cG a r nc nw cx cy ch rm on wx wy dm sv mu qq))) := by
  refine ctI_of (cc := cX1_fillWorth) (maxL := 9) RX1 4 [some (.ref (b 0)), some (.int (nI kw)), some (.int p1), some (.int p2), some (.int p3), none, none, none, none] (by decide +kernel) rfl rfl (Nat.le_of_ble_eq_true rfl) rfl (fun p_ e_ s_ m_ as_ bl_ me_ co_ C hret => ?_)
  have f11 := C.ts (.fieldLink RX1 11 "CellPlanner$Search" "worth" "[[I") (by decide +kernel)
  have f29 := C.ts (.fieldLink RX1 29 "CellPlanner$Search" "land" "LCellPlanner$Land;") (by decide +kernel)
  have f52 := C.ts (.fieldLink RX1 52 "CellPlanner$Land" "cells" "I") (by decide +kernel)
  have f68 := C.ts (.fieldLink RX1 68 "CellPlanner$Land" "quality" "[[I") (by decide +kernel)
  have f71 := C.ts (.fieldLink RX1 71 "CellPlanner$Land" "on" "[Z") (by decide +kernel)
  refine g_iconst C 0 dX1_fillWorth_0 (by decide +kernel) ?_
  refine g_istore C [some (.ref (b 0)), some (.int (nI kw)), some (.int p1), some (.int p2), some (.int p3), some (.int 0), none, none, none] dX1_fillWorth_1 (by decide) rfl rfl ?_
  refine g_iconst C 0 dX1_fillWorth_3 (by decide +kernel) ?_
  refine g_istore C [some (.ref (b 0)), some (.int (nI kw)), some (.int p1), some (.int p2), some (.int p3), some (.int 0), some (.int 0), none, none] dX1_fillWorth_4 (by decide) rfl rfl ?_
  refine g_loop3 0 0 wo (fun (i : Nat) (x : Int32) (Y : Nat → Nat → Int32) => i ≤ nc ∧ x = fmx (fwv on p1 p2 p3 (qq kw)) i ∧ ∀ j c, Y j c = if j = kw ∧ c < i then (fwv on p1 p2 p3 (qq kw)) c else wo j c) (fun (i : Nat) (x : Int32) (Y : Nat → Nat → Int32) => (wSo cI cW a b r2 hp rl cn be bw Y ++ (wL cI cZ cG a r nc nw cx cy ch rm on wx wy dm sv mu qq))) (fun (i : Nat) (x : Int32) (Y : Nat → Nat → Int32) => [some (.ref (b 0)), some (.int (nI kw)), some (.int p1), some (.int p2), some (.int p3), some (.int x), some (.int (nI i)), none, none]) (fun (i : Nat) (x : Int32) (Y : Nat → Nat → Int32) => nc - i) ⟨Nat.zero_le _, rfl, fun j c => (if_neg (fun h => Nat.not_lt_zero _ h.2)).symm⟩ rfl rfl (fun i x Y hI ih => ?_)
  obtain ⟨h1, h2, h3⟩ := hI
  refine g_iload C dX1_fillWorth_6 rfl ?_
  refine g_aload_n C dX1_fillWorth_8 rfl ?_
  refine g_get C 0 iX1_fillWorth_X1 rfl rfl 0 (by decide) f29 rfl dX1_fillWorth_9 ?_
  refine g_get C 12 iX1_fillWorth_X0 rfl rfl 5 (by decide) f52 rfl dX1_fillWorth_12 ?_
  refine g_icmp_ge C 105 dX1_fillWorth_15 (by decide) (fun c_15 => ?_) (fun c_15 => ?_)
  · skip
    have c_15 : nc ≤ i := (nI_leI (by omega) (by omega)).mp c_15
    refine g_iload C dX1_fillWorth_105 rfl ?_
    exact g_iret C hret dX1_fillWorth_107 (Nat.le_of_ble_eq_true rfl) (Nat.le_of_ble_eq_true rfl) ⟨(by rw [h2, show i = nc by omega]), (by rw [show Y = fwr kw nc (fwv on p1 p2 p3 (qq kw)) wo from funext fun j => funext fun c => by rw [h3, show i = nc by omega]; rfl])⟩
  · skip
    have c_15 : ¬ (nc ≤ i) := fun h9 => c_15 ((nI_leI (by omega) (by omega)).mpr h9)
    refine g_aload_n C dX1_fillWorth_18 rfl ?_
    refine g_get C 0 iX1_fillWorth_X1 rfl rfl 0 (by decide) f29 rfl dX1_fillWorth_19 ?_
    refine g_get C 12 iX1_fillWorth_X0 rfl rfl 12 (by decide) f68 rfl dX1_fillWorth_22 ?_
    refine g_iload_n C dX1_fillWorth_25 rfl ?_
    refine g_aald C 23 3 rfl rfl kw rfl hw (by decide) (r kw) (if_pos hw) dX1_fillWorth_26 ?_
    refine g_iload C dX1_fillWorth_27 rfl ?_
    refine g_iald C (24 + kw) 0 (wS_row hw) rfl i rfl (by omega) (by decide) (qq kw i) rfl dX1_fillWorth_29 ?_
    refine g_istore C [some (.ref (b 0)), some (.int (nI kw)), some (.int p1), some (.int p2), some (.int p3), some (.int x), some (.int (nI i)), some (.int (qq kw i)), none] dX1_fillWorth_30 (by decide) rfl rfl ?_
    refine g_aload_n C dX1_fillWorth_32 rfl ?_
    refine g_get C 0 iX1_fillWorth_X1 rfl rfl 0 (by decide) f29 rfl dX1_fillWorth_33 ?_
    refine g_get C 12 iX1_fillWorth_X0 rfl rfl 4 (by decide) f71 rfl dX1_fillWorth_36 ?_
    refine g_iload C dX1_fillWorth_39 rfl ?_
    refine g_zald C 17 1 rfl rfl i rfl (by omega) (by decide) (on i) rfl dX1_fillWorth_41 ?_
    refine g_if_eq C 55 dX1_fillWorth_42 (by decide) (fun c_42 => ?_) (fun c_42 => ?_)
    · skip
      refine g_iconst C 0 dX1_fillWorth_55 (by decide +kernel) ?_
      refine g_istore C [some (.ref (b 0)), some (.int (nI kw)), some (.int p1), some (.int p2), some (.int p3), some (.int x), some (.int (nI i)), some (.int (qq kw i)), some (.int 0)] dX1_fillWorth_56 (by decide) rfl rfl ?_
      refine g_aload_n C dX1_fillWorth_58 rfl ?_
      refine g_get C 0 iX1_fillWorth_X1 rfl rfl 1 (by decide) f11 rfl dX1_fillWorth_59 ?_
      refine g_iload_n C dX1_fillWorth_62 rfl ?_
      refine g_aald C 1 4 rfl rfl kw rfl hw (by decide) (r2 kw) (if_pos hw) dX1_fillWorth_63 ?_
      refine g_iload C dX1_fillWorth_64 rfl ?_
      refine g_iload C dX1_fillWorth_66 rfl ?_
      refine g_if_eq C 81 dX1_fillWorth_68 (by decide) (fun _ => ?_) (fun c9 => absurd rfl c9)
      refine g_iconst C 0 dX1_fillWorth_81 (by decide +kernel) ?_
      refine g_iast C (6 + kw) 0 (wS_row2 hw) rfl i rfl (by omega) (by decide) (wSo cI cW a b r2 hp rl cn be bw (up2 Y kw i 0) ++ (wL cI cZ cG a r nc nw cx cy ch rm on wx wy dm sv mu qq)) (wS_set2 hw) dX1_fillWorth_82 ?_
      refine g_iload C dX1_fillWorth_83 rfl ?_
      refine g_aload_n C dX1_fillWorth_85 rfl ?_
      refine g_get C 0 iX1_fillWorth_X1 rfl rfl 1 (by decide) f11 rfl dX1_fillWorth_86 ?_
      refine g_iload_n C dX1_fillWorth_89 rfl ?_
      refine g_aald C 1 4 rfl rfl kw rfl hw (by decide) (r2 kw) (if_pos hw) dX1_fillWorth_90 ?_
      refine g_iload C dX1_fillWorth_91 rfl ?_
      refine g_iald C (6 + kw) 0 (wS_row2 hw) rfl i rfl (by omega) (by decide) 0 up2_self dX1_fillWorth_93 ?_
      refine g_mmax C (mx x 0) (C.ts _ (by decide +kernel)) (C.ts _ (by decide +kernel)) (C.ts _ (by decide +kernel)) (C.ts _ (by decide +kernel)) (Nat.le_of_ble_eq_true rfl) (Nat.le_of_ble_eq_true rfl) (Nat.le_of_ble_eq_true rfl) (Nat.le_of_ble_eq_true rfl) rfl dX1_fillWorth_94 ?_
      refine g_istore C [some (.ref (b 0)), some (.int (nI kw)), some (.int p1), some (.int p2), some (.int p3), some (.int (mx x 0)), some (.int (nI i)), some (.int (qq kw i)), some (.int 0)] dX1_fillWorth_97 (by decide) rfl rfl ?_
      refine g_iinc C (nI (i + 1)) [some (.ref (b 0)), some (.int (nI kw)), some (.int p1), some (.int p2), some (.int p3), some (.int (mx x 0)), some (.int (nI (i + 1))), some (.int (qq kw i)), some (.int 0)] dX1_fillWorth_99 rfl (nI_1 i) (by decide) rfl rfl ?_
      refine g_goto C 6 dX1_fillWorth_102 (by decide) ?_
      refine g_mask [true, true, true, true, true, true, true, false, false] rfl ?_
      exact ih (i + 1) (mx x 0) (up2 Y kw i 0) ⟨by omega, by rw [fmx, ← h2, ← show 0 = (fwv on p1 p2 p3 (qq kw)) i from (by unfold fwv; first | rw [if_pos c_42] | rw [if_neg c_42, if_pos c_48])], fil2_cell (f := fun _ => (fwv on p1 p2 p3 (qq kw))) h3 (by unfold fwv; first | rw [if_pos c_42] | rw [if_neg c_42, if_pos c_48])⟩ (by omega)
    · skip
      refine g_iload C dX1_fillWorth_45 rfl ?_
      refine g_iload_n C dX1_fillWorth_47 rfl ?_
      refine g_icmp_lt C 55 dX1_fillWorth_48 (by decide) (fun c_48 => ?_) (fun c_48 => ?_)
      · skip
        refine g_iconst C 0 dX1_fillWorth_55 (by decide +kernel) ?_
        refine g_istore C [some (.ref (b 0)), some (.int (nI kw)), some (.int p1), some (.int p2), some (.int p3), some (.int x), some (.int (nI i)), some (.int (qq kw i)), some (.int 0)] dX1_fillWorth_56 (by decide) rfl rfl ?_
        refine g_aload_n C dX1_fillWorth_58 rfl ?_
        refine g_get C 0 iX1_fillWorth_X1 rfl rfl 1 (by decide) f11 rfl dX1_fillWorth_59 ?_
        refine g_iload_n C dX1_fillWorth_62 rfl ?_
        refine g_aald C 1 4 rfl rfl kw rfl hw (by decide) (r2 kw) (if_pos hw) dX1_fillWorth_63 ?_
        refine g_iload C dX1_fillWorth_64 rfl ?_
        refine g_iload C dX1_fillWorth_66 rfl ?_
        refine g_if_eq C 81 dX1_fillWorth_68 (by decide) (fun _ => ?_) (fun c9 => absurd rfl c9)
        refine g_iconst C 0 dX1_fillWorth_81 (by decide +kernel) ?_
        refine g_iast C (6 + kw) 0 (wS_row2 hw) rfl i rfl (by omega) (by decide) (wSo cI cW a b r2 hp rl cn be bw (up2 Y kw i 0) ++ (wL cI cZ cG a r nc nw cx cy ch rm on wx wy dm sv mu qq)) (wS_set2 hw) dX1_fillWorth_82 ?_
        refine g_iload C dX1_fillWorth_83 rfl ?_
        refine g_aload_n C dX1_fillWorth_85 rfl ?_
        refine g_get C 0 iX1_fillWorth_X1 rfl rfl 1 (by decide) f11 rfl dX1_fillWorth_86 ?_
        refine g_iload_n C dX1_fillWorth_89 rfl ?_
        refine g_aald C 1 4 rfl rfl kw rfl hw (by decide) (r2 kw) (if_pos hw) dX1_fillWorth_90 ?_
        refine g_iload C dX1_fillWorth_91 rfl ?_
        refine g_iald C (6 + kw) 0 (wS_row2 hw) rfl i rfl (by omega) (by decide) 0 up2_self dX1_fillWorth_93 ?_
        refine g_mmax C (mx x 0) (C.ts _ (by decide +kernel)) (C.ts _ (by decide +kernel)) (C.ts _ (by decide +kernel)) (C.ts _ (by decide +kernel)) (Nat.le_of_ble_eq_true rfl) (Nat.le_of_ble_eq_true rfl) (Nat.le_of_ble_eq_true rfl) (Nat.le_of_ble_eq_true rfl) rfl dX1_fillWorth_94 ?_
        refine g_istore C [some (.ref (b 0)), some (.int (nI kw)), some (.int p1), some (.int p2), some (.int p3), some (.int (mx x 0)), some (.int (nI i)), some (.int (qq kw i)), some (.int 0)] dX1_fillWorth_97 (by decide) rfl rfl ?_
        refine g_iinc C (nI (i + 1)) [some (.ref (b 0)), some (.int (nI kw)), some (.int p1), some (.int p2), some (.int p3), some (.int (mx x 0)), some (.int (nI (i + 1))), some (.int (qq kw i)), some (.int 0)] dX1_fillWorth_99 rfl (nI_1 i) (by decide) rfl rfl ?_
        refine g_goto C 6 dX1_fillWorth_102 (by decide) ?_
        refine g_mask [true, true, true, true, true, true, true, false, false] rfl ?_
        exact ih (i + 1) (mx x 0) (up2 Y kw i 0) ⟨by omega, by rw [fmx, ← h2, ← show 0 = (fwv on p1 p2 p3 (qq kw)) i from (by unfold fwv; first | rw [if_pos c_42] | rw [if_neg c_42, if_pos c_48])], fil2_cell (f := fun _ => (fwv on p1 p2 p3 (qq kw))) h3 (by unfold fwv; first | rw [if_pos c_42] | rw [if_neg c_42, if_pos c_48])⟩ (by omega)
      · skip
        refine g_iconst C 1 dX1_fillWorth_51 (by decide +kernel) ?_
        refine g_goto C 56 dX1_fillWorth_52 (by decide) ?_
        refine g_istore C [some (.ref (b 0)), some (.int (nI kw)), some (.int p1), some (.int p2), some (.int p3), some (.int x), some (.int (nI i)), some (.int (qq kw i)), some (.int 1)] dX1_fillWorth_56 (by decide) rfl rfl ?_
        refine g_aload_n C dX1_fillWorth_58 rfl ?_
        refine g_get C 0 iX1_fillWorth_X1 rfl rfl 1 (by decide) f11 rfl dX1_fillWorth_59 ?_
        refine g_iload_n C dX1_fillWorth_62 rfl ?_
        refine g_aald C 1 4 rfl rfl kw rfl hw (by decide) (r2 kw) (if_pos hw) dX1_fillWorth_63 ?_
        refine g_iload C dX1_fillWorth_64 rfl ?_
        refine g_iload C dX1_fillWorth_66 rfl ?_
        refine g_if_eq C 81 dX1_fillWorth_68 (by decide) (fun c9 => absurd c9 (by decide)) (fun _ => ?_)
        refine g_iload_n C dX1_fillWorth_71 rfl ?_
        refine g_iload C dX1_fillWorth_72 rfl ?_
        refine g_iload C dX1_fillWorth_74 rfl ?_
        refine g_imul C (p3 * (qq kw i)) dX1_fillWorth_76 rfl ?_
        refine g_iadd C (p2 + (p3 * (qq kw i))) dX1_fillWorth_77 rfl ?_
        refine g_goto C 82 dX1_fillWorth_78 (by decide) ?_
        refine g_iast C (6 + kw) 0 (wS_row2 hw) rfl i rfl (by omega) (by decide) (wSo cI cW a b r2 hp rl cn be bw (up2 Y kw i (p2 + (p3 * (qq kw i)))) ++ (wL cI cZ cG a r nc nw cx cy ch rm on wx wy dm sv mu qq)) (wS_set2 hw) dX1_fillWorth_82 ?_
        refine g_iload C dX1_fillWorth_83 rfl ?_
        refine g_aload_n C dX1_fillWorth_85 rfl ?_
        refine g_get C 0 iX1_fillWorth_X1 rfl rfl 1 (by decide) f11 rfl dX1_fillWorth_86 ?_
        refine g_iload_n C dX1_fillWorth_89 rfl ?_
        refine g_aald C 1 4 rfl rfl kw rfl hw (by decide) (r2 kw) (if_pos hw) dX1_fillWorth_90 ?_
        refine g_iload C dX1_fillWorth_91 rfl ?_
        refine g_iald C (6 + kw) 0 (wS_row2 hw) rfl i rfl (by omega) (by decide) (p2 + (p3 * (qq kw i))) up2_self dX1_fillWorth_93 ?_
        refine g_mmax C (mx x (p2 + (p3 * (qq kw i)))) (C.ts _ (by decide +kernel)) (C.ts _ (by decide +kernel)) (C.ts _ (by decide +kernel)) (C.ts _ (by decide +kernel)) (Nat.le_of_ble_eq_true rfl) (Nat.le_of_ble_eq_true rfl) (Nat.le_of_ble_eq_true rfl) (Nat.le_of_ble_eq_true rfl) rfl dX1_fillWorth_94 ?_
        refine g_istore C [some (.ref (b 0)), some (.int (nI kw)), some (.int p1), some (.int p2), some (.int p3), some (.int (mx x (p2 + (p3 * (qq kw i))))), some (.int (nI i)), some (.int (qq kw i)), some (.int 1)] dX1_fillWorth_97 (by decide) rfl rfl ?_
        refine g_iinc C (nI (i + 1)) [some (.ref (b 0)), some (.int (nI kw)), some (.int p1), some (.int p2), some (.int p3), some (.int (mx x (p2 + (p3 * (qq kw i))))), some (.int (nI (i + 1))), some (.int (qq kw i)), some (.int 1)] dX1_fillWorth_99 rfl (nI_1 i) (by decide) rfl rfl ?_
        refine g_goto C 6 dX1_fillWorth_102 (by decide) ?_
        refine g_mask [true, true, true, true, true, true, true, false, false] rfl ?_
        exact ih (i + 1) (mx x (p2 + (p3 * (qq kw i)))) (up2 Y kw i (p2 + (p3 * (qq kw i)))) ⟨by omega, by rw [fmx, ← h2, ← show (p2 + (p3 * (qq kw i))) = (fwv on p1 p2 p3 (qq kw)) i from (by unfold fwv; rw [if_neg c_42, if_neg c_48])], fil2_cell (f := fun _ => (fwv on p1 p2 p3 (qq kw))) h3 (by unfold fwv; rw [if_neg c_42, if_neg c_48])⟩ (by omega)
theorem iX1_place_X0 : ∀ w ∈ u_ws RX0 TX0 13, w ∈ wsX1_place := by decide +kernel
theorem iX1_place_X1 : ∀ w ∈ u_ws RX1 TX1 7, w ∈ wsX1_place := by decide +kernel
set_option maxHeartbeats 1000000 in
set_option maxRecDepth 100000 in
/-- the assignments of the walkers from one on, tried in their order -/
theorem t_X1_place {l : Launch} {D : va_G} {cI cZ cJ cG cW : ClassId} {a b r2 : Nat → Nat} {hp : Nat → Int32} {wo : Nat → Nat → Int32} {r : Nat → Nat} {nc nw : Nat} {cx cy ch rm on wx wy dm sv mu : Nat → Int32} {qq : Nat → Nat → Int32} (h5 : nc ≤ 5) (h6 : nw ≤ 6) : ∀ (k : Nat) {kw : Nat} {p0 : Int32} {rl cn be : Nat → Int32} {bw : Int32} (_ : nw < kw + k) (_ : kw ≤ nw), CtV l yX1_place wsX1_place (k + 3) (40 * k + 200) 0 0 D (T5 cI cZ cJ cG cW) [.ref (b 0), .int (nI kw), .int p0] (wSo cI cW a b r2 hp rl cn be bw wo ++ (wL cI cZ cG a r nc nw cx cy ch rm on wx wy dm sv mu qq)) (fun wv tv => wv = (wSo cI cW a b r2 hp ((fpl hp wo dm nc nw k kw p0 (rl, cn, be, bw)).1) ((fpl hp wo dm nc nw k kw p0 (rl, cn, be, bw)).2.1) ((fpl hp wo dm nc nw k kw p0 (rl, cn, be, bw)).2.2.1) ((fpl hp wo dm nc nw k kw p0 (rl, cn, be, bw)).2.2.2) wo ++ (wL cI cZ cG a r nc nw cx cy ch rm on wx wy dm sv mu qq)) ∧ tv = (T5 cI cZ cJ cG cW)) := by
  intro k
  induction k with
  | zero =>
    intro kw p0 rl cn be bw hk hw
    exact absurd hk (by omega)
  | succ k ih =>
    intro kw p0 rl cn be bw hk hw
    refine ctV_of (cc := cX1_place) (maxL := 6) RX1 3 [some (.ref (b 0)), some (.int (nI kw)), some (.int p0), none, none, none] (by decide +kernel) rfl rfl (Nat.le_of_ble_eq_true rfl) rfl (fun p_ e_ s_ m_ as_ bl_ me_ co_ C hret hini => ?_)
    have f11 := C.ts (.fieldLink RX1 11 "CellPlanner$Search" "worth" "[[I") (by decide +kernel)
    have f16 := C.ts (.fieldLink RX1 16 "CellPlanner$Search" "hope" "[I") (by decide +kernel)
    have f20 := C.ts (.fieldLink RX1 20 "CellPlanner$Search" "roomLeft" "[I") (by decide +kernel)
    have f23 := C.ts (.fieldLink RX1 23 "CellPlanner$Search" "chosen" "[I") (by decide +kernel)
    have f29 := C.ts (.fieldLink RX1 29 "CellPlanner$Search" "land" "LCellPlanner$Land;") (by decide +kernel)
    have f38 := C.ts (.fieldLink RX1 38 "CellPlanner$Land" "walkers" "I") (by decide +kernel)
    have f42 := C.ts (.fieldLink RX1 42 "CellPlanner$Land" "demand" "[I") (by decide +kernel)
    have f52 := C.ts (.fieldLink RX1 52 "CellPlanner$Land" "cells" "I") (by decide +kernel)
    have f61 := C.ts (.fieldLink RX1 61 "CellPlanner$Search" "bestWorth" "I") (by decide +kernel)
    refine g_iload_n C dX1_place_0 rfl ?_
    refine g_aload_n C dX1_place_1 rfl ?_
    refine g_get C 0 iX1_place_X1 rfl rfl 2 (by decide) f16 rfl dX1_place_2 ?_
    refine g_iload_n C dX1_place_5 rfl ?_
    refine g_iald C 2 0 rfl rfl kw rfl (by omega) (by decide) (hp kw) rfl dX1_place_6 ?_
    refine g_iadd C (p0 + (hp kw)) dX1_place_7 rfl ?_
    refine g_aload_n C dX1_place_8 rfl ?_
    refine g_get C 0 iX1_place_X1 rfl rfl 6 (by decide) f61 rfl dX1_place_9 ?_
    refine g_icmp_gt C 16 dX1_place_12 (by decide) (fun c_12 => ?_) (fun c_12 => ?_)
    · skip
      refine g_iload_n C dX1_place_16 rfl ?_
      refine g_aload_n C dX1_place_17 rfl ?_
      refine g_get C 0 iX1_place_X1 rfl rfl 0 (by decide) f29 rfl dX1_place_18 ?_
      refine g_get C 12 iX1_place_X0 rfl rfl 10 (by decide) f38 rfl dX1_place_21 ?_
      refine g_icmp_lt C 33 dX1_place_24 (by decide) (fun c_24 => ?_) (fun c_24 => ?_)
      · skip
        have c_24 : kw < nw := (nI_ltI (by omega) (by omega)).mp c_24
        refine g_aload_n C dX1_place_33 rfl ?_
        refine g_get C 0 iX1_place_X1 rfl rfl 0 (by decide) f29 rfl dX1_place_34 ?_
        refine g_get C 12 iX1_place_X0 rfl rfl 8 (by decide) f42 rfl dX1_place_37 ?_
        refine g_iload_n C dX1_place_40 rfl ?_
        refine g_iald C 20 0 rfl rfl kw rfl (by omega) (by decide) (dm kw) rfl dX1_place_41 ?_
        refine g_istore_n C [some (.ref (b 0)), some (.int (nI kw)), some (.int p0), some (.int (dm kw)), none, none] dX1_place_42 (by decide) rfl rfl ?_
        refine g_iconst C 0 dX1_place_43 (by decide +kernel) ?_
        refine g_istore C [some (.ref (b 0)), some (.int (nI kw)), some (.int p0), some (.int (dm kw)), some (.int 0), none] dX1_place_44 (by decide) rfl rfl ?_
        refine g_loop2 0 ((rl, cn, be, bw)) (fun (i : Nat) (z : S4) => i ≤ nc ∧ z = (fpi (fpl hp wo dm nc nw k (kw + 1)) (wo kw) (dm kw) kw p0 (rl, cn, be, bw) i)) (fun (i : Nat) (z : S4) => (wSo cI cW a b r2 hp z.1 z.2.1 z.2.2.1 z.2.2.2 wo ++ (wL cI cZ cG a r nc nw cx cy ch rm on wx wy dm sv mu qq))) (fun (i : Nat) (z : S4) => [some (.ref (b 0)), some (.int (nI kw)), some (.int p0), some (.int (dm kw)), some (.int (nI i)), none]) (fun (i : Nat) (z : S4) => nc - i) ⟨Nat.zero_le _, rfl⟩ rfl rfl (fun i z hI ihl => ?_)
        obtain ⟨h1, h2⟩ := hI
        refine g_iload C dX1_place_46 rfl ?_
        refine g_aload_n C dX1_place_48 rfl ?_
        refine g_get C 0 iX1_place_X1 rfl rfl 0 (by decide) f29 rfl dX1_place_49 ?_
        refine g_get C 12 iX1_place_X0 rfl rfl 5 (by decide) f52 rfl dX1_place_52 ?_
        refine g_icmp_ge C 132 dX1_place_55 (by decide) (fun c_55 => ?_) (fun c_55 => ?_)
        · skip
          have c_55 : nc ≤ i := (nI_leI (by omega) (by omega)).mp c_55
          refine g_aload_n C dX1_place_132 rfl ?_
          refine g_get C 0 iX1_place_X1 rfl rfl 4 (by decide) f23 rfl dX1_place_133 ?_
          refine g_iload_n C dX1_place_136 rfl ?_
          refine g_iconst C (-1) dX1_place_137 (by decide +kernel) ?_
          refine g_iast C 4 0 rfl rfl kw rfl (by omega) (by decide) (wSo cI cW a b r2 hp z.1 (upd z.2.1 kw ((-1))) z.2.2.1 z.2.2.2 wo ++ (wL cI cZ cG a r nc nw cx cy ch rm on wx wy dm sv mu qq)) rfl dX1_place_138 ?_
          refine g_aload_n C dX1_place_139 rfl ?_
          refine g_iload_n C dX1_place_140 rfl ?_
          refine g_iconst C 1 dX1_place_141 (by decide +kernel) ?_
          refine g_iadd C (nI (kw + 1)) dX1_place_142 (nI_1 kw) ?_
          refine g_iload_n C dX1_place_143 rfl ?_
          refine g_callSv C [] (wSo cI cW a b r2 hp z.1 (upd z.2.1 kw ((-1))) z.2.2.1 z.2.2.2 wo ++ (wL cI cZ cG a r nc nw cx cy ch rm on wx wy dm sv mu qq)) [.ref (b 0), .int (nI (kw + 1)), .int p0] (ih (by omega) (by omega)) (va_cwS 3 C.ts gX1_place_X1_place rfl rfl rfl (by decide +kernel) ⟨by show k + 3 + 1 ≤ k + 1 + 3; omega, by show 8 + (6 + 11) + (40 * k + 200) ≤ 40 * (k + 1) + 200; omega⟩) rfl rfl rfl (Nat.le_of_ble_eq_true rfl) dX1_place_144 ⟨Nat.le_of_ble_eq_true rfl, Nat.le_of_ble_eq_true rfl⟩ (fun wv1 tv1 hp1 => ?_)
          obtain ⟨rfl, rfl⟩ := hp1
          exact g_vret C hret dX1_place_147 (Nat.le_of_ble_eq_true rfl) (Nat.le_of_ble_eq_true rfl) ⟨(by rw [fpl, if_neg (by exact Int32.not_le.mpr c_12), if_neg (by omega), ← show z = (fpi (fpl hp wo dm nc nw k (kw + 1)) (wo kw) (dm kw) kw p0 (rl, cn, be, bw) nc) from (by rw [h2, show i = nc by omega])] <;> rfl), rfl⟩
        · skip
          have c_55 : ¬ (nc ≤ i) := fun h9 => c_55 ((nI_leI (by omega) (by omega)).mpr h9)
          refine g_aload_n C dX1_place_58 rfl ?_
          refine g_get C 0 iX1_place_X1 rfl rfl 1 (by decide) f11 rfl dX1_place_59 ?_
          refine g_iload_n C dX1_place_62 rfl ?_
          refine g_aald C 1 4 rfl rfl kw rfl (by omega) (by decide) (r2 kw) (if_pos (by omega)) dX1_place_63 ?_
          refine g_iload C dX1_place_64 rfl ?_
          refine g_iald C (6 + kw) 0 (wS_row2 (by omega)) rfl i rfl (by omega) (by decide) (wo kw i) rfl dX1_place_66 ?_
          refine g_istore C [some (.ref (b 0)), some (.int (nI kw)), some (.int p0), some (.int (dm kw)), some (.int (nI i)), some (.int (wo kw i))] dX1_place_67 (by decide) rfl rfl ?_
          refine g_iload C dX1_place_69 rfl ?_
          refine g_if_le C 126 dX1_place_71 (by decide) (fun c_71 => ?_) (fun c_71 => ?_)
          · skip
            refine g_iinc C (nI (i + 1)) [some (.ref (b 0)), some (.int (nI kw)), some (.int p0), some (.int (dm kw)), some (.int (nI (i + 1))), some (.int (wo kw i))] dX1_place_126 rfl (nI_1 i) (by decide) rfl rfl ?_
            refine g_goto C 46 dX1_place_129 (by decide) ?_
            refine g_mask [true, true, true, true, true, false] rfl ?_
            exact ihl (i + 1) z ⟨by omega, by rw [fpi, ← h2]; first | rw [if_pos c_71] | rw [if_neg c_71, if_pos c_82]⟩ (by omega)
          · skip
            refine g_aload_n C dX1_place_74 rfl ?_
            refine g_get C 0 iX1_place_X1 rfl rfl 3 (by decide) f20 rfl dX1_place_75 ?_
            refine g_iload C dX1_place_78 rfl ?_
            refine g_iald C 3 0 rfl rfl i rfl (by omega) (by decide) (z.1 i) rfl dX1_place_80 ?_
            refine g_iload_n C dX1_place_81 rfl ?_
            refine g_icmp_lt C 126 dX1_place_82 (by decide) (fun c_82 => ?_) (fun c_82 => ?_)
            · skip
              refine g_iinc C (nI (i + 1)) [some (.ref (b 0)), some (.int (nI kw)), some (.int p0), some (.int (dm kw)), some (.int (nI (i + 1))), some (.int (wo kw i))] dX1_place_126 rfl (nI_1 i) (by decide) rfl rfl ?_
              refine g_goto C 46 dX1_place_129 (by decide) ?_
              refine g_mask [true, true, true, true, true, false] rfl ?_
              exact ihl (i + 1) z ⟨by omega, by rw [fpi, ← h2]; first | rw [if_pos c_71] | rw [if_neg c_71, if_pos c_82]⟩ (by omega)
            · skip
              refine g_aload_n C dX1_place_85 rfl ?_
              refine g_get C 0 iX1_place_X1 rfl rfl 3 (by decide) f20 rfl dX1_place_86 ?_
              refine g_iload C dX1_place_89 rfl ?_
              refine g_dup2 C dX1_place_91 rfl rfl ?_
              refine g_iald C 3 0 rfl rfl i rfl (by omega) (by decide) (z.1 i) rfl dX1_place_92 ?_
              refine g_iload_n C dX1_place_93 rfl ?_
              refine g_isub C ((z.1 i) - (dm kw)) dX1_place_94 rfl ?_
              refine g_iast C 3 0 rfl rfl i rfl (by omega) (by decide) (wSo cI cW a b r2 hp (upd z.1 i ((z.1 i) - (dm kw))) z.2.1 z.2.2.1 z.2.2.2 wo ++ (wL cI cZ cG a r nc nw cx cy ch rm on wx wy dm sv mu qq)) rfl dX1_place_95 ?_
              refine g_aload_n C dX1_place_96 rfl ?_
              refine g_get C 0 iX1_place_X1 rfl rfl 4 (by decide) f23 rfl dX1_place_97 ?_
              refine g_iload_n C dX1_place_100 rfl ?_
              refine g_iload C dX1_place_101 rfl ?_
              refine g_iast C 4 0 rfl rfl kw rfl (by omega) (by decide) (wSo cI cW a b r2 hp (upd z.1 i ((z.1 i) - (dm kw))) (upd z.2.1 kw (nI i)) z.2.2.1 z.2.2.2 wo ++ (wL cI cZ cG a r nc nw cx cy ch rm on wx wy dm sv mu qq)) rfl dX1_place_103 ?_
              refine g_aload_n C dX1_place_104 rfl ?_
              refine g_iload_n C dX1_place_105 rfl ?_
              refine g_iconst C 1 dX1_place_106 (by decide +kernel) ?_
              refine g_iadd C (nI (kw + 1)) dX1_place_107 (nI_1 kw) ?_
              refine g_iload_n C dX1_place_108 rfl ?_
              refine g_iload C dX1_place_109 rfl ?_
              refine g_iadd C (p0 + (wo kw i)) dX1_place_111 rfl ?_
              refine g_callSv C [] (wSo cI cW a b r2 hp (upd z.1 i ((z.1 i) - (dm kw))) (upd z.2.1 kw (nI i)) z.2.2.1 z.2.2.2 wo ++ (wL cI cZ cG a r nc nw cx cy ch rm on wx wy dm sv mu qq)) [.ref (b 0), .int (nI (kw + 1)), .int (p0 + (wo kw i))] (ih (by omega) (by omega)) (va_cwS 3 C.ts gX1_place_X1_place rfl rfl rfl (by decide +kernel) ⟨by show k + 3 + 1 ≤ k + 1 + 3; omega, by show 8 + (6 + 11) + (40 * k + 200) ≤ 40 * (k + 1) + 200; omega⟩) rfl rfl rfl (Nat.le_of_ble_eq_true rfl) dX1_place_112 ⟨Nat.le_of_ble_eq_true rfl, Nat.le_of_ble_eq_true rfl⟩ (fun wv2 tv2 hp2 => ?_)
              obtain ⟨rfl, rfl⟩ := hp2
              refine g_aload_n C dX1_place_115 rfl ?_
              refine g_get C 0 iX1_place_X1 rfl rfl 3 (by decide) f20 rfl dX1_place_116 ?_
              refine g_iload C dX1_place_119 rfl ?_
              refine g_dup2 C dX1_place_121 rfl rfl ?_
              refine g_iald C 3 0 rfl rfl i rfl (by omega) (by decide) (((fpl hp wo dm nc nw k (kw + 1) (p0 + (wo kw i)) (upd z.1 i ((z.1 i) - (dm kw)), upd z.2.1 kw (nI i), z.2.2.1, z.2.2.2)).1) i) rfl dX1_place_122 ?_
              refine g_iload_n C dX1_place_123 rfl ?_
              refine g_iadd C ((((fpl hp wo dm nc nw k (kw + 1) (p0 + (wo kw i)) (upd z.1 i ((z.1 i) - (dm kw)), upd z.2.1 kw (nI i), z.2.2.1, z.2.2.2)).1) i) + (dm kw)) dX1_place_124 rfl ?_
              refine g_iast C 3 0 rfl rfl i rfl (by omega) (by decide) (wSo cI cW a b r2 hp (upd ((fpl hp wo dm nc nw k (kw + 1) (p0 + (wo kw i)) (upd z.1 i ((z.1 i) - (dm kw)), upd z.2.1 kw (nI i), z.2.2.1, z.2.2.2)).1) i ((((fpl hp wo dm nc nw k (kw + 1) (p0 + (wo kw i)) (upd z.1 i ((z.1 i) - (dm kw)), upd z.2.1 kw (nI i), z.2.2.1, z.2.2.2)).1) i) + (dm kw))) ((fpl hp wo dm nc nw k (kw + 1) (p0 + (wo kw i)) (upd z.1 i ((z.1 i) - (dm kw)), upd z.2.1 kw (nI i), z.2.2.1, z.2.2.2)).2.1) ((fpl hp wo dm nc nw k (kw + 1) (p0 + (wo kw i)) (upd z.1 i ((z.1 i) - (dm kw)), upd z.2.1 kw (nI i), z.2.2.1, z.2.2.2)).2.2.1) ((fpl hp wo dm nc nw k (kw + 1) (p0 + (wo kw i)) (upd z.1 i ((z.1 i) - (dm kw)), upd z.2.1 kw (nI i), z.2.2.1, z.2.2.2)).2.2.2) wo ++ (wL cI cZ cG a r nc nw cx cy ch rm on wx wy dm sv mu qq)) rfl dX1_place_125 ?_
              refine g_iinc C (nI (i + 1)) [some (.ref (b 0)), some (.int (nI kw)), some (.int p0), some (.int (dm kw)), some (.int (nI (i + 1))), some (.int (wo kw i))] dX1_place_126 rfl (nI_1 i) (by decide) rfl rfl ?_
              refine g_goto C 46 dX1_place_129 (by decide) ?_
              refine g_mask [true, true, true, true, true, false] rfl ?_
              exact ihl (i + 1) ((upd ((fpl hp wo dm nc nw k (kw + 1) (p0 + (wo kw i)) (upd z.1 i ((z.1 i) - (dm kw)), upd z.2.1 kw (nI i), z.2.2.1, z.2.2.2)).1) i ((((fpl hp wo dm nc nw k (kw + 1) (p0 + (wo kw i)) (upd z.1 i ((z.1 i) - (dm kw)), upd z.2.1 kw (nI i), z.2.2.1, z.2.2.2)).1) i) + (dm kw)), (fpl hp wo dm nc nw k (kw + 1) (p0 + (wo kw i)) (upd z.1 i ((z.1 i) - (dm kw)), upd z.2.1 kw (nI i), z.2.2.1, z.2.2.2)).2.1, (fpl hp wo dm nc nw k (kw + 1) (p0 + (wo kw i)) (upd z.1 i ((z.1 i) - (dm kw)), upd z.2.1 kw (nI i), z.2.2.1, z.2.2.2)).2.2.1, (fpl hp wo dm nc nw k (kw + 1) (p0 + (wo kw i)) (upd z.1 i ((z.1 i) - (dm kw)), upd z.2.1 kw (nI i), z.2.2.1, z.2.2.2)).2.2.2)) ⟨by omega, by rw [fpi, ← h2, if_neg c_71, if_neg c_82]⟩ (by omega)
      · skip
        have c_24 : ¬ (kw < nw) := fun h9 => c_24 ((nI_ltI (by omega) (by omega)).mpr h9)
        refine g_aload_n C dX1_place_27 rfl ?_
        refine g_iload_n C dX1_place_28 rfl ?_
        refine g_callVv C [] (wSo cI cW a b r2 hp rl cn be bw wo ++ (wL cI cZ cG a r nc nw cx cy ch rm on wx wy dm sv mu qq)) [.int p0] (t_X1_keep h6) rfl rfl (cwV 1 C.ts gX1_place_X1_keep rfl rfl rfl (by decide +kernel) ⟨by show 1 + 1 ≤ k + 1 + 3; omega, by show 8 + (2 + 11) + 80 ≤ 40 * (k + 1) + 200; omega⟩) rfl rfl rfl (Nat.le_of_ble_eq_true rfl) dX1_place_29 ⟨Nat.le_of_ble_eq_true rfl, Nat.le_of_ble_eq_true rfl⟩ (fun wv3 tv3 hp3 => ?_)
        obtain ⟨rfl, rfl⟩ := hp3
        exact g_vret C hret dX1_place_32 (Nat.le_of_ble_eq_true rfl) (Nat.le_of_ble_eq_true rfl) ⟨(by rw [fpl, if_neg (by exact Int32.not_le.mpr c_12), if_pos (by omega)] <;> rfl), rfl⟩
    · skip
      exact g_vret C hret dX1_place_15 (Nat.le_of_ble_eq_true rfl) (Nat.le_of_ble_eq_true rfl) ⟨(by rw [fpl, if_pos (by exact Int32.not_lt.mp c_12)]), rfl⟩
theorem iX1_greatestWorth_X0 : ∀ w ∈ u_ws RX0 TX0 13, w ∈ wsX1_greatestWorth := by decide +kernel
theorem iX1_greatestWorth_X1 : ∀ w ∈ u_ws RX1 TX1 7, w ∈ wsX1_greatestWorth := by decide +kernel
set_option maxHeartbeats 1000000 in
set_option maxRecDepth 100000 in
/-- the greatest worth of an assignment -/
theorem t_X1_greatestWorth {l : Launch} {D : va_G} {cI cZ cJ cG cW : ClassId} {a b r2 : Nat → Nat} {hp rl cn be : Nat → Int32} {bw : Int32} {wo : Nat → Nat → Int32} {r : Nat → Nat} {nc nw : Nat} {cx cy ch rm on wx wy dm sv mu : Nat → Int32} {qq : Nat → Nat → Int32} {p0 p1 p2 p3 : Int32} (h5 : nc ≤ 5) (h6 : nw ≤ 6) (hr : ∀ c, c < nc → ¬ rm c ≤ 0) (hg : ∀ c w, c < nc → w < nw → ¬ dsq (cx c) (cy c) (wx w) (wy w) = 0) (hq : ∀ c w, c < nc → w < nw → ¬ 10 + fdi ch on (fil nc (fus rm sv dm nw) mu) (sgw cx cy wx wy w) c nc = 0) : CtI l yX1_greatestWorth wsX1_greatestWorth 11 505 0 0 D (T5 cI cZ cJ cG cW) [.ref (b 0), .int p0, .int p1, .int p2, .int p3] (wSo cI cW a b r2 hp rl cn be bw wo ++ (wL cI cZ cG a r nc nw cx cy ch rm on wx wy dm sv mu qq)) (fun rv wv => ∃ (z : S4) (P : Nat → Int32) (Y : Nat → Nat → Int32), rv = z.2.2.2 ∧ wv = (wSo cI cW a b r2 P z.1 z.2.1 z.2.2.1 z.2.2.2 Y ++ (wL cI cZ cG a r nc nw cx cy ch rm on wx wy dm sv (fil nc (fus rm sv dm nw) mu) (fil2 nw nc (fun w c => fqu cx cy ch on wx wy (fil nc (fus rm sv dm nw) mu) nc w c) qq))) ∧ GW nc nw rm on dm (fil2 nw nc (fun w c => fqu cx cy ch on wx wy (fil nc (fus rm sv dm nw) mu) nc w c) qq) p0 p1 p2 p3 rl cn be P Y z) := by
  refine ctI_of (cc := cX1_greatestWorth) (maxL := 7) RX1 2 [some (.ref (b 0)), some (.int p0), some (.int p1), some (.int p2), some (.int p3), none, none] (by decide +kernel) rfl rfl (Nat.le_of_ble_eq_true rfl) rfl (fun p_ e_ s_ m_ as_ bl_ me_ co_ C hret => ?_)
  have f16 := C.ts (.fieldLink RX1 16 "CellPlanner$Search" "hope" "[I") (by decide +kernel)
  have f20 := C.ts (.fieldLink RX1 20 "CellPlanner$Search" "roomLeft" "[I") (by decide +kernel)
  have f29 := C.ts (.fieldLink RX1 29 "CellPlanner$Search" "land" "LCellPlanner$Land;") (by decide +kernel)
  have f38 := C.ts (.fieldLink RX1 38 "CellPlanner$Land" "walkers" "I") (by decide +kernel)
  have f42 := C.ts (.fieldLink RX1 42 "CellPlanner$Land" "demand" "[I") (by decide +kernel)
  have f49 := C.ts (.fieldLink RX1 49 "CellPlanner$Land" "room" "[I") (by decide +kernel)
  have f52 := C.ts (.fieldLink RX1 52 "CellPlanner$Land" "cells" "I") (by decide +kernel)
  have f61 := C.ts (.fieldLink RX1 61 "CellPlanner$Search" "bestWorth" "I") (by decide +kernel)
  refine g_aload_n C dX1_greatestWorth_0 rfl ?_
  refine g_get C 0 iX1_greatestWorth_X1 rfl rfl 0 (by decide) f29 rfl dX1_greatestWorth_1 ?_
  refine g_callVv C (wSo cI cW a b r2 hp rl cn be bw wo) (wL cI cZ cG a r nc nw cx cy ch rm on wx wy dm sv mu qq) [] (t_X0_measure h5 h6 hr hg hq) rfl rfl (cwV 0 C.ts gX1_greatestWorth_X0_measure rfl rfl rfl (by decide +kernel) ⟨Nat.le_of_ble_eq_true rfl, Nat.le_of_ble_eq_true rfl⟩) rfl rfl rfl (Nat.le_of_ble_eq_true rfl) dX1_greatestWorth_4 ⟨Nat.le_of_ble_eq_true rfl, Nat.le_of_ble_eq_true rfl⟩ (fun wv1 tv1 hp1 => ?_)
  obtain ⟨rfl, rfl⟩ := hp1
  refine g_aload_n C dX1_greatestWorth_7 rfl ?_
  refine g_get C 0 iX1_greatestWorth_X1 rfl rfl 2 (by decide) f16 rfl dX1_greatestWorth_8 ?_
  refine g_aload_n C dX1_greatestWorth_11 rfl ?_
  refine g_get C 0 iX1_greatestWorth_X1 rfl rfl 0 (by decide) f29 rfl dX1_greatestWorth_12 ?_
  refine g_get C 12 iX1_greatestWorth_X0 rfl rfl 10 (by decide) f38 rfl dX1_greatestWorth_15 ?_
  refine g_iconst C 0 dX1_greatestWorth_18 (by decide +kernel) ?_
  refine g_iast C 2 0 rfl rfl nw rfl (by omega) (by decide) (wSo cI cW a b r2 (upd hp nw 0) rl cn be bw wo ++ (wL cI cZ cG a r nc nw cx cy ch rm on wx wy dm sv (fil nc (fus rm sv dm nw) mu) (fil2 nw nc (fun w c => fqu cx cy ch on wx wy (fil nc (fus rm sv dm nw) mu) nc w c) qq))) rfl dX1_greatestWorth_19 ?_
  refine g_aload_n C dX1_greatestWorth_20 rfl ?_
  refine g_get C 0 iX1_greatestWorth_X1 rfl rfl 0 (by decide) f29 rfl dX1_greatestWorth_21 ?_
  refine g_get C 12 iX1_greatestWorth_X0 rfl rfl 10 (by decide) f38 rfl dX1_greatestWorth_24 ?_
  refine g_iconst C 1 dX1_greatestWorth_27 (by decide +kernel) ?_
  refine g_isub C ((nI nw) - 1) dX1_greatestWorth_28 rfl ?_
  refine g_istore C [some (.ref (b 0)), some (.int p0), some (.int p1), some (.int p2), some (.int p3), some (.int ((nI nw) - 1)), none] dX1_greatestWorth_29 (by decide) rfl rfl ?_
  refine g_loop3 nw (upd hp nw 0) wo (fun (j : Nat) (P : Nat → Int32) (Y : Nat → Nat → Int32) => j ≤ nw ∧ (∀ t, j ≤ t → t ≤ nw → P t = fho (fun u => fmx (fwv on p0 (p1 + p2 * dm u) p3 ((fil2 nw nc (fun w c => fqu cx cy ch on wx wy (fil nc (fus rm sv dm nw) mu) nc w c) qq) u)) nc) nw (nw - t)) ∧ ∀ t c, j ≤ t → t < nw → c < nc → Y t c = fwv on p0 (p1 + p2 * dm t) p3 ((fil2 nw nc (fun w c => fqu cx cy ch on wx wy (fil nc (fus rm sv dm nw) mu) nc w c) qq) t) c) (fun (j : Nat) (P : Nat → Int32) (Y : Nat → Nat → Int32) => (wSo cI cW a b r2 P rl cn be bw Y ++ (wL cI cZ cG a r nc nw cx cy ch rm on wx wy dm sv (fil nc (fus rm sv dm nw) mu) (fil2 nw nc (fun w c => fqu cx cy ch on wx wy (fil nc (fus rm sv dm nw) mu) nc w c) qq)))) (fun (j : Nat) (P : Nat → Int32) (Y : Nat → Nat → Int32) => [some (.ref (b 0)), some (.int p0), some (.int p1), some (.int p2), some (.int p3), some (.int (nI j - 1)), none]) (fun (j : Nat) (P : Nat → Int32) (Y : Nat → Nat → Int32) => j) ⟨Nat.le_refl _, fun t h1 h2 => by rw [show t = nw by omega, Nat.sub_self]; simp [upd, fho], fun t c h1 h2 => absurd h1 (by omega)⟩ rfl rfl (fun j P Y hI ih => ?_)
  obtain ⟨h1, h2, h3⟩ := hI
  refine g_iload C dX1_greatestWorth_31 rfl ?_
  refine g_if_lt C 86 dX1_greatestWorth_33 (by decide) (fun c_33 => ?_) (fun c_33 => ?_)
  · skip
    have e0 : j = 0 := by
      rcases Nat.eq_zero_or_pos j with q | q
      · exact q
      · exfalso
        obtain ⟨j2, rfl⟩ : ∃ j2, j = j2 + 1 := ⟨j - 1, by omega⟩
        rw [nI_pred] at c_33
        exact nI_pos (by omega) c_33
    refine g_aload_n C dX1_greatestWorth_86 rfl ?_
    refine g_get C 0 iX1_greatestWorth_X1 rfl rfl 0 (by decide) f29 rfl dX1_greatestWorth_87 ?_
    refine g_get C 12 iX1_greatestWorth_X0 rfl rfl 3 (by decide) f49 rfl dX1_greatestWorth_90 ?_
    refine g_iconst C 0 dX1_greatestWorth_93 (by decide +kernel) ?_
    refine g_aload_n C dX1_greatestWorth_94 rfl ?_
    refine g_get C 0 iX1_greatestWorth_X1 rfl rfl 3 (by decide) f20 rfl dX1_greatestWorth_95 ?_
    refine g_iconst C 0 dX1_greatestWorth_98 (by decide +kernel) ?_
    refine g_aload_n C dX1_greatestWorth_99 rfl ?_
    refine g_get C 0 iX1_greatestWorth_X1 rfl rfl 0 (by decide) f29 rfl dX1_greatestWorth_100 ?_
    refine g_get C 12 iX1_greatestWorth_X0 rfl rfl 5 (by decide) f52 rfl dX1_greatestWorth_103 ?_
    refine g_copy C (C.ts _ (by decide +kernel)) (C.ts _ (by decide +kernel)) (C.ts _ (by decide +kernel)) (C.ts _ (by decide +kernel)) 16 3 rfl rfl rfl nc rfl (by omega) (by omega) (by omega) (Nat.le_of_ble_eq_true rfl) (Nat.le_of_ble_eq_true rfl) (wSo cI cW a b r2 P (va_cpy rm rl 0 0 nc) cn be bw Y ++ (wL cI cZ cG a r nc nw cx cy ch rm on wx wy dm sv (fil nc (fus rm sv dm nw) mu) (fil2 nw nc (fun w c => fqu cx cy ch on wx wy (fil nc (fus rm sv dm nw) mu) nc w c) qq))) rfl dX1_greatestWorth_106 ?_
    refine g_aload_n C dX1_greatestWorth_109 rfl ?_
    refine g_iconst C (-1) dX1_greatestWorth_110 (by decide +kernel) ?_
    refine g_put C 0 iX1_greatestWorth_X1 rfl rfl 6 (by decide) f61 rfl tyX1 tyX1_ok nmX1 (ty := .int) (by decide +kernel) rfl rfl (Nat.le_of_ble_eq_true rfl) (wSo cI cW a b r2 P (va_cpy rm rl 0 0 nc) cn be ((-1)) Y ++ (wL cI cZ cG a r nc nw cx cy ch rm on wx wy dm sv (fil nc (fus rm sv dm nw) mu) (fil2 nw nc (fun w c => fqu cx cy ch on wx wy (fil nc (fus rm sv dm nw) mu) nc w c) qq))) rfl dX1_greatestWorth_111 ?_
    refine g_aload_n C dX1_greatestWorth_114 rfl ?_
    refine g_iconst C 0 dX1_greatestWorth_115 (by decide +kernel) ?_
    refine g_iconst C 0 dX1_greatestWorth_116 (by decide +kernel) ?_
    refine g_callSv C [] (wSo cI cW a b r2 P (va_cpy rm rl 0 0 nc) cn be ((-1)) Y ++ (wL cI cZ cG a r nc nw cx cy ch rm on wx wy dm sv (fil nc (fus rm sv dm nw) mu) (fil2 nw nc (fun w c => fqu cx cy ch on wx wy (fil nc (fus rm sv dm nw) mu) nc w c) qq))) [.ref (b 0), .int 0, .int 0] (t_X1_place h5 h6 7 (show nw < 0 + 7 by omega) (Nat.zero_le _)) (va_cwS 3 C.ts gX1_greatestWorth_X1_place rfl rfl rfl (by decide +kernel) ⟨Nat.le_of_ble_eq_true rfl, Nat.le_of_ble_eq_true rfl⟩) rfl rfl rfl (Nat.le_of_ble_eq_true rfl) dX1_greatestWorth_117 ⟨Nat.le_of_ble_eq_true rfl, Nat.le_of_ble_eq_true rfl⟩ (fun wv2 tv2 hp2 => ?_)
    obtain ⟨rfl, rfl⟩ := hp2
    refine g_aload_n C dX1_greatestWorth_120 rfl ?_
    refine g_get C 0 iX1_greatestWorth_X1 rfl rfl 6 (by decide) f61 rfl dX1_greatestWorth_121 ?_
    exact g_iret C hret dX1_greatestWorth_124 (Nat.le_of_ble_eq_true rfl) (Nat.le_of_ble_eq_true rfl) ⟨fpl P Y dm nc nw 7 0 0 (va_cpy rm rl 0 0 nc, cn, be, -1), P, Y, rfl, rfl, rfl, fun t ht => h2 t (by omega) ht, fun t c ht hc => h3 t c (by omega) ht hc⟩
  · skip
    have e0 : 0 < j := by
      rcases Nat.eq_zero_or_pos j with q | q
      · exfalso
        subst q
        exact c_33 (by decide)
      · exact q
    obtain ⟨j2, rfl⟩ : ∃ j2, j = j2 + 1 := ⟨j - 1, by omega⟩
    refine g_lv (lv' := [some (.ref (b 0)), some (.int p0), some (.int p1), some (.int p2), some (.int p3), some (.int (nI j2)), none]) (by rw [nI_pred]) ?_
    refine g_iload_n C dX1_greatestWorth_36 rfl ?_
    refine g_iload_n C dX1_greatestWorth_37 rfl ?_
    refine g_aload_n C dX1_greatestWorth_38 rfl ?_
    refine g_get C 0 iX1_greatestWorth_X1 rfl rfl 0 (by decide) f29 rfl dX1_greatestWorth_39 ?_
    refine g_get C 12 iX1_greatestWorth_X0 rfl rfl 8 (by decide) f42 rfl dX1_greatestWorth_42 ?_
    refine g_iload C dX1_greatestWorth_45 rfl ?_
    refine g_iald C 20 0 rfl rfl j2 rfl (by omega) (by decide) (dm j2) rfl dX1_greatestWorth_47 ?_
    refine g_imul C (p2 * (dm j2)) dX1_greatestWorth_48 rfl ?_
    refine g_iadd C (p1 + (p2 * (dm j2))) dX1_greatestWorth_49 rfl ?_
    refine g_istore C [some (.ref (b 0)), some (.int p0), some (.int p1), some (.int p2), some (.int p3), some (.int (nI j2)), some (.int (p1 + (p2 * (dm j2))))] dX1_greatestWorth_50 (by decide) rfl rfl ?_
    refine g_aload_n C dX1_greatestWorth_52 rfl ?_
    refine g_get C 0 iX1_greatestWorth_X1 rfl rfl 2 (by decide) f16 rfl dX1_greatestWorth_53 ?_
    refine g_iload C dX1_greatestWorth_56 rfl ?_
    refine g_aload_n C dX1_greatestWorth_58 rfl ?_
    refine g_get C 0 iX1_greatestWorth_X1 rfl rfl 2 (by decide) f16 rfl dX1_greatestWorth_59 ?_
    refine g_iload C dX1_greatestWorth_62 rfl ?_
    refine g_iconst C 1 dX1_greatestWorth_64 (by decide +kernel) ?_
    refine g_iadd C (nI (j2 + 1)) dX1_greatestWorth_65 (nI_1 j2) ?_
    refine g_iald C 2 0 rfl rfl (j2 + 1) rfl (by omega) (by decide) (P (j2 + 1)) rfl dX1_greatestWorth_66 ?_
    refine g_aload_n C dX1_greatestWorth_67 rfl ?_
    refine g_iload C dX1_greatestWorth_68 rfl ?_
    refine g_iload_n C dX1_greatestWorth_70 rfl ?_
    refine g_iload C dX1_greatestWorth_71 rfl ?_
    refine g_iload C dX1_greatestWorth_73 rfl ?_
    refine g_callVi C [] (wSo cI cW a b r2 P rl cn be bw Y ++ (wL cI cZ cG a r nc nw cx cy ch rm on wx wy dm sv (fil nc (fus rm sv dm nw) mu) (fil2 nw nc (fun w c => fqu cx cy ch on wx wy (fil nc (fus rm sv dm nw) mu) nc w c) qq))) [.int (nI j2), .int p0, .int (p1 + (p2 * (dm j2))), .int p3] (t_X1_fillWorth h5 (by omega)) rfl rfl (cwV 4 C.ts gX1_greatestWorth_X1_fillWorth rfl rfl rfl (by decide +kernel) ⟨Nat.le_of_ble_eq_true rfl, Nat.le_of_ble_eq_true rfl⟩) rfl rfl rfl (Nat.le_of_ble_eq_true rfl) dX1_greatestWorth_75 ⟨Nat.le_of_ble_eq_true rfl, Nat.le_of_ble_eq_true rfl⟩ (fun rv3 wv3 hp3 => ?_)
    obtain ⟨rfl, rfl⟩ := hp3
    refine g_iadd C ((P (j2 + 1)) + (fmx (fwv on p0 (p1 + (p2 * (dm j2))) p3 ((fil2 nw nc (fun w c => fqu cx cy ch on wx wy (fil nc (fus rm sv dm nw) mu) nc w c) qq) j2)) nc)) dX1_greatestWorth_78 rfl ?_
    refine g_iast C 2 0 rfl rfl j2 rfl (by omega) (by decide) (wSo cI cW a b r2 (upd P j2 ((P (j2 + 1)) + (fmx (fwv on p0 (p1 + (p2 * (dm j2))) p3 ((fil2 nw nc (fun w c => fqu cx cy ch on wx wy (fil nc (fus rm sv dm nw) mu) nc w c) qq) j2)) nc))) rl cn be bw (fwr j2 nc (fwv on p0 (p1 + (p2 * (dm j2))) p3 ((fil2 nw nc (fun w c => fqu cx cy ch on wx wy (fil nc (fus rm sv dm nw) mu) nc w c) qq) j2)) Y) ++ (wL cI cZ cG a r nc nw cx cy ch rm on wx wy dm sv (fil nc (fus rm sv dm nw) mu) (fil2 nw nc (fun w c => fqu cx cy ch on wx wy (fil nc (fus rm sv dm nw) mu) nc w c) qq))) rfl dX1_greatestWorth_79 ?_
    refine g_iinc C (nI j2 - 1) [some (.ref (b 0)), some (.int p0), some (.int p1), some (.int p2), some (.int p3), some (.int (nI j2 - 1)), some (.int (p1 + (p2 * (dm j2))))] dX1_greatestWorth_80 rfl (dec1 _) (by decide) rfl rfl ?_
    refine g_goto C 31 dX1_greatestWorth_83 (by decide) ?_
    refine g_mask [true, true, true, true, true, true, false] rfl ?_
    exact ih j2 (upd P j2 ((P (j2 + 1)) + (fmx (fwv on p0 (p1 + (p2 * (dm j2))) p3 ((fil2 nw nc (fun w c => fqu cx cy ch on wx wy (fil nc (fus rm sv dm nw) mu) nc w c) qq) j2)) nc))) (fwr j2 nc (fwv on p0 (p1 + (p2 * (dm j2))) p3 ((fil2 nw nc (fun w c => fqu cx cy ch on wx wy (fil nc (fus rm sv dm nw) mu) nc w c) qq) j2)) Y) ⟨by omega, fho_step h1 h2 rfl, fwr_step h1 h3⟩ (by omega)
