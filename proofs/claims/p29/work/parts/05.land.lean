/-! Land -/
theorem iX0_loadOf_X0 : ∀ w ∈ u_ws RX0 TX0 13, w ∈ wsX0_loadOf := by decide +kernel
set_option maxHeartbeats 1000000 in
set_option maxRecDepth 100000 in
/-- the load of a cell -/
theorem t_X0_loadOf {l : Launch} {D : va_G} {cI cZ cJ cG cW : ClassId} {a r : Nat → Nat} {nc nw : Nat} {cx cy ch rm on wx wy dm sv mu : Nat → Int32} {qq : Nat → Nat → Int32} {p0 : Int32} (h6 : nw ≤ 6) : CtI l yX0_loadOf wsX0_loadOf 0 0 0 0 D (T5 cI cZ cJ cG cW) [.ref (a 0), .int p0] (wL cI cZ cG a r nc nw cx cy ch rm on wx wy dm sv mu qq) (fun rv wv => rv = fld sv dm p0 nw ∧ wv = (wL cI cZ cG a r nc nw cx cy ch rm on wx wy dm sv mu qq)) := by
  refine ctI_of (cc := cX0_loadOf) (maxL := 4) RX0 2 [some (.ref (a 0)), some (.int p0), none, none] (by decide +kernel) rfl rfl (Nat.le_of_ble_eq_true rfl) rfl (fun p_ e_ s_ m_ as_ bl_ me_ co_ C hret => ?_)
  have f34 := C.ts (.fieldLink RX0 34 "CellPlanner$Land" "demand" "[I") (by decide +kernel)
  have f37 := C.ts (.fieldLink RX0 37 "CellPlanner$Land" "server" "[I") (by decide +kernel)
  have f52 := C.ts (.fieldLink RX0 52 "CellPlanner$Land" "walkers" "I") (by decide +kernel)
  refine g_iconst C 0 dX0_loadOf_0 (by decide +kernel) ?_
  refine g_istore_n C [some (.ref (a 0)), some (.int p0), some (.int 0), none] dX0_loadOf_1 (by decide) rfl rfl ?_
  refine g_iconst C 0 dX0_loadOf_2 (by decide +kernel) ?_
  refine g_istore_n C [some (.ref (a 0)), some (.int p0), some (.int 0), some (.int 0)] dX0_loadOf_3 (by decide) rfl rfl ?_
  refine g_loop2 0 0 (fun (i : Nat) (x : Int32) => i ≤ nw ∧ x = fld sv dm p0 i) (fun (i : Nat) (x : Int32) => (wL cI cZ cG a r nc nw cx cy ch rm on wx wy dm sv mu qq)) (fun (i : Nat) (x : Int32) => [some (.ref (a 0)), some (.int p0), some (.int x), some (.int (nI i))]) (fun (i : Nat) (x : Int32) => nw - i) ⟨Nat.zero_le _, rfl⟩ rfl rfl (fun i x hI ih => ?_)
  obtain ⟨h1, h2⟩ := hI
  refine g_iload_n C dX0_loadOf_4 rfl ?_
  refine g_aload_n C dX0_loadOf_5 rfl ?_
  refine g_get C 0 iX0_loadOf_X0 rfl rfl 10 (by decide) f52 rfl dX0_loadOf_6 ?_
  refine g_icmp_ge C 37 dX0_loadOf_9 (by decide) (fun c_9 => ?_) (fun c_9 => ?_)
  · skip
    have c_9 : nw ≤ i := (nI_leI (by omega) (by omega)).mp c_9
    refine g_iload_n C dX0_loadOf_37 rfl ?_
    exact g_iret C hret dX0_loadOf_38 (Nat.le_of_ble_eq_true rfl) (Nat.le_of_ble_eq_true rfl) ⟨(by rw [h2, show i = nw by omega]), rfl⟩
  · skip
    have c_9 : ¬ (nw ≤ i) := fun h9 => c_9 ((nI_leI (by omega) (by omega)).mpr h9)
    refine g_aload_n C dX0_loadOf_12 rfl ?_
    refine g_get C 0 iX0_loadOf_X0 rfl rfl 9 (by decide) f37 rfl dX0_loadOf_13 ?_
    refine g_iload_n C dX0_loadOf_16 rfl ?_
    refine g_iald C 9 0 rfl rfl i rfl (by omega) (by decide) (sv i) rfl dX0_loadOf_17 ?_
    refine g_iload_n C dX0_loadOf_18 rfl ?_
    refine g_icmp_ne C 31 dX0_loadOf_19 (by decide) (fun c_19 => ?_) (fun c_19 => ?_)
    · skip
      refine g_iinc C (nI (i + 1)) [some (.ref (a 0)), some (.int p0), some (.int x), some (.int (nI (i + 1)))] dX0_loadOf_31 rfl (nI_1 i) (by decide) rfl rfl ?_
      refine g_goto C 4 dX0_loadOf_34 (by decide) ?_
      exact ih (i + 1) x ⟨by omega, by rw [fld, if_neg c_19, h2]⟩ (by omega)
    · skip
      refine g_iload_n C dX0_loadOf_22 rfl ?_
      refine g_aload_n C dX0_loadOf_23 rfl ?_
      refine g_get C 0 iX0_loadOf_X0 rfl rfl 8 (by decide) f34 rfl dX0_loadOf_24 ?_
      refine g_iload_n C dX0_loadOf_27 rfl ?_
      refine g_iald C 8 0 rfl rfl i rfl (by omega) (by decide) (dm i) rfl dX0_loadOf_28 ?_
      refine g_iadd C (x + (dm i)) dX0_loadOf_29 rfl ?_
      refine g_istore_n C [some (.ref (a 0)), some (.int p0), some (.int (x + (dm i))), some (.int (nI i))] dX0_loadOf_30 (by decide) rfl rfl ?_
      refine g_iinc C (nI (i + 1)) [some (.ref (a 0)), some (.int p0), some (.int (x + (dm i))), some (.int (nI (i + 1)))] dX0_loadOf_31 rfl (nI_1 i) (by decide) rfl rfl ?_
      refine g_goto C 4 dX0_loadOf_34 (by decide) ?_
      exact ih (i + 1) (x + (dm i)) ⟨by omega, by rw [fld, if_pos c_19, h2]⟩ (by omega)
theorem iX0_useOf_X0 : ∀ w ∈ u_ws RX0 TX0 13, w ∈ wsX0_useOf := by decide +kernel
set_option maxHeartbeats 1000000 in
set_option maxRecDepth 100000 in
/-- the use of a cell -/
theorem t_X0_useOf {l : Launch} {D : va_G} {cI cZ cJ cG cW : ClassId} {a r : Nat → Nat} {nc nw : Nat} {cx cy ch rm on wx wy dm sv mu : Nat → Int32} {qq : Nat → Nat → Int32} {kc : Nat} (h6 : nw ≤ 6) (h5 : kc < 5) (hr : ¬ rm kc ≤ 0) : CtI l yX0_useOf wsX0_useOf 1 23 0 0 D (T5 cI cZ cJ cG cW) [.ref (a 0), .int (nI kc)] (wL cI cZ cG a r nc nw cx cy ch rm on wx wy dm sv mu qq) (fun rv wv => rv = fus rm sv dm nw kc ∧ wv = (wL cI cZ cG a r nc nw cx cy ch rm on wx wy dm sv mu qq)) := by
  refine ctI_of (cc := cX0_useOf) (maxL := 2) RX0 0 [some (.ref (a 0)), some (.int (nI kc))] (by decide +kernel) rfl rfl (Nat.le_of_ble_eq_true rfl) rfl (fun p_ e_ s_ m_ as_ bl_ me_ co_ C hret => ?_)
  have f21 := C.ts (.fieldLink RX0 21 "CellPlanner$Land" "room" "[I") (by decide +kernel)
  refine g_aload_n C dX0_useOf_0 rfl ?_
  refine g_get C 0 iX0_useOf_X0 rfl rfl 3 (by decide) f21 rfl dX0_useOf_1 ?_
  refine g_iload_n C dX0_useOf_4 rfl ?_
  refine g_iald C 4 0 rfl rfl kc rfl (by omega) (by decide) (rm kc) rfl dX0_useOf_5 ?_
  refine g_if_le C 27 dX0_useOf_6 (by decide) (fun c9 => absurd c9 hr) (fun _ => ?_)
  refine g_bipush C 100 dX0_useOf_9 (by decide +kernel) ?_
  refine g_aload_n C dX0_useOf_11 rfl ?_
  refine g_iload_n C dX0_useOf_12 rfl ?_
  refine g_callVi C [] (wL cI cZ cG a r nc nw cx cy ch rm on wx wy dm sv mu qq) [.int (nI kc)] (t_X0_loadOf h6) rfl rfl (cwV 1 C.ts gX0_useOf_X0_loadOf rfl rfl rfl (by decide +kernel) ⟨Nat.le_of_ble_eq_true rfl, Nat.le_of_ble_eq_true rfl⟩) rfl rfl rfl (Nat.le_of_ble_eq_true rfl) dX0_useOf_13 ⟨Nat.le_of_ble_eq_true rfl, Nat.le_of_ble_eq_true rfl⟩ (fun rv1 wv1 hp1 => ?_)
  obtain ⟨rfl, rfl⟩ := hp1
  refine g_imul C (100 * (fld sv dm (nI kc) nw)) dX0_useOf_16 rfl ?_
  refine g_aload_n C dX0_useOf_17 rfl ?_
  refine g_get C 0 iX0_useOf_X0 rfl rfl 3 (by decide) f21 rfl dX0_useOf_18 ?_
  refine g_iload_n C dX0_useOf_21 rfl ?_
  refine g_iald C 4 0 rfl rfl kc rfl (by omega) (by decide) (rm kc) rfl dX0_useOf_22 ?_
  refine g_idiv C ((100 * (fld sv dm (nI kc) nw)) / (rm kc)) dX0_useOf_23 (fun h => hr (by rw [h]; decide)) rfl ?_
  refine g_goto C 28 dX0_useOf_24 (by decide) ?_
  exact g_iret C hret dX0_useOf_28 (Nat.le_of_ble_eq_true rfl) (Nat.le_of_ble_eq_true rfl) ⟨rfl, rfl⟩
theorem iX0_signalOf_X0 : ∀ w ∈ u_ws RX0 TX0 13, w ∈ wsX0_signalOf := by decide +kernel
set_option maxHeartbeats 1000000 in
set_option maxRecDepth 100000 in
/-- the signal of a cell for a walker -/
theorem t_X0_signalOf {l : Launch} {D : va_G} {cI cZ cJ cG cW : ClassId} {a r : Nat → Nat} {nc nw : Nat} {cx cy ch rm on wx wy dm sv mu : Nat → Int32} {qq : Nat → Nat → Int32} {kc kw : Nat} (h5 : kc < 5) (h6 : kw < 6) (hd : ¬ dsq (cx kc) (cy kc) (wx kw) (wy kw) = 0) : CtI l yX0_signalOf wsX0_signalOf 1 40 0 0 D (T5 cI cZ cJ cG cW) [.ref (a 0), .int (nI kc), .int (nI kw)] (wL cI cZ cG a r nc nw cx cy ch rm on wx wy dm sv mu qq) (fun rv wv => rv = sg cx cy wx wy kc kw ∧ wv = (wL cI cZ cG a r nc nw cx cy ch rm on wx wy dm sv mu qq)) := by
  refine ctI_of (cc := cX0_signalOf) (maxL := 4) RX0 1 [some (.ref (a 0)), some (.int (nI kc)), some (.int (nI kw)), none] (by decide +kernel) rfl rfl (Nat.le_of_ble_eq_true rfl) rfl (fun p_ e_ s_ m_ as_ bl_ me_ co_ C hret => ?_)
  have f9 := C.ts (.fieldLink RX0 9 "CellPlanner$Land" "cellX" "[I") (by decide +kernel)
  have f15 := C.ts (.fieldLink RX0 15 "CellPlanner$Land" "cellY" "[I") (by decide +kernel)
  have f28 := C.ts (.fieldLink RX0 28 "CellPlanner$Land" "walkerX" "[I") (by decide +kernel)
  have f31 := C.ts (.fieldLink RX0 31 "CellPlanner$Land" "walkerY" "[I") (by decide +kernel)
  refine g_aload_n C dX0_signalOf_0 rfl ?_
  refine g_get C 0 iX0_signalOf_X0 rfl rfl 0 (by decide) f9 rfl dX0_signalOf_1 ?_
  refine g_iload_n C dX0_signalOf_4 rfl ?_
  refine g_iald C 1 0 rfl rfl kc rfl (by omega) (by decide) (cx kc) rfl dX0_signalOf_5 ?_
  refine g_aload_n C dX0_signalOf_6 rfl ?_
  refine g_get C 0 iX0_signalOf_X0 rfl rfl 6 (by decide) f28 rfl dX0_signalOf_7 ?_
  refine g_iload_n C dX0_signalOf_10 rfl ?_
  refine g_iald C 6 0 rfl rfl kw rfl (by omega) (by decide) (wx kw) rfl dX0_signalOf_11 ?_
  refine g_isub C ((cx kc) - (wx kw)) dX0_signalOf_12 rfl ?_
  refine g_mabs C (ab ((cx kc) - (wx kw))) (C.ts _ (by decide +kernel)) (C.ts _ (by decide +kernel)) (C.ts _ (by decide +kernel)) (C.ts _ (by decide +kernel)) (Nat.le_of_ble_eq_true rfl) (Nat.le_of_ble_eq_true rfl) (Nat.le_of_ble_eq_true rfl) (Nat.le_of_ble_eq_true rfl) rfl dX0_signalOf_13 ?_
  refine g_aload_n C dX0_signalOf_16 rfl ?_
  refine g_get C 0 iX0_signalOf_X0 rfl rfl 1 (by decide) f15 rfl dX0_signalOf_17 ?_
  refine g_iload_n C dX0_signalOf_20 rfl ?_
  refine g_iald C 2 0 rfl rfl kc rfl (by omega) (by decide) (cy kc) rfl dX0_signalOf_21 ?_
  refine g_aload_n C dX0_signalOf_22 rfl ?_
  refine g_get C 0 iX0_signalOf_X0 rfl rfl 7 (by decide) f31 rfl dX0_signalOf_23 ?_
  refine g_iload_n C dX0_signalOf_26 rfl ?_
  refine g_iald C 7 0 rfl rfl kw rfl (by omega) (by decide) (wy kw) rfl dX0_signalOf_27 ?_
  refine g_isub C ((cy kc) - (wy kw)) dX0_signalOf_28 rfl ?_
  refine g_mabs C (ab ((cy kc) - (wy kw))) (C.ts _ (by decide +kernel)) (C.ts _ (by decide +kernel)) (C.ts _ (by decide +kernel)) (C.ts _ (by decide +kernel)) (Nat.le_of_ble_eq_true rfl) (Nat.le_of_ble_eq_true rfl) (Nat.le_of_ble_eq_true rfl) (Nat.le_of_ble_eq_true rfl) rfl dX0_signalOf_29 ?_
  refine g_iadd C ((ab ((cx kc) - (wx kw))) + (ab ((cy kc) - (wy kw)))) dX0_signalOf_32 rfl ?_
  refine g_istore_n C [some (.ref (a 0)), some (.int (nI kc)), some (.int (nI kw)), some (.int ((ab ((cx kc) - (wx kw))) + (ab ((cy kc) - (wy kw)))))] dX0_signalOf_33 (by decide) rfl rfl ?_
  refine g_sipush C 16000 dX0_signalOf_34 (by decide +kernel) ?_
  refine g_iload_n C dX0_signalOf_37 rfl ?_
  refine g_iconst C 2 dX0_signalOf_38 (by decide +kernel) ?_
  refine g_iadd C (((ab ((cx kc) - (wx kw))) + (ab ((cy kc) - (wy kw)))) + 2) dX0_signalOf_39 rfl ?_
  refine g_iload_n C dX0_signalOf_40 rfl ?_
  refine g_iconst C 2 dX0_signalOf_41 (by decide +kernel) ?_
  refine g_iadd C (((ab ((cx kc) - (wx kw))) + (ab ((cy kc) - (wy kw)))) + 2) dX0_signalOf_42 rfl ?_
  refine g_imul C ((((ab ((cx kc) - (wx kw))) + (ab ((cy kc) - (wy kw)))) + 2) * (((ab ((cx kc) - (wx kw))) + (ab ((cy kc) - (wy kw)))) + 2)) dX0_signalOf_43 rfl ?_
  refine g_idiv C (16000 / ((((ab ((cx kc) - (wx kw))) + (ab ((cy kc) - (wy kw)))) + 2) * (((ab ((cx kc) - (wx kw))) + (ab ((cy kc) - (wy kw)))) + 2))) dX0_signalOf_44 hd rfl ?_
  exact g_iret C hret dX0_signalOf_45 (Nat.le_of_ble_eq_true rfl) (Nat.le_of_ble_eq_true rfl) ⟨rfl, rfl⟩
theorem iX0_disturbances_X0 : ∀ w ∈ u_ws RX0 TX0 13, w ∈ wsX0_disturbances := by decide +kernel
set_option maxHeartbeats 1000000 in
set_option maxRecDepth 100000 in
/-- the disturbances of a cell for a walker -/
theorem t_X0_disturbances {l : Launch} {D : va_G} {cI cZ cJ cG cW : ClassId} {a r : Nat → Nat} {nc nw : Nat} {cx cy ch rm on wx wy dm sv mu : Nat → Int32} {qq : Nat → Nat → Int32} {kc kw : Nat} (h5 : nc ≤ 5) (hc : kc < nc) (h6 : kw < 6) (hg : ∀ u, u < nc → ¬ dsq (cx u) (cy u) (wx kw) (wy kw) = 0) : CtI l yX0_disturbances wsX0_disturbances 2 63 0 0 D (T5 cI cZ cJ cG cW) [.ref (a 0), .int (nI kc), .int (nI kw)] (wL cI cZ cG a r nc nw cx cy ch rm on wx wy dm sv mu qq) (fun rv wv => rv = fdi ch on mu (sgw cx cy wx wy kw) kc nc ∧ wv = (wL cI cZ cG a r nc nw cx cy ch rm on wx wy dm sv mu qq)) := by
  refine ctI_of (cc := cX0_disturbances) (maxL := 5) RX0 2 [some (.ref (a 0)), some (.int (nI kc)), some (.int (nI kw)), none, none] (by decide +kernel) rfl rfl (Nat.le_of_ble_eq_true rfl) rfl (fun p_ e_ s_ m_ as_ bl_ me_ co_ C hret => ?_)
  have f18 := C.ts (.fieldLink RX0 18 "CellPlanner$Land" "channel" "[I") (by decide +kernel)
  have f24 := C.ts (.fieldLink RX0 24 "CellPlanner$Land" "on" "[Z") (by decide +kernel)
  have f40 := C.ts (.fieldLink RX0 40 "CellPlanner$Land" "measuredUse" "[I") (by decide +kernel)
  have f48 := C.ts (.fieldLink RX0 48 "CellPlanner$Land" "cells" "I") (by decide +kernel)
  refine g_iconst C 0 dX0_disturbances_0 (by decide +kernel) ?_
  refine g_istore_n C [some (.ref (a 0)), some (.int (nI kc)), some (.int (nI kw)), some (.int 0), none] dX0_disturbances_1 (by decide) rfl rfl ?_
  refine g_iconst C 0 dX0_disturbances_2 (by decide +kernel) ?_
  refine g_istore C [some (.ref (a 0)), some (.int (nI kc)), some (.int (nI kw)), some (.int 0), some (.int 0)] dX0_disturbances_3 (by decide) rfl rfl ?_
  refine g_loop2 0 0 (fun (i : Nat) (x : Int32) => i ≤ nc ∧ x = fdi ch on mu (sgw cx cy wx wy kw) kc i) (fun (i : Nat) (x : Int32) => (wL cI cZ cG a r nc nw cx cy ch rm on wx wy dm sv mu qq)) (fun (i : Nat) (x : Int32) => [some (.ref (a 0)), some (.int (nI kc)), some (.int (nI kw)), some (.int x), some (.int (nI i))]) (fun (i : Nat) (x : Int32) => nc - i) ⟨Nat.zero_le _, rfl⟩ rfl rfl (fun i x hI ih => ?_)
  obtain ⟨h1, h2⟩ := hI
  refine g_iload C dX0_disturbances_5 rfl ?_
  refine g_aload_n C dX0_disturbances_7 rfl ?_
  refine g_get C 0 iX0_disturbances_X0 rfl rfl 5 (by decide) f48 rfl dX0_disturbances_8 ?_
  refine g_icmp_ge C 73 dX0_disturbances_11 (by decide) (fun c_11 => ?_) (fun c_11 => ?_)
  · skip
    have c_11 : nc ≤ i := (nI_leI (by omega) (by omega)).mp c_11
    refine g_iload_n C dX0_disturbances_73 rfl ?_
    exact g_iret C hret dX0_disturbances_74 (Nat.le_of_ble_eq_true rfl) (Nat.le_of_ble_eq_true rfl) ⟨(by rw [h2, show i = nc by omega]), rfl⟩
  · skip
    have c_11 : ¬ (nc ≤ i) := fun h9 => c_11 ((nI_leI (by omega) (by omega)).mpr h9)
    refine g_iload C dX0_disturbances_14 rfl ?_
    refine g_iload_n C dX0_disturbances_16 rfl ?_
    refine g_icmp_eq C 67 dX0_disturbances_17 (by decide) (fun c_17 => ?_) (fun c_17 => ?_)
    · skip
      have c_17 : i = kc := (nI_eq (by omega) (by omega)).mp c_17
      refine g_iinc C (nI (i + 1)) [some (.ref (a 0)), some (.int (nI kc)), some (.int (nI kw)), some (.int x), some (.int (nI (i + 1)))] dX0_disturbances_67 rfl (nI_1 i) (by decide) rfl rfl ?_
      refine g_goto C 5 dX0_disturbances_70 (by decide) ?_
      exact ih (i + 1) x ⟨by omega, by first | rw [fdi, if_pos c_17, h2] | rw [fdi, if_neg c_17, if_pos c_27, h2] | rw [fdi, if_neg c_17, if_neg c_27, if_neg c_43, h2]⟩ (by omega)
    · skip
      have c_17 : ¬ (i = kc) := fun h9 => c_17 ((nI_eq (by omega) (by omega)).mpr h9)
      refine g_aload_n C dX0_disturbances_20 rfl ?_
      refine g_get C 0 iX0_disturbances_X0 rfl rfl 4 (by decide) f24 rfl dX0_disturbances_21 ?_
      refine g_iload C dX0_disturbances_24 rfl ?_
      refine g_zald C 5 1 rfl rfl i rfl (by omega) (by decide) (on i) rfl dX0_disturbances_26 ?_
      refine g_if_eq C 67 dX0_disturbances_27 (by decide) (fun c_27 => ?_) (fun c_27 => ?_)
      · skip
        refine g_iinc C (nI (i + 1)) [some (.ref (a 0)), some (.int (nI kc)), some (.int (nI kw)), some (.int x), some (.int (nI (i + 1)))] dX0_disturbances_67 rfl (nI_1 i) (by decide) rfl rfl ?_
        refine g_goto C 5 dX0_disturbances_70 (by decide) ?_
        exact ih (i + 1) x ⟨by omega, by first | rw [fdi, if_pos c_17, h2] | rw [fdi, if_neg c_17, if_pos c_27, h2] | rw [fdi, if_neg c_17, if_neg c_27, if_neg c_43, h2]⟩ (by omega)
      · skip
        refine g_aload_n C dX0_disturbances_30 rfl ?_
        refine g_get C 0 iX0_disturbances_X0 rfl rfl 2 (by decide) f18 rfl dX0_disturbances_31 ?_
        refine g_iload C dX0_disturbances_34 rfl ?_
        refine g_iald C 3 0 rfl rfl i rfl (by omega) (by decide) (ch i) rfl dX0_disturbances_36 ?_
        refine g_aload_n C dX0_disturbances_37 rfl ?_
        refine g_get C 0 iX0_disturbances_X0 rfl rfl 2 (by decide) f18 rfl dX0_disturbances_38 ?_
        refine g_iload_n C dX0_disturbances_41 rfl ?_
        refine g_iald C 3 0 rfl rfl kc rfl (by omega) (by decide) (ch kc) rfl dX0_disturbances_42 ?_
        refine g_icmp_ne C 67 dX0_disturbances_43 (by decide) (fun c_43 => ?_) (fun c_43 => ?_)
        · skip
          refine g_iinc C (nI (i + 1)) [some (.ref (a 0)), some (.int (nI kc)), some (.int (nI kw)), some (.int x), some (.int (nI (i + 1)))] dX0_disturbances_67 rfl (nI_1 i) (by decide) rfl rfl ?_
          refine g_goto C 5 dX0_disturbances_70 (by decide) ?_
          exact ih (i + 1) x ⟨by omega, by first | rw [fdi, if_pos c_17, h2] | rw [fdi, if_neg c_17, if_pos c_27, h2] | rw [fdi, if_neg c_17, if_neg c_27, if_neg c_43, h2]⟩ (by omega)
        · skip
          refine g_iload_n C dX0_disturbances_46 rfl ?_
          refine g_aload_n C dX0_disturbances_47 rfl ?_
          refine g_iload C dX0_disturbances_48 rfl ?_
          refine g_iload_n C dX0_disturbances_50 rfl ?_
          refine g_callVi C [] (wL cI cZ cG a r nc nw cx cy ch rm on wx wy dm sv mu qq) [.int (nI i), .int (nI kw)] (t_X0_signalOf (by omega) h6 (hg i (by omega))) rfl rfl (cwV 2 C.ts gX0_disturbances_X0_signalOf rfl rfl rfl (by decide +kernel) ⟨Nat.le_of_ble_eq_true rfl, Nat.le_of_ble_eq_true rfl⟩) rfl rfl rfl (Nat.le_of_ble_eq_true rfl) dX0_disturbances_51 ⟨Nat.le_of_ble_eq_true rfl, Nat.le_of_ble_eq_true rfl⟩ (fun rv1 wv1 hp1 => ?_)
          obtain ⟨rfl, rfl⟩ := hp1
          refine g_aload_n C dX0_disturbances_54 rfl ?_
          refine g_get C 0 iX0_disturbances_X0 rfl rfl 11 (by decide) f40 rfl dX0_disturbances_55 ?_
          refine g_iload C dX0_disturbances_58 rfl ?_
          refine g_iald C 10 0 rfl rfl i rfl (by omega) (by decide) (mu i) rfl dX0_disturbances_60 ?_
          refine g_imul C ((sg cx cy wx wy i kw) * (mu i)) dX0_disturbances_61 rfl ?_
          refine g_bipush C 100 dX0_disturbances_62 (by decide +kernel) ?_
          refine g_idiv C (((sg cx cy wx wy i kw) * (mu i)) / 100) dX0_disturbances_64 (by decide) rfl ?_
          refine g_iadd C (x + (((sg cx cy wx wy i kw) * (mu i)) / 100)) dX0_disturbances_65 rfl ?_
          refine g_istore_n C [some (.ref (a 0)), some (.int (nI kc)), some (.int (nI kw)), some (.int (x + (((sg cx cy wx wy i kw) * (mu i)) / 100))), some (.int (nI i))] dX0_disturbances_66 (by decide) rfl rfl ?_
          refine g_iinc C (nI (i + 1)) [some (.ref (a 0)), some (.int (nI kc)), some (.int (nI kw)), some (.int (x + (((sg cx cy wx wy i kw) * (mu i)) / 100))), some (.int (nI (i + 1)))] dX0_disturbances_67 rfl (nI_1 i) (by decide) rfl rfl ?_
          refine g_goto C 5 dX0_disturbances_70 (by decide) ?_
          exact ih (i + 1) (x + (((sg cx cy wx wy i kw) * (mu i)) / 100)) ⟨by omega, by rw [fdi, if_neg c_17, if_neg c_27, if_pos c_43, h2] <;> rfl⟩ (by omega)
theorem iX0_measure_X0 : ∀ w ∈ u_ws RX0 TX0 13, w ∈ wsX0_measure := by decide +kernel
set_option maxHeartbeats 1000000 in
set_option maxRecDepth 100000 in
/-- all uses and qualities of now -/
theorem t_X0_measure {l : Launch} {D : va_G} {cI cZ cJ cG cW : ClassId} {a r : Nat → Nat} {nc nw : Nat} {cx cy ch rm on wx wy dm sv mu : Nat → Int32} {qq : Nat → Nat → Int32}  (h5 : nc ≤ 5) (h6 : nw ≤ 6) (hr : ∀ c, c < nc → ¬ rm c ≤ 0) (hg : ∀ c w, c < nc → w < nw → ¬ dsq (cx c) (cy c) (wx w) (wy w) = 0) (hq : ∀ c w, c < nc → w < nw → ¬ 10 + fdi ch on (fil nc (fus rm sv dm nw) mu) (sgw cx cy wx wy w) c nc = 0) : CtV l yX0_measure wsX0_measure 3 87 0 0 D (T5 cI cZ cJ cG cW) [.ref (a 0)] (wL cI cZ cG a r nc nw cx cy ch rm on wx wy dm sv mu qq) (fun wv tv => wv = (wL cI cZ cG a r nc nw cx cy ch rm on wx wy dm sv (fil nc (fus rm sv dm nw) mu) (fil2 nw nc (fun w c => fqu cx cy ch on wx wy (fil nc (fus rm sv dm nw) mu) nc w c) qq)) ∧ tv = (T5 cI cZ cJ cG cW)) := by
  refine ctV_of (cc := cX0_measure) (maxL := 3) RX0 2 [some (.ref (a 0)), none, none] (by decide +kernel) rfl rfl (Nat.le_of_ble_eq_true rfl) rfl (fun p_ e_ s_ m_ as_ bl_ me_ co_ C hret hini => ?_)
  have f40 := C.ts (.fieldLink RX0 40 "CellPlanner$Land" "measuredUse" "[I") (by decide +kernel)
  have f45 := C.ts (.fieldLink RX0 45 "CellPlanner$Land" "quality" "[[I") (by decide +kernel)
  have f48 := C.ts (.fieldLink RX0 48 "CellPlanner$Land" "cells" "I") (by decide +kernel)
  have f52 := C.ts (.fieldLink RX0 52 "CellPlanner$Land" "walkers" "I") (by decide +kernel)
  refine g_iconst C 0 dX0_measure_0 (by decide +kernel) ?_
  refine g_istore_n C [some (.ref (a 0)), some (.int 0), none] dX0_measure_1 (by decide) rfl rfl ?_
  refine g_loop2 0 mu (fun (i : Nat) (M : Nat → Int32) => i ≤ nc ∧ ∀ j, M j = if j < i then fus rm sv dm nw j else mu j) (fun (i : Nat) (M : Nat → Int32) => (wL cI cZ cG a r nc nw cx cy ch rm on wx wy dm sv M qq)) (fun (i : Nat) (M : Nat → Int32) => [some (.ref (a 0)), some (.int (nI i)), none]) (fun (i : Nat) (M : Nat → Int32) => nc - i) ⟨Nat.zero_le _, fun j => (if_neg (Nat.not_lt_zero j)).symm⟩ rfl rfl (fun i M hI ih => ?_)
  obtain ⟨h1, h2⟩ := hI
  refine g_iload_n C dX0_measure_2 rfl ?_
  refine g_aload_n C dX0_measure_3 rfl ?_
  refine g_get C 0 iX0_measure_X0 rfl rfl 5 (by decide) f48 rfl dX0_measure_4 ?_
  refine g_icmp_ge C 27 dX0_measure_7 (by decide) (fun c_7 => ?_) (fun c_7 => ?_)
  · skip
    have c_7 : nc ≤ i := (nI_leI (by omega) (by omega)).mp c_7
    have hM : M = (fil nc (fus rm sv dm nw) mu) := funext fun j => by rw [h2, show i = nc by omega]; rfl
    subst hM
    refine g_iconst C 0 dX0_measure_27 (by decide +kernel) ?_
    refine g_istore_n C [some (.ref (a 0)), some (.int 0), none] dX0_measure_28 (by decide) rfl rfl ?_
    refine g_loop2 0 qq (fun (u : Nat) (Z : Nat → Nat → Int32) => u ≤ nw ∧ ∀ j c, Z j c = if j < u ∧ c < nc then fqu cx cy ch on wx wy (fil nc (fus rm sv dm nw) mu) nc j c else qq j c) (fun (u : Nat) (Z : Nat → Nat → Int32) => (wL cI cZ cG a r nc nw cx cy ch rm on wx wy dm sv (fil nc (fus rm sv dm nw) mu) Z)) (fun (u : Nat) (Z : Nat → Nat → Int32) => [some (.ref (a 0)), some (.int (nI u)), none]) (fun (u : Nat) (Z : Nat → Nat → Int32) => nw - u) ⟨Nat.zero_le _, fun j c => (if_neg (fun h => Nat.not_lt_zero _ h.1)).symm⟩ rfl rfl (fun u Z hI2 ih2 => ?_)
    obtain ⟨g1, g2⟩ := hI2
    refine g_iload_n C dX0_measure_29 rfl ?_
    refine g_aload_n C dX0_measure_30 rfl ?_
    refine g_get C 0 iX0_measure_X0 rfl rfl 10 (by decide) f52 rfl dX0_measure_31 ?_
    refine g_icmp_ge C 86 dX0_measure_34 (by decide) (fun c_34 => ?_) (fun c_34 => ?_)
    · skip
      have c_34 : nw ≤ u := (nI_leI (by omega) (by omega)).mp c_34
      exact g_vret C hret dX0_measure_86 (Nat.le_of_ble_eq_true rfl) (Nat.le_of_ble_eq_true rfl) ⟨(by rw [show Z = (fil2 nw nc (fun w c => fqu cx cy ch on wx wy (fil nc (fus rm sv dm nw) mu) nc w c) qq) from funext fun j => funext fun c => by rw [g2, show u = nw by omega]; rfl]), rfl⟩
    · skip
      have c_34 : ¬ (nw ≤ u) := fun h9 => c_34 ((nI_leI (by omega) (by omega)).mpr h9)
      refine g_iconst C 0 dX0_measure_37 (by decide +kernel) ?_
      refine g_istore_n C [some (.ref (a 0)), some (.int (nI u)), some (.int 0)] dX0_measure_38 (by decide) rfl rfl ?_
      refine g_loop2 0 Z (fun (v : Nat) (Y : Nat → Nat → Int32) => v ≤ nc ∧ ∀ j c, Y j c = if j = u ∧ c < v then fqu cx cy ch on wx wy (fil nc (fus rm sv dm nw) mu) nc u c else Z j c) (fun (v : Nat) (Y : Nat → Nat → Int32) => (wL cI cZ cG a r nc nw cx cy ch rm on wx wy dm sv (fil nc (fus rm sv dm nw) mu) Y)) (fun (v : Nat) (Y : Nat → Nat → Int32) => [some (.ref (a 0)), some (.int (nI u)), some (.int (nI v))]) (fun (v : Nat) (Y : Nat → Nat → Int32) => nc - v) ⟨Nat.zero_le _, fun j c => (if_neg (fun h => Nat.not_lt_zero _ h.2)).symm⟩ rfl rfl (fun v Y hI3 ih3 => ?_)
      obtain ⟨e1, e2⟩ := hI3
      refine g_iload_n C dX0_measure_39 rfl ?_
      refine g_aload_n C dX0_measure_40 rfl ?_
      refine g_get C 0 iX0_measure_X0 rfl rfl 5 (by decide) f48 rfl dX0_measure_41 ?_
      refine g_icmp_ge C 80 dX0_measure_44 (by decide) (fun c_44 => ?_) (fun c_44 => ?_)
      · skip
        have c_44 : nc ≤ v := (nI_leI (by omega) (by omega)).mp c_44
        refine g_iinc C (nI (u + 1)) [some (.ref (a 0)), some (.int (nI (u + 1))), some (.int (nI v))] dX0_measure_80 rfl (nI_1 u) (by decide) rfl rfl ?_
        refine g_goto C 29 dX0_measure_83 (by decide) ?_
        refine g_mask [true, true, false] rfl ?_
        exact ih2 (u + 1) Y ⟨by omega, fil2_row (by omega) g2 e2⟩ (by omega)
      · skip
        have c_44 : ¬ (nc ≤ v) := fun h9 => c_44 ((nI_leI (by omega) (by omega)).mpr h9)
        refine g_aload_n C dX0_measure_47 rfl ?_
        refine g_get C 0 iX0_measure_X0 rfl rfl 12 (by decide) f45 rfl dX0_measure_48 ?_
        refine g_iload_n C dX0_measure_51 rfl ?_
        refine g_aald C 11 3 rfl rfl u rfl (by omega) (by decide) (r u) (if_pos (by omega)) dX0_measure_52 ?_
        refine g_iload_n C dX0_measure_53 rfl ?_
        refine g_bipush C 100 dX0_measure_54 (by decide +kernel) ?_
        refine g_aload_n C dX0_measure_56 rfl ?_
        refine g_iload_n C dX0_measure_57 rfl ?_
        refine g_iload_n C dX0_measure_58 rfl ?_
        refine g_callVi C [] (wL cI cZ cG a r nc nw cx cy ch rm on wx wy dm sv (fil nc (fus rm sv dm nw) mu) Y) [.int (nI v), .int (nI u)] (t_X0_signalOf (by omega) (by omega) (hg v u (by omega) (by omega))) rfl rfl (cwV 2 C.ts gX0_measure_X0_signalOf rfl rfl rfl (by decide +kernel) ⟨Nat.le_of_ble_eq_true rfl, Nat.le_of_ble_eq_true rfl⟩) rfl rfl rfl (Nat.le_of_ble_eq_true rfl) dX0_measure_59 ⟨Nat.le_of_ble_eq_true rfl, Nat.le_of_ble_eq_true rfl⟩ (fun rv1 wv1 hp1 => ?_)
        obtain ⟨rfl, rfl⟩ := hp1
        refine g_imul C (100 * (sg cx cy wx wy v u)) dX0_measure_62 rfl ?_
        refine g_bipush C 10 dX0_measure_63 (by decide +kernel) ?_
        refine g_aload_n C dX0_measure_65 rfl ?_
        refine g_iload_n C dX0_measure_66 rfl ?_
        refine g_iload_n C dX0_measure_67 rfl ?_
        refine g_callVi C [] (wL cI cZ cG a r nc nw cx cy ch rm on wx wy dm sv (fil nc (fus rm sv dm nw) mu) Y) [.int (nI v), .int (nI u)] (t_X0_disturbances h5 (by omega) (by omega) (fun o ho => hg o u ho (by omega))) rfl rfl (cwV 2 C.ts gX0_measure_X0_disturbances rfl rfl rfl (by decide +kernel) ⟨Nat.le_of_ble_eq_true rfl, Nat.le_of_ble_eq_true rfl⟩) rfl rfl rfl (Nat.le_of_ble_eq_true rfl) dX0_measure_68 ⟨Nat.le_of_ble_eq_true rfl, Nat.le_of_ble_eq_true rfl⟩ (fun rv2 wv2 hp2 => ?_)
        obtain ⟨rfl, rfl⟩ := hp2
        refine g_iadd C (10 + (fdi ch on (fil nc (fus rm sv dm nw) mu) (sgw cx cy wx wy u) v nc)) dX0_measure_71 rfl ?_
        refine g_idiv C ((100 * (sg cx cy wx wy v u)) / (10 + (fdi ch on (fil nc (fus rm sv dm nw) mu) (sgw cx cy wx wy u) v nc))) dX0_measure_72 (hq v u (by omega) (by omega)) rfl ?_
        refine g_iast C (12 + u) 0 (wL_row (by omega)) rfl v rfl (by omega) (by decide) (wL cI cZ cG a r nc nw cx cy ch rm on wx wy dm sv (fil nc (fus rm sv dm nw) mu) (up2 Y u v ((100 * (sg cx cy wx wy v u)) / (10 + (fdi ch on (fil nc (fus rm sv dm nw) mu) (sgw cx cy wx wy u) v nc))))) (wL_set (by omega)) dX0_measure_73 ?_
        refine g_iinc C (nI (v + 1)) [some (.ref (a 0)), some (.int (nI u)), some (.int (nI (v + 1)))] dX0_measure_74 rfl (nI_1 v) (by decide) rfl rfl ?_
        refine g_goto C 39 dX0_measure_77 (by decide) ?_
        exact ih3 (v + 1) (up2 Y u v ((100 * (sg cx cy wx wy v u)) / (10 + (fdi ch on (fil nc (fus rm sv dm nw) mu) (sgw cx cy wx wy u) v nc)))) ⟨by omega, fil2_cell e2 rfl⟩ (by omega)
  · skip
    have c_7 : ¬ (nc ≤ i) := fun h9 => c_7 ((nI_leI (by omega) (by omega)).mpr h9)
    refine g_aload_n C dX0_measure_10 rfl ?_
    refine g_get C 0 iX0_measure_X0 rfl rfl 11 (by decide) f40 rfl dX0_measure_11 ?_
    refine g_iload_n C dX0_measure_14 rfl ?_
    refine g_aload_n C dX0_measure_15 rfl ?_
    refine g_iload_n C dX0_measure_16 rfl ?_
    refine g_callVi C [] (wL cI cZ cG a r nc nw cx cy ch rm on wx wy dm sv M qq) [.int (nI i)] (t_X0_useOf h6 (by omega) (hr i (by omega))) rfl rfl (cwV 1 C.ts gX0_measure_X0_useOf rfl rfl rfl (by decide +kernel) ⟨Nat.le_of_ble_eq_true rfl, Nat.le_of_ble_eq_true rfl⟩) rfl rfl rfl (Nat.le_of_ble_eq_true rfl) dX0_measure_17 ⟨Nat.le_of_ble_eq_true rfl, Nat.le_of_ble_eq_true rfl⟩ (fun rv3 wv3 hp3 => ?_)
    obtain ⟨rfl, rfl⟩ := hp3
    refine g_iast C 10 0 rfl rfl i rfl (by omega) (by decide) (wL cI cZ cG a r nc nw cx cy ch rm on wx wy dm sv (upd M i (fus rm sv dm nw i)) qq) rfl dX0_measure_20 ?_
    refine g_iinc C (nI (i + 1)) [some (.ref (a 0)), some (.int (nI (i + 1))), none] dX0_measure_21 rfl (nI_1 i) (by decide) rfl rfl ?_
    refine g_goto C 2 dX0_measure_24 (by decide) ?_
    exact ih (i + 1) (upd M i (fus rm sv dm nw i)) ⟨by omega, fil_step h2 rfl⟩ (by omega)
theorem iX0_couldTake_X0 : ∀ w ∈ u_ws RX0 TX0 13, w ∈ wsX0_couldTake := by decide +kernel
set_option maxHeartbeats 1000000 in
set_option maxRecDepth 100000 in
/-- whether a cell could take a walker -/
theorem t_X0_couldTake {l : Launch} {D : va_G} {cI cZ cJ cG cW : ClassId} {a r : Nat → Nat} {nc nw : Nat} {cx cy ch rm on wx wy dm sv mu : Nat → Int32} {qq : Nat → Nat → Int32} {kc kw : Nat} (h5 : kc < 5) (h6 : nw ≤ 6) (hw : kw < 6) : CtI l yX0_couldTake wsX0_couldTake 1 23 0 0 D (T5 cI cZ cJ cG cW) [.ref (a 0), .int (nI kc), .int (nI kw)] (wL cI cZ cG a r nc nw cx cy ch rm on wx wy dm sv mu qq) (fun rv wv => rv = ftk on sv dm rm nw kw kc ∧ wv = (wL cI cZ cG a r nc nw cx cy ch rm on wx wy dm sv mu qq)) := by
  refine ctI_of (cc := cX0_couldTake) (maxL := 3) RX0 0 [some (.ref (a 0)), some (.int (nI kc)), some (.int (nI kw))] (by decide +kernel) rfl rfl (Nat.le_of_ble_eq_true rfl) rfl (fun p_ e_ s_ m_ as_ bl_ me_ co_ C hret => ?_)
  have f21 := C.ts (.fieldLink RX0 21 "CellPlanner$Land" "room" "[I") (by decide +kernel)
  have f24 := C.ts (.fieldLink RX0 24 "CellPlanner$Land" "on" "[Z") (by decide +kernel)
  have f34 := C.ts (.fieldLink RX0 34 "CellPlanner$Land" "demand" "[I") (by decide +kernel)
  have f37 := C.ts (.fieldLink RX0 37 "CellPlanner$Land" "server" "[I") (by decide +kernel)
  refine g_aload_n C dX0_couldTake_0 rfl ?_
  refine g_get C 0 iX0_couldTake_X0 rfl rfl 4 (by decide) f24 rfl dX0_couldTake_1 ?_
  refine g_iload_n C dX0_couldTake_4 rfl ?_
  refine g_zald C 5 1 rfl rfl kc rfl (by omega) (by decide) (on kc) rfl dX0_couldTake_5 ?_
  refine g_if_eq C 44 dX0_couldTake_6 (by decide) (fun c_6 => ?_) (fun c_6 => ?_)
  · skip
    refine g_iconst C 0 dX0_couldTake_44 (by decide +kernel) ?_
    exact g_zret C hret rfl dX0_couldTake_45 (Nat.le_of_ble_eq_true rfl) (Nat.le_of_ble_eq_true rfl) ⟨(by unfold ftk; simp_all), rfl⟩
  · skip
    refine g_aload_n C dX0_couldTake_9 rfl ?_
    refine g_get C 0 iX0_couldTake_X0 rfl rfl 9 (by decide) f37 rfl dX0_couldTake_10 ?_
    refine g_iload_n C dX0_couldTake_13 rfl ?_
    refine g_iald C 9 0 rfl rfl kw rfl (by omega) (by decide) (sv kw) rfl dX0_couldTake_14 ?_
    refine g_iload_n C dX0_couldTake_15 rfl ?_
    refine g_icmp_eq C 44 dX0_couldTake_16 (by decide) (fun c_16 => ?_) (fun c_16 => ?_)
    · skip
      refine g_iconst C 0 dX0_couldTake_44 (by decide +kernel) ?_
      exact g_zret C hret rfl dX0_couldTake_45 (Nat.le_of_ble_eq_true rfl) (Nat.le_of_ble_eq_true rfl) ⟨(by unfold ftk; simp_all), rfl⟩
    · skip
      refine g_aload_n C dX0_couldTake_19 rfl ?_
      refine g_iload_n C dX0_couldTake_20 rfl ?_
      refine g_callVi C [] (wL cI cZ cG a r nc nw cx cy ch rm on wx wy dm sv mu qq) [.int (nI kc)] (t_X0_loadOf h6) rfl rfl (cwV 1 C.ts gX0_couldTake_X0_loadOf rfl rfl rfl (by decide +kernel) ⟨Nat.le_of_ble_eq_true rfl, Nat.le_of_ble_eq_true rfl⟩) rfl rfl rfl (Nat.le_of_ble_eq_true rfl) dX0_couldTake_21 ⟨Nat.le_of_ble_eq_true rfl, Nat.le_of_ble_eq_true rfl⟩ (fun rv1 wv1 hp1 => ?_)
      obtain ⟨rfl, rfl⟩ := hp1
      refine g_aload_n C dX0_couldTake_24 rfl ?_
      refine g_get C 0 iX0_couldTake_X0 rfl rfl 8 (by decide) f34 rfl dX0_couldTake_25 ?_
      refine g_iload_n C dX0_couldTake_28 rfl ?_
      refine g_iald C 8 0 rfl rfl kw rfl (by omega) (by decide) (dm kw) rfl dX0_couldTake_29 ?_
      refine g_iadd C ((fld sv dm (nI kc) nw) + (dm kw)) dX0_couldTake_30 rfl ?_
      refine g_aload_n C dX0_couldTake_31 rfl ?_
      refine g_get C 0 iX0_couldTake_X0 rfl rfl 3 (by decide) f21 rfl dX0_couldTake_32 ?_
      refine g_iload_n C dX0_couldTake_35 rfl ?_
      refine g_iald C 4 0 rfl rfl kc rfl (by omega) (by decide) (rm kc) rfl dX0_couldTake_36 ?_
      refine g_icmp_gt C 44 dX0_couldTake_37 (by decide) (fun c_37 => ?_) (fun c_37 => ?_)
      · skip
        refine g_iconst C 0 dX0_couldTake_44 (by decide +kernel) ?_
        exact g_zret C hret rfl dX0_couldTake_45 (Nat.le_of_ble_eq_true rfl) (Nat.le_of_ble_eq_true rfl) ⟨(by unfold ftk; simp_all), rfl⟩
      · skip
        refine g_iconst C 1 dX0_couldTake_40 (by decide +kernel) ?_
        refine g_goto C 45 dX0_couldTake_41 (by decide) ?_
        exact g_zret C hret rfl dX0_couldTake_45 (Nat.le_of_ble_eq_true rfl) (Nat.le_of_ble_eq_true rfl) ⟨(by unfold ftk; simp_all), rfl⟩
theorem iX0_bestOther_X0 : ∀ w ∈ u_ws RX0 TX0 13, w ∈ wsX0_bestOther := by decide +kernel
set_option maxHeartbeats 1000000 in
set_option maxRecDepth 100000 in
/-- the best other cell for a walker -/
theorem t_X0_bestOther {l : Launch} {D : va_G} {cI cZ cJ cG cW : ClassId} {a r : Nat → Nat} {nc nw : Nat} {cx cy ch rm on wx wy dm sv mu : Nat → Int32} {qq : Nat → Nat → Int32} {kw : Nat} (h5 : nc ≤ 5) (h6 : nw ≤ 6) (hw : kw < 6) : CtI l yX0_bestOther wsX0_bestOther 2 45 0 0 D (T5 cI cZ cJ cG cW) [.ref (a 0), .int (nI kw)] (wL cI cZ cG a r nc nw cx cy ch rm on wx wy dm sv mu qq) (fun rv wv => rv = en (fbo (fun u => ftk on sv dm rm nw kw u) (qq kw) nc) ∧ wv = (wL cI cZ cG a r nc nw cx cy ch rm on wx wy dm sv mu qq)) := by
  refine ctI_of (cc := cX0_bestOther) (maxL := 4) RX0 2 [some (.ref (a 0)), some (.int (nI kw)), none, none] (by decide +kernel) rfl rfl (Nat.le_of_ble_eq_true rfl) rfl (fun p_ e_ s_ m_ as_ bl_ me_ co_ C hret => ?_)
  have f45 := C.ts (.fieldLink RX0 45 "CellPlanner$Land" "quality" "[[I") (by decide +kernel)
  have f48 := C.ts (.fieldLink RX0 48 "CellPlanner$Land" "cells" "I") (by decide +kernel)
  refine g_iconst C (-1) dX0_bestOther_0 (by decide +kernel) ?_
  refine g_istore_n C [some (.ref (a 0)), some (.int (nI kw)), some (.int ((-1))), none] dX0_bestOther_1 (by decide) rfl rfl ?_
  refine g_iconst C 0 dX0_bestOther_2 (by decide +kernel) ?_
  refine g_istore_n C [some (.ref (a 0)), some (.int (nI kw)), some (.int ((-1))), some (.int 0)] dX0_bestOther_3 (by decide) rfl rfl ?_
  refine g_loop2 0 none (fun (i : Nat) (y : Option Nat) => i ≤ nc ∧ y = fbo (fun u => ftk on sv dm rm nw kw u) (qq kw) i) (fun (i : Nat) (y : Option Nat) => (wL cI cZ cG a r nc nw cx cy ch rm on wx wy dm sv mu qq)) (fun (i : Nat) (y : Option Nat) => [some (.ref (a 0)), some (.int (nI kw)), some (.int (en y)), some (.int (nI i))]) (fun (i : Nat) (y : Option Nat) => nc - i) ⟨Nat.zero_le _, rfl⟩ rfl rfl (fun i y hI ih => ?_)
  obtain ⟨h1, h2⟩ := hI
  have h3 : ∀ z, y = some z → z < i := fun z hb => fbo_lt (h2 ▸ hb)
  refine g_iload_n C dX0_bestOther_4 rfl ?_
  refine g_aload_n C dX0_bestOther_5 rfl ?_
  refine g_get C 0 iX0_bestOther_X0 rfl rfl 5 (by decide) f48 rfl dX0_bestOther_6 ?_
  refine g_icmp_ge C 53 dX0_bestOther_9 (by decide) (fun c_9 => ?_) (fun c_9 => ?_)
  · skip
    have c_9 : nc ≤ i := (nI_leI (by omega) (by omega)).mp c_9
    refine g_iload_n C dX0_bestOther_53 rfl ?_
    exact g_iret C hret dX0_bestOther_54 (Nat.le_of_ble_eq_true rfl) (Nat.le_of_ble_eq_true rfl) ⟨(by rw [h2, show i = nc by omega]), rfl⟩
  · skip
    have c_9 : ¬ (nc ≤ i) := fun h9 => c_9 ((nI_leI (by omega) (by omega)).mpr h9)
    refine g_aload_n C dX0_bestOther_12 rfl ?_
    refine g_iload_n C dX0_bestOther_13 rfl ?_
    refine g_iload_n C dX0_bestOther_14 rfl ?_
    refine g_callVi C [] (wL cI cZ cG a r nc nw cx cy ch rm on wx wy dm sv mu qq) [.int (nI i), .int (nI kw)] (t_X0_couldTake (by omega) h6 hw) rfl rfl (cwV 2 C.ts gX0_bestOther_X0_couldTake rfl rfl rfl (by decide +kernel) ⟨Nat.le_of_ble_eq_true rfl, Nat.le_of_ble_eq_true rfl⟩) rfl rfl rfl (Nat.le_of_ble_eq_true rfl) dX0_bestOther_15 ⟨Nat.le_of_ble_eq_true rfl, Nat.le_of_ble_eq_true rfl⟩ (fun rv1 wv1 hp1 => ?_)
    obtain ⟨rfl, rfl⟩ := hp1
    refine g_if_eq C 47 dX0_bestOther_18 (by decide) (fun c_18 => ?_) (fun c_18 => ?_)
    · skip
      refine g_iinc C (nI (i + 1)) [some (.ref (a 0)), some (.int (nI kw)), some (.int (en y)), some (.int (nI (i + 1)))] dX0_bestOther_47 rfl (nI_1 i) (by decide) rfl rfl ?_
      refine g_goto C 4 dX0_bestOther_50 (by decide) ?_
      exact ih (i + 1) y ⟨by omega, by unfold fbo; first | rw [if_pos c_18, h2] | (rw [if_neg c_18, ← h2, hb]; exact (if_pos c_42).symm) | (rw [if_neg c_18, ← h2, hb]; exact (if_neg c_42).symm) | (rw [if_neg c_18, ← h2, hb0])⟩ (by omega)
    · skip
      refine g_iload_n C dX0_bestOther_21 rfl ?_
      refine g_iconst C (-1) dX0_bestOther_22 (by decide +kernel) ?_
      refine g_icmp_eq C 45 dX0_bestOther_23 (by decide) (fun c_23 => ?_) (fun c_23 => ?_)
      · skip
        have hb0 : y = none := en_none (fun z hb => by have := h3 z hb; omega) c_23
        refine g_iload_n C dX0_bestOther_45 rfl ?_
        refine g_istore_n C [some (.ref (a 0)), some (.int (nI kw)), some (.int (nI i)), some (.int (nI i))] dX0_bestOther_46 (by decide) rfl rfl ?_
        refine g_iinc C (nI (i + 1)) [some (.ref (a 0)), some (.int (nI kw)), some (.int (nI i)), some (.int (nI (i + 1)))] dX0_bestOther_47 rfl (nI_1 i) (by decide) rfl rfl ?_
        refine g_goto C 4 dX0_bestOther_50 (by decide) ?_
        exact ih (i + 1) (some i) ⟨by omega, by unfold fbo; first | rw [if_pos c_18, h2] | (rw [if_neg c_18, ← h2, hb]; exact (if_pos c_42).symm) | (rw [if_neg c_18, ← h2, hb]; exact (if_neg c_42).symm) | (rw [if_neg c_18, ← h2, hb0])⟩ (by omega)
      · skip
        obtain ⟨bb, hb⟩ := en_some c_23
        have hb2 := h3 bb hb
        refine g_aload_n C dX0_bestOther_26 rfl ?_
        refine g_get C 0 iX0_bestOther_X0 rfl rfl 12 (by decide) f45 rfl dX0_bestOther_27 ?_
        refine g_iload_n C dX0_bestOther_30 rfl ?_
        refine g_aald C 11 3 rfl rfl kw rfl hw (by decide) (r kw) (if_pos hw) dX0_bestOther_31 ?_
        refine g_iload_n C dX0_bestOther_32 rfl ?_
        refine g_iald C (12 + kw) 0 (wL_row hw) rfl i rfl (by omega) (by decide) (qq kw i) rfl dX0_bestOther_33 ?_
        refine g_aload_n C dX0_bestOther_34 rfl ?_
        refine g_get C 0 iX0_bestOther_X0 rfl rfl 12 (by decide) f45 rfl dX0_bestOther_35 ?_
        refine g_iload_n C dX0_bestOther_38 rfl ?_
        refine g_aald C 11 3 rfl rfl kw rfl hw (by decide) (r kw) (if_pos hw) dX0_bestOther_39 ?_
        refine g_iload_n C dX0_bestOther_40 rfl ?_
        refine g_iald C (12 + kw) 0 (wL_row hw) rfl bb (by rw [hb]; rfl) (by omega) (by decide) (qq kw bb) rfl dX0_bestOther_41 ?_
        refine g_icmp_le C 47 dX0_bestOther_42 (by decide) (fun c_42 => ?_) (fun c_42 => ?_)
        · skip
          refine g_iinc C (nI (i + 1)) [some (.ref (a 0)), some (.int (nI kw)), some (.int (en y)), some (.int (nI (i + 1)))] dX0_bestOther_47 rfl (nI_1 i) (by decide) rfl rfl ?_
          refine g_goto C 4 dX0_bestOther_50 (by decide) ?_
          exact ih (i + 1) y ⟨by omega, by unfold fbo; first | rw [if_pos c_18, h2] | (rw [if_neg c_18, ← h2, hb]; exact (if_pos c_42).symm) | (rw [if_neg c_18, ← h2, hb]; exact (if_neg c_42).symm) | (rw [if_neg c_18, ← h2, hb0])⟩ (by omega)
        · skip
          refine g_iload_n C dX0_bestOther_45 rfl ?_
          refine g_istore_n C [some (.ref (a 0)), some (.int (nI kw)), some (.int (nI i)), some (.int (nI i))] dX0_bestOther_46 (by decide) rfl rfl ?_
          refine g_iinc C (nI (i + 1)) [some (.ref (a 0)), some (.int (nI kw)), some (.int (nI i)), some (.int (nI (i + 1)))] dX0_bestOther_47 rfl (nI_1 i) (by decide) rfl rfl ?_
          refine g_goto C 4 dX0_bestOther_50 (by decide) ?_
          exact ih (i + 1) (some i) ⟨by omega, by unfold fbo; first | rw [if_pos c_18, h2] | (rw [if_neg c_18, ← h2, hb]; exact (if_pos c_42).symm) | (rw [if_neg c_18, ← h2, hb]; exact (if_neg c_42).symm) | (rw [if_neg c_18, ← h2, hb0])⟩ (by omega)
theorem iX0_addCell_X0 : ∀ w ∈ u_ws RX0 TX0 13, w ∈ wsX0_addCell := by decide +kernel
set_option maxHeartbeats 1000000 in
set_option maxRecDepth 100000 in
/-- a new cell -/
theorem t_X0_addCell {l : Launch} {D : va_G} {cI cZ cJ cG cW : ClassId} {a r : Nat → Nat} {nc nw : Nat} {cx cy ch rm on wx wy dm sv mu : Nat → Int32} {qq : Nat → Nat → Int32} {p0 p1 p2 p3 : Int32} (h5 : nc < 5) : CtI l yX0_addCell wsX0_addCell 0 0 0 0 D (T5 cI cZ cJ cG cW) [.ref (a 0), .int p0, .int p1, .int p2, .int p3] (wL cI cZ cG a r nc nw cx cy ch rm on wx wy dm sv mu qq) (fun rv wv => rv = nI nc ∧ wv = (wL cI cZ cG a r (nc + 1) nw (upd cx nc p0) (upd cy nc p1) (upd ch nc p2) (upd rm nc p3) (upd on nc 1) wx wy dm sv mu qq)) := by
  refine ctI_of (cc := cX0_addCell) (maxL := 6) RX0 1 [some (.ref (a 0)), some (.int p0), some (.int p1), some (.int p2), some (.int p3), none] (by decide +kernel) rfl rfl (Nat.le_of_ble_eq_true rfl) rfl (fun p_ e_ s_ m_ as_ bl_ me_ co_ C hret => ?_)
  have f9 := C.ts (.fieldLink RX0 9 "CellPlanner$Land" "cellX" "[I") (by decide +kernel)
  have f15 := C.ts (.fieldLink RX0 15 "CellPlanner$Land" "cellY" "[I") (by decide +kernel)
  have f18 := C.ts (.fieldLink RX0 18 "CellPlanner$Land" "channel" "[I") (by decide +kernel)
  have f21 := C.ts (.fieldLink RX0 21 "CellPlanner$Land" "room" "[I") (by decide +kernel)
  have f24 := C.ts (.fieldLink RX0 24 "CellPlanner$Land" "on" "[Z") (by decide +kernel)
  have f48 := C.ts (.fieldLink RX0 48 "CellPlanner$Land" "cells" "I") (by decide +kernel)
  refine g_aload_n C dX0_addCell_0 rfl ?_
  refine g_get C 0 iX0_addCell_X0 rfl rfl 5 (by decide) f48 rfl dX0_addCell_1 ?_
  refine g_istore C [some (.ref (a 0)), some (.int p0), some (.int p1), some (.int p2), some (.int p3), some (.int (nI nc))] dX0_addCell_4 (by decide) rfl rfl ?_
  refine g_aload_n C dX0_addCell_6 rfl ?_
  refine g_get C 0 iX0_addCell_X0 rfl rfl 0 (by decide) f9 rfl dX0_addCell_7 ?_
  refine g_iload C dX0_addCell_10 rfl ?_
  refine g_iload_n C dX0_addCell_12 rfl ?_
  refine g_iast C 1 0 rfl rfl nc rfl (by omega) (by decide) (wL cI cZ cG a r nc nw (upd cx nc p0) cy ch rm on wx wy dm sv mu qq) rfl dX0_addCell_13 ?_
  refine g_aload_n C dX0_addCell_14 rfl ?_
  refine g_get C 0 iX0_addCell_X0 rfl rfl 1 (by decide) f15 rfl dX0_addCell_15 ?_
  refine g_iload C dX0_addCell_18 rfl ?_
  refine g_iload_n C dX0_addCell_20 rfl ?_
  refine g_iast C 2 0 rfl rfl nc rfl (by omega) (by decide) (wL cI cZ cG a r nc nw (upd cx nc p0) (upd cy nc p1) ch rm on wx wy dm sv mu qq) rfl dX0_addCell_21 ?_
  refine g_aload_n C dX0_addCell_22 rfl ?_
  refine g_get C 0 iX0_addCell_X0 rfl rfl 2 (by decide) f18 rfl dX0_addCell_23 ?_
  refine g_iload C dX0_addCell_26 rfl ?_
  refine g_iload_n C dX0_addCell_28 rfl ?_
  refine g_iast C 3 0 rfl rfl nc rfl (by omega) (by decide) (wL cI cZ cG a r nc nw (upd cx nc p0) (upd cy nc p1) (upd ch nc p2) rm on wx wy dm sv mu qq) rfl dX0_addCell_29 ?_
  refine g_aload_n C dX0_addCell_30 rfl ?_
  refine g_get C 0 iX0_addCell_X0 rfl rfl 3 (by decide) f21 rfl dX0_addCell_31 ?_
  refine g_iload C dX0_addCell_34 rfl ?_
  refine g_iload C dX0_addCell_36 rfl ?_
  refine g_iast C 4 0 rfl rfl nc rfl (by omega) (by decide) (wL cI cZ cG a r nc nw (upd cx nc p0) (upd cy nc p1) (upd ch nc p2) (upd rm nc p3) on wx wy dm sv mu qq) rfl dX0_addCell_38 ?_
  refine g_aload_n C dX0_addCell_39 rfl ?_
  refine g_get C 0 iX0_addCell_X0 rfl rfl 4 (by decide) f24 rfl dX0_addCell_40 ?_
  refine g_iload C dX0_addCell_43 rfl ?_
  refine g_iconst C 1 dX0_addCell_45 (by decide +kernel) ?_
  refine g_zast C 5 1 rfl rfl nc rfl (by omega) (by decide) (wL cI cZ cG a r nc nw (upd cx nc p0) (upd cy nc p1) (upd ch nc p2) (upd rm nc p3) (upd on nc 1) wx wy dm sv mu qq) rfl dX0_addCell_46 ?_
  refine g_aload_n C dX0_addCell_47 rfl ?_
  refine g_dup C dX0_addCell_48 rfl ?_
  refine g_get C 0 iX0_addCell_X0 rfl rfl 5 (by decide) f48 rfl dX0_addCell_49 ?_
  refine g_iconst C 1 dX0_addCell_52 (by decide +kernel) ?_
  refine g_iadd C (nI (nc + 1)) dX0_addCell_53 (nI_1 nc) ?_
  refine g_put C 0 iX0_addCell_X0 rfl rfl 5 (by decide) f48 rfl tyX0 tyX0_ok nmX0 (ty := .int) (by decide +kernel) rfl rfl (Nat.le_of_ble_eq_true rfl) (wL cI cZ cG a r (nc + 1) nw (upd cx nc p0) (upd cy nc p1) (upd ch nc p2) (upd rm nc p3) (upd on nc 1) wx wy dm sv mu qq) rfl dX0_addCell_54 ?_
  refine g_iload C dX0_addCell_57 rfl ?_
  exact g_iret C hret dX0_addCell_59 (Nat.le_of_ble_eq_true rfl) (Nat.le_of_ble_eq_true rfl) ⟨rfl, rfl⟩
theorem iX0_addWalker_X0 : ∀ w ∈ u_ws RX0 TX0 13, w ∈ wsX0_addWalker := by decide +kernel
set_option maxHeartbeats 1000000 in
set_option maxRecDepth 100000 in
/-- a new walker -/
theorem t_X0_addWalker {l : Launch} {D : va_G} {cI cZ cJ cG cW : ClassId} {a r : Nat → Nat} {nc nw : Nat} {cx cy ch rm on wx wy dm sv mu : Nat → Int32} {qq : Nat → Nat → Int32} {p0 p1 p2 : Int32} (h6 : nw < 6) : CtI l yX0_addWalker wsX0_addWalker 0 0 0 0 D (T5 cI cZ cJ cG cW) [.ref (a 0), .int p0, .int p1, .int p2] (wL cI cZ cG a r nc nw cx cy ch rm on wx wy dm sv mu qq) (fun rv wv => rv = nI nw ∧ wv = (wL cI cZ cG a r nc (nw + 1) cx cy ch rm on (upd wx nw p0) (upd wy nw p1) (upd dm nw p2) (upd sv nw (-1)) mu qq)) := by
  refine ctI_of (cc := cX0_addWalker) (maxL := 5) RX0 1 [some (.ref (a 0)), some (.int p0), some (.int p1), some (.int p2), none] (by decide +kernel) rfl rfl (Nat.le_of_ble_eq_true rfl) rfl (fun p_ e_ s_ m_ as_ bl_ me_ co_ C hret => ?_)
  have f28 := C.ts (.fieldLink RX0 28 "CellPlanner$Land" "walkerX" "[I") (by decide +kernel)
  have f31 := C.ts (.fieldLink RX0 31 "CellPlanner$Land" "walkerY" "[I") (by decide +kernel)
  have f34 := C.ts (.fieldLink RX0 34 "CellPlanner$Land" "demand" "[I") (by decide +kernel)
  have f37 := C.ts (.fieldLink RX0 37 "CellPlanner$Land" "server" "[I") (by decide +kernel)
  have f52 := C.ts (.fieldLink RX0 52 "CellPlanner$Land" "walkers" "I") (by decide +kernel)
  refine g_aload_n C dX0_addWalker_0 rfl ?_
  refine g_get C 0 iX0_addWalker_X0 rfl rfl 10 (by decide) f52 rfl dX0_addWalker_1 ?_
  refine g_istore C [some (.ref (a 0)), some (.int p0), some (.int p1), some (.int p2), some (.int (nI nw))] dX0_addWalker_4 (by decide) rfl rfl ?_
  refine g_aload_n C dX0_addWalker_6 rfl ?_
  refine g_get C 0 iX0_addWalker_X0 rfl rfl 6 (by decide) f28 rfl dX0_addWalker_7 ?_
  refine g_iload C dX0_addWalker_10 rfl ?_
  refine g_iload_n C dX0_addWalker_12 rfl ?_
  refine g_iast C 6 0 rfl rfl nw rfl (by omega) (by decide) (wL cI cZ cG a r nc nw cx cy ch rm on (upd wx nw p0) wy dm sv mu qq) rfl dX0_addWalker_13 ?_
  refine g_aload_n C dX0_addWalker_14 rfl ?_
  refine g_get C 0 iX0_addWalker_X0 rfl rfl 7 (by decide) f31 rfl dX0_addWalker_15 ?_
  refine g_iload C dX0_addWalker_18 rfl ?_
  refine g_iload_n C dX0_addWalker_20 rfl ?_
  refine g_iast C 7 0 rfl rfl nw rfl (by omega) (by decide) (wL cI cZ cG a r nc nw cx cy ch rm on (upd wx nw p0) (upd wy nw p1) dm sv mu qq) rfl dX0_addWalker_21 ?_
  refine g_aload_n C dX0_addWalker_22 rfl ?_
  refine g_get C 0 iX0_addWalker_X0 rfl rfl 8 (by decide) f34 rfl dX0_addWalker_23 ?_
  refine g_iload C dX0_addWalker_26 rfl ?_
  refine g_iload_n C dX0_addWalker_28 rfl ?_
  refine g_iast C 8 0 rfl rfl nw rfl (by omega) (by decide) (wL cI cZ cG a r nc nw cx cy ch rm on (upd wx nw p0) (upd wy nw p1) (upd dm nw p2) sv mu qq) rfl dX0_addWalker_29 ?_
  refine g_aload_n C dX0_addWalker_30 rfl ?_
  refine g_get C 0 iX0_addWalker_X0 rfl rfl 9 (by decide) f37 rfl dX0_addWalker_31 ?_
  refine g_iload C dX0_addWalker_34 rfl ?_
  refine g_iconst C (-1) dX0_addWalker_36 (by decide +kernel) ?_
  refine g_iast C 9 0 rfl rfl nw rfl (by omega) (by decide) (wL cI cZ cG a r nc nw cx cy ch rm on (upd wx nw p0) (upd wy nw p1) (upd dm nw p2) (upd sv nw ((-1))) mu qq) rfl dX0_addWalker_37 ?_
  refine g_aload_n C dX0_addWalker_38 rfl ?_
  refine g_dup C dX0_addWalker_39 rfl ?_
  refine g_get C 0 iX0_addWalker_X0 rfl rfl 10 (by decide) f52 rfl dX0_addWalker_40 ?_
  refine g_iconst C 1 dX0_addWalker_43 (by decide +kernel) ?_
  refine g_iadd C (nI (nw + 1)) dX0_addWalker_44 (nI_1 nw) ?_
  refine g_put C 0 iX0_addWalker_X0 rfl rfl 10 (by decide) f52 rfl tyX0 tyX0_ok nmX0 (ty := .int) (by decide +kernel) rfl rfl (Nat.le_of_ble_eq_true rfl) (wL cI cZ cG a r nc (nw + 1) cx cy ch rm on (upd wx nw p0) (upd wy nw p1) (upd dm nw p2) (upd sv nw ((-1))) mu qq) rfl dX0_addWalker_45 ?_
  refine g_iload C dX0_addWalker_48 rfl ?_
  exact g_iret C hret dX0_addWalker_50 (Nat.le_of_ble_eq_true rfl) (Nat.le_of_ble_eq_true rfl) ⟨rfl, rfl⟩
