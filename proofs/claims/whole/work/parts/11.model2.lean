/-! the reference, its face -/
theorem mbt_cases {P1 P2 : Prop} {b : Bool} {F : Int32 → va_W} (h1 : b = false → ¬ P1) (h2 : b = true → P1) (hn : ¬ P2) : (¬ P1 ∧ F (mbt b false) = F 1) ∨ (P1 ∧ ¬ P2 ∧ F (mbt b false) = F 2) := by
  cases b
  · exact Or.inl ⟨h1 rfl, rfl⟩
  · exact Or.inr ⟨h2 rfl, hn, rfl⟩
set_option maxHeartbeats 1000000 in
set_option maxRecDepth 100000 in
theorem t_X3_load {l : Launch} {D : va_G} {cI cZ cJ cG cW : ClassId} {q : Nat → Nat} {nc nw : Nat} {cx cy ch rm on wx wy dm sv fv hd lf la : Nat → Int32} {mg pt bd tk ho ri lo : Int32} {us gv bs ld qs : Nat → Int32} {mS mD th : Int32} {p1 : Int32} (h5 : nc ≤ 5) (h6 : nw ≤ 6) : CtI l yX3_load wsX3_load 1 23 0 0 D (T5 cI cZ cJ cG cW) [.ref (q 0), .int p1] (wM cI cZ q nc nw cx cy ch rm on wx wy dm sv fv hd lf la mg pt bd tk ho ri lo us gv bs ld qs mS mD th) (fun rv wv => (IC nc p1 ∧ rv = fld sv dm p1 nw ∧ wv = (wM cI cZ q nc nw cx cy ch rm on wx wy dm sv fv hd lf la mg pt bd tk ho ri lo us gv bs ld qs mS mD 0)) ∨ (¬ IC nc p1 ∧ wv = (wM cI cZ q nc nw cx cy ch rm on wx wy dm sv fv hd lf la mg pt bd tk ho ri lo us gv bs ld qs mS mD 1))) := by
  refine ctI_of (cc := cX3_load) (maxL := 2) RX3 0 [some (.ref (q 0)), some (.int p1)] (by decide +kernel) rfl rfl (Nat.le_of_ble_eq_true rfl) rfl (fun p_ e_ s_ m_ as_ bl_ me_ co_ C hret => ?_)
  refine g_aload_n C dX3_load_0 rfl ?_
  refine g_aload_n C dX3_load_1 rfl ?_
  refine g_iload_n C dX3_load_2 rfl ?_
  refine g_callVi C [] (wM cI cZ q nc nw cx cy ch rm on wx wy dm sv fv hd lf la mg pt bd tk ho ri lo us gv bs ld qs mS mD th) [.int p1] t_X3_isCell rfl rfl (cwV 1 C.ts gX3_load_X3_isCell rfl rfl rfl (by decide +kernel) ⟨Nat.le_of_ble_eq_true rfl, Nat.le_of_ble_eq_true rfl⟩) rfl rfl rfl (Nat.le_of_ble_eq_true rfl) dX3_load_3 ⟨Nat.le_of_ble_eq_true rfl, Nat.le_of_ble_eq_true rfl⟩ (fun rv1 wv1 hp1 => ?_)
  obtain ⟨rfl, rfl⟩ := hp1
  refine g_w (ws' := (wM cI cZ q nc nw cx cy ch rm on wx wy dm sv fv hd lf la mg pt bd tk ho ri lo us gv bs ld qs mS mD th)) rfl ?_
  refine g_callVi C [] (wM cI cZ q nc nw cx cy ch rm on wx wy dm sv fv hd lf la mg pt bd tk ho ri lo us gv bs ld qs mS mD th) [.int (bz (icb nc p1))] t_X3_may rfl rfl (cwV 1 C.ts gX3_load_X3_may rfl rfl rfl (by decide +kernel) ⟨Nat.le_of_ble_eq_true rfl, Nat.le_of_ble_eq_true rfl⟩) rfl rfl rfl (Nat.le_of_ble_eq_true rfl) dX3_load_6 ⟨Nat.le_of_ble_eq_true rfl, Nat.le_of_ble_eq_true rfl⟩ (fun rv2 wv2 hp2 => ?_)
  obtain ⟨rfl, rfl⟩ := hp2
  refine g_w (ws' := (wM cI cZ q nc nw cx cy ch rm on wx wy dm sv fv hd lf la mg pt bd tk ho ri lo us gv bs ld qs mS mD (mth (icb nc p1)))) rfl ?_
  refine g_if_eq C 20 dX3_load_9 (by decide) (fun c_9 => ?_) (fun c_9 => ?_)
  · skip
    have hno : ¬ IC nc p1 := icb_no (by omega) (bz_0 c_9)
    refine g_w (ws' := (wM cI cZ q nc nw cx cy ch rm on wx wy dm sv fv hd lf la mg pt bd tk ho ri lo us gv bs ld qs mS mD 1)) (by rw [mth_1 c_9]) ?_
    refine g_iconst C 0 dX3_load_20 (by decide +kernel) ?_
    exact g_iret C hret dX3_load_21 (Nat.le_of_ble_eq_true rfl) (Nat.le_of_ble_eq_true rfl) (Or.inr ⟨hno, rfl⟩)
  · skip
    have hth : mth (icb nc p1) = 0 := mth_0 c_9
    obtain ⟨kc, hlkc, rfl⟩ := icb_yes (by omega) (bz_1 c_9)
    have hkl : (nI kc).toNatClampNeg = kc := nI_clamp (by omega)
    refine g_w (ws' := (wM cI cZ q nc nw cx cy ch rm on wx wy dm sv fv hd lf la mg pt bd tk ho ri lo us gv bs ld qs mS mD 0)) (by rw [hth]) ?_
    refine g_aload_n C dX3_load_12 rfl ?_
    refine g_iload_n C dX3_load_13 rfl ?_
    refine g_callVi C [] (wM cI cZ q nc nw cx cy ch rm on wx wy dm sv fv hd lf la mg pt bd tk ho ri lo us gv bs ld qs mS mD 0) [.int (nI kc)] (t_X3_loadOf h6) rfl rfl (cwV 1 C.ts gX3_load_X3_loadOf rfl rfl rfl (by decide +kernel) ⟨Nat.le_of_ble_eq_true rfl, Nat.le_of_ble_eq_true rfl⟩) rfl rfl rfl (Nat.le_of_ble_eq_true rfl) dX3_load_14 ⟨Nat.le_of_ble_eq_true rfl, Nat.le_of_ble_eq_true rfl⟩ (fun rv3 wv3 hp3 => ?_)
    obtain ⟨rfl, rfl⟩ := hp3
    refine g_w (ws' := (wM cI cZ q nc nw cx cy ch rm on wx wy dm sv fv hd lf la mg pt bd tk ho ri lo us gv bs ld qs mS mD 0)) rfl ?_
    refine g_goto C 21 dX3_load_17 (by decide) ?_
    exact g_iret C hret dX3_load_21 (Nat.le_of_ble_eq_true rfl) (Nat.le_of_ble_eq_true rfl) (Or.inl ⟨⟨kc, hlkc, rfl⟩, rfl, rfl⟩)
set_option maxHeartbeats 1000000 in
set_option maxRecDepth 100000 in
theorem t_X3_use {l : Launch} {D : va_G} {cI cZ cJ cG cW : ClassId} {q : Nat → Nat} {nc nw : Nat} {cx cy ch rm on wx wy dm sv fv hd lf la : Nat → Int32} {mg pt bd tk ho ri lo : Int32} {us gv bs ld qs : Nat → Int32} {mS mD th : Int32} {p1 : Int32} (h5 : nc ≤ 5) (h6 : nw ≤ 6) (hr : ∀ c, c < nc → ¬ rm c ≤ 0) : CtI l yX3_use wsX3_use 2 44 0 0 D (T5 cI cZ cJ cG cW) [.ref (q 0), .int p1] (wM cI cZ q nc nw cx cy ch rm on wx wy dm sv fv hd lf la mg pt bd tk ho ri lo us gv bs ld qs mS mD th) (fun rv wv => (IC nc p1 ∧ rv = fus rm sv dm nw p1.toNatClampNeg ∧ wv = (wM cI cZ q nc nw cx cy ch rm on wx wy dm sv fv hd lf la mg pt bd tk ho ri lo us gv bs ld qs mS mD 0)) ∨ (¬ IC nc p1 ∧ wv = (wM cI cZ q nc nw cx cy ch rm on wx wy dm sv fv hd lf la mg pt bd tk ho ri lo us gv bs ld qs mS mD 1))) := by
  refine ctI_of (cc := cX3_use) (maxL := 2) RX3 0 [some (.ref (q 0)), some (.int p1)] (by decide +kernel) rfl rfl (Nat.le_of_ble_eq_true rfl) rfl (fun p_ e_ s_ m_ as_ bl_ me_ co_ C hret => ?_)
  refine g_aload_n C dX3_use_0 rfl ?_
  refine g_aload_n C dX3_use_1 rfl ?_
  refine g_iload_n C dX3_use_2 rfl ?_
  refine g_callVi C [] (wM cI cZ q nc nw cx cy ch rm on wx wy dm sv fv hd lf la mg pt bd tk ho ri lo us gv bs ld qs mS mD th) [.int p1] t_X3_isCell rfl rfl (cwV 1 C.ts gX3_use_X3_isCell rfl rfl rfl (by decide +kernel) ⟨Nat.le_of_ble_eq_true rfl, Nat.le_of_ble_eq_true rfl⟩) rfl rfl rfl (Nat.le_of_ble_eq_true rfl) dX3_use_3 ⟨Nat.le_of_ble_eq_true rfl, Nat.le_of_ble_eq_true rfl⟩ (fun rv1 wv1 hp1 => ?_)
  obtain ⟨rfl, rfl⟩ := hp1
  refine g_w (ws' := (wM cI cZ q nc nw cx cy ch rm on wx wy dm sv fv hd lf la mg pt bd tk ho ri lo us gv bs ld qs mS mD th)) rfl ?_
  refine g_callVi C [] (wM cI cZ q nc nw cx cy ch rm on wx wy dm sv fv hd lf la mg pt bd tk ho ri lo us gv bs ld qs mS mD th) [.int (bz (icb nc p1))] t_X3_may rfl rfl (cwV 1 C.ts gX3_use_X3_may rfl rfl rfl (by decide +kernel) ⟨Nat.le_of_ble_eq_true rfl, Nat.le_of_ble_eq_true rfl⟩) rfl rfl rfl (Nat.le_of_ble_eq_true rfl) dX3_use_6 ⟨Nat.le_of_ble_eq_true rfl, Nat.le_of_ble_eq_true rfl⟩ (fun rv2 wv2 hp2 => ?_)
  obtain ⟨rfl, rfl⟩ := hp2
  refine g_w (ws' := (wM cI cZ q nc nw cx cy ch rm on wx wy dm sv fv hd lf la mg pt bd tk ho ri lo us gv bs ld qs mS mD (mth (icb nc p1)))) rfl ?_
  refine g_if_eq C 20 dX3_use_9 (by decide) (fun c_9 => ?_) (fun c_9 => ?_)
  · skip
    have hno : ¬ IC nc p1 := icb_no (by omega) (bz_0 c_9)
    refine g_w (ws' := (wM cI cZ q nc nw cx cy ch rm on wx wy dm sv fv hd lf la mg pt bd tk ho ri lo us gv bs ld qs mS mD 1)) (by rw [mth_1 c_9]) ?_
    refine g_iconst C 0 dX3_use_20 (by decide +kernel) ?_
    exact g_iret C hret dX3_use_21 (Nat.le_of_ble_eq_true rfl) (Nat.le_of_ble_eq_true rfl) (Or.inr ⟨hno, rfl⟩)
  · skip
    have hth : mth (icb nc p1) = 0 := mth_0 c_9
    obtain ⟨kc, hlkc, rfl⟩ := icb_yes (by omega) (bz_1 c_9)
    have hkl : (nI kc).toNatClampNeg = kc := nI_clamp (by omega)
    refine g_w (ws' := (wM cI cZ q nc nw cx cy ch rm on wx wy dm sv fv hd lf la mg pt bd tk ho ri lo us gv bs ld qs mS mD 0)) (by rw [hth]) ?_
    refine g_aload_n C dX3_use_12 rfl ?_
    refine g_iload_n C dX3_use_13 rfl ?_
    refine g_callVi C [] (wM cI cZ q nc nw cx cy ch rm on wx wy dm sv fv hd lf la mg pt bd tk ho ri lo us gv bs ld qs mS mD 0) [.int (nI kc)] (t_X3_useOf h6 (by omega) (hr kc hlkc)) rfl rfl (cwV 1 C.ts gX3_use_X3_useOf rfl rfl rfl (by decide +kernel) ⟨Nat.le_of_ble_eq_true rfl, Nat.le_of_ble_eq_true rfl⟩) rfl rfl rfl (Nat.le_of_ble_eq_true rfl) dX3_use_14 ⟨Nat.le_of_ble_eq_true rfl, Nat.le_of_ble_eq_true rfl⟩ (fun rv3 wv3 hp3 => ?_)
    obtain ⟨rfl, rfl⟩ := hp3
    refine g_w (ws' := (wM cI cZ q nc nw cx cy ch rm on wx wy dm sv fv hd lf la mg pt bd tk ho ri lo us gv bs ld qs mS mD 0)) rfl ?_
    refine g_goto C 21 dX3_use_17 (by decide) ?_
    exact g_iret C hret dX3_use_21 (Nat.le_of_ble_eq_true rfl) (Nat.le_of_ble_eq_true rfl) (Or.inl ⟨⟨kc, hlkc, rfl⟩, (by rw [hkl]), rfl⟩)
theorem iX3_servedBy_X3 : ∀ w ∈ u_ws RX3 TX3 30, w ∈ wsX3_servedBy := by decide +kernel
set_option maxHeartbeats 1000000 in
set_option maxRecDepth 100000 in
theorem t_X3_servedBy {l : Launch} {D : va_G} {cI cZ cJ cG cW : ClassId} {q : Nat → Nat} {nc nw : Nat} {cx cy ch rm on wx wy dm sv fv hd lf la : Nat → Int32} {mg pt bd tk ho ri lo : Int32} {us gv bs ld qs : Nat → Int32} {mS mD th : Int32} {p1 : Int32} (h5 : nc ≤ 5) (h6 : nw ≤ 6) : CtI l yX3_servedBy wsX3_servedBy 1 21 0 0 D (T5 cI cZ cJ cG cW) [.ref (q 0), .int p1] (wM cI cZ q nc nw cx cy ch rm on wx wy dm sv fv hd lf la mg pt bd tk ho ri lo us gv bs ld qs mS mD th) (fun rv wv => (IC nw p1 ∧ rv = sv p1.toNatClampNeg ∧ wv = (wM cI cZ q nc nw cx cy ch rm on wx wy dm sv fv hd lf la mg pt bd tk ho ri lo us gv bs ld qs mS mD 0)) ∨ (¬ IC nw p1 ∧ wv = (wM cI cZ q nc nw cx cy ch rm on wx wy dm sv fv hd lf la mg pt bd tk ho ri lo us gv bs ld qs mS mD 1))) := by
  refine ctI_of (cc := cX3_servedBy) (maxL := 2) RX3 0 [some (.ref (q 0)), some (.int p1)] (by decide +kernel) rfl rfl (Nat.le_of_ble_eq_true rfl) rfl (fun p_ e_ s_ m_ as_ bl_ me_ co_ C hret => ?_)
  have f35 := C.ts (.fieldLink RX3 35 "CellPlannerModel" "serving" "[I") (by decide +kernel)
  refine g_aload_n C dX3_servedBy_0 rfl ?_
  refine g_aload_n C dX3_servedBy_1 rfl ?_
  refine g_iload_n C dX3_servedBy_2 rfl ?_
  refine g_callVi C [] (wM cI cZ q nc nw cx cy ch rm on wx wy dm sv fv hd lf la mg pt bd tk ho ri lo us gv bs ld qs mS mD th) [.int p1] t_X3_isWalker rfl rfl (cwV 1 C.ts gX3_servedBy_X3_isWalker rfl rfl rfl (by decide +kernel) ⟨Nat.le_of_ble_eq_true rfl, Nat.le_of_ble_eq_true rfl⟩) rfl rfl rfl (Nat.le_of_ble_eq_true rfl) dX3_servedBy_3 ⟨Nat.le_of_ble_eq_true rfl, Nat.le_of_ble_eq_true rfl⟩ (fun rv1 wv1 hp1 => ?_)
  obtain ⟨rfl, rfl⟩ := hp1
  refine g_w (ws' := (wM cI cZ q nc nw cx cy ch rm on wx wy dm sv fv hd lf la mg pt bd tk ho ri lo us gv bs ld qs mS mD th)) rfl ?_
  refine g_callVi C [] (wM cI cZ q nc nw cx cy ch rm on wx wy dm sv fv hd lf la mg pt bd tk ho ri lo us gv bs ld qs mS mD th) [.int (bz (icb nw p1))] t_X3_may rfl rfl (cwV 1 C.ts gX3_servedBy_X3_may rfl rfl rfl (by decide +kernel) ⟨Nat.le_of_ble_eq_true rfl, Nat.le_of_ble_eq_true rfl⟩) rfl rfl rfl (Nat.le_of_ble_eq_true rfl) dX3_servedBy_6 ⟨Nat.le_of_ble_eq_true rfl, Nat.le_of_ble_eq_true rfl⟩ (fun rv2 wv2 hp2 => ?_)
  obtain ⟨rfl, rfl⟩ := hp2
  refine g_w (ws' := (wM cI cZ q nc nw cx cy ch rm on wx wy dm sv fv hd lf la mg pt bd tk ho ri lo us gv bs ld qs mS mD (mth (icb nw p1)))) rfl ?_
  refine g_if_eq C 21 dX3_servedBy_9 (by decide) (fun c_9 => ?_) (fun c_9 => ?_)
  · skip
    have hno : ¬ IC nw p1 := icb_no (by omega) (bz_0 c_9)
    refine g_w (ws' := (wM cI cZ q nc nw cx cy ch rm on wx wy dm sv fv hd lf la mg pt bd tk ho ri lo us gv bs ld qs mS mD 1)) (by rw [mth_1 c_9]) ?_
    refine g_iconst C 0 dX3_servedBy_21 (by decide +kernel) ?_
    exact g_iret C hret dX3_servedBy_22 (Nat.le_of_ble_eq_true rfl) (Nat.le_of_ble_eq_true rfl) (Or.inr ⟨hno, rfl⟩)
  · skip
    have hth : mth (icb nw p1) = 0 := mth_0 c_9
    obtain ⟨kc, hlkc, rfl⟩ := icb_yes (by omega) (bz_1 c_9)
    have hkl : (nI kc).toNatClampNeg = kc := nI_clamp (by omega)
    refine g_w (ws' := (wM cI cZ q nc nw cx cy ch rm on wx wy dm sv fv hd lf la mg pt bd tk ho ri lo us gv bs ld qs mS mD 0)) (by rw [hth]) ?_
    refine g_aload_n C dX3_servedBy_12 rfl ?_
    refine g_get C 0 iX3_servedBy_X3 rfl rfl 10 (by decide) f35 rfl dX3_servedBy_13 ?_
    refine g_iload_n C dX3_servedBy_16 rfl ?_
    refine g_iald C 9 0 rfl rfl kc rfl (by omega) (by decide) (sv kc) rfl dX3_servedBy_17 ?_
    refine g_goto C 22 dX3_servedBy_18 (by decide) ?_
    exact g_iret C hret dX3_servedBy_22 (Nat.le_of_ble_eq_true rfl) (Nat.le_of_ble_eq_true rfl) (Or.inl ⟨⟨kc, hlkc, rfl⟩, (by rw [hkl]), rfl⟩)
theorem iX3_favourite_X3 : ∀ w ∈ u_ws RX3 TX3 30, w ∈ wsX3_favourite := by decide +kernel
set_option maxHeartbeats 1000000 in
set_option maxRecDepth 100000 in
theorem t_X3_favourite {l : Launch} {D : va_G} {cI cZ cJ cG cW : ClassId} {q : Nat → Nat} {nc nw : Nat} {cx cy ch rm on wx wy dm sv fv hd lf la : Nat → Int32} {mg pt bd tk ho ri lo : Int32} {us gv bs ld qs : Nat → Int32} {mS mD th : Int32} {p1 : Int32} (h5 : nc ≤ 5) (h6 : nw ≤ 6) : CtI l yX3_favourite wsX3_favourite 1 21 0 0 D (T5 cI cZ cJ cG cW) [.ref (q 0), .int p1] (wM cI cZ q nc nw cx cy ch rm on wx wy dm sv fv hd lf la mg pt bd tk ho ri lo us gv bs ld qs mS mD th) (fun rv wv => (IC nw p1 ∧ rv = fv p1.toNatClampNeg ∧ wv = (wM cI cZ q nc nw cx cy ch rm on wx wy dm sv fv hd lf la mg pt bd tk ho ri lo us gv bs ld qs mS mD 0)) ∨ (¬ IC nw p1 ∧ wv = (wM cI cZ q nc nw cx cy ch rm on wx wy dm sv fv hd lf la mg pt bd tk ho ri lo us gv bs ld qs mS mD 1))) := by
  refine ctI_of (cc := cX3_favourite) (maxL := 2) RX3 0 [some (.ref (q 0)), some (.int p1)] (by decide +kernel) rfl rfl (Nat.le_of_ble_eq_true rfl) rfl (fun p_ e_ s_ m_ as_ bl_ me_ co_ C hret => ?_)
  have f38 := C.ts (.fieldLink RX3 38 "CellPlannerModel" "favourite" "[I") (by decide +kernel)
  refine g_aload_n C dX3_favourite_0 rfl ?_
  refine g_aload_n C dX3_favourite_1 rfl ?_
  refine g_iload_n C dX3_favourite_2 rfl ?_
  refine g_callVi C [] (wM cI cZ q nc nw cx cy ch rm on wx wy dm sv fv hd lf la mg pt bd tk ho ri lo us gv bs ld qs mS mD th) [.int p1] t_X3_isWalker rfl rfl (cwV 1 C.ts gX3_favourite_X3_isWalker rfl rfl rfl (by decide +kernel) ⟨Nat.le_of_ble_eq_true rfl, Nat.le_of_ble_eq_true rfl⟩) rfl rfl rfl (Nat.le_of_ble_eq_true rfl) dX3_favourite_3 ⟨Nat.le_of_ble_eq_true rfl, Nat.le_of_ble_eq_true rfl⟩ (fun rv1 wv1 hp1 => ?_)
  obtain ⟨rfl, rfl⟩ := hp1
  refine g_w (ws' := (wM cI cZ q nc nw cx cy ch rm on wx wy dm sv fv hd lf la mg pt bd tk ho ri lo us gv bs ld qs mS mD th)) rfl ?_
  refine g_callVi C [] (wM cI cZ q nc nw cx cy ch rm on wx wy dm sv fv hd lf la mg pt bd tk ho ri lo us gv bs ld qs mS mD th) [.int (bz (icb nw p1))] t_X3_may rfl rfl (cwV 1 C.ts gX3_favourite_X3_may rfl rfl rfl (by decide +kernel) ⟨Nat.le_of_ble_eq_true rfl, Nat.le_of_ble_eq_true rfl⟩) rfl rfl rfl (Nat.le_of_ble_eq_true rfl) dX3_favourite_6 ⟨Nat.le_of_ble_eq_true rfl, Nat.le_of_ble_eq_true rfl⟩ (fun rv2 wv2 hp2 => ?_)
  obtain ⟨rfl, rfl⟩ := hp2
  refine g_w (ws' := (wM cI cZ q nc nw cx cy ch rm on wx wy dm sv fv hd lf la mg pt bd tk ho ri lo us gv bs ld qs mS mD (mth (icb nw p1)))) rfl ?_
  refine g_if_eq C 21 dX3_favourite_9 (by decide) (fun c_9 => ?_) (fun c_9 => ?_)
  · skip
    have hno : ¬ IC nw p1 := icb_no (by omega) (bz_0 c_9)
    refine g_w (ws' := (wM cI cZ q nc nw cx cy ch rm on wx wy dm sv fv hd lf la mg pt bd tk ho ri lo us gv bs ld qs mS mD 1)) (by rw [mth_1 c_9]) ?_
    refine g_iconst C 0 dX3_favourite_21 (by decide +kernel) ?_
    exact g_iret C hret dX3_favourite_22 (Nat.le_of_ble_eq_true rfl) (Nat.le_of_ble_eq_true rfl) (Or.inr ⟨hno, rfl⟩)
  · skip
    have hth : mth (icb nw p1) = 0 := mth_0 c_9
    obtain ⟨kc, hlkc, rfl⟩ := icb_yes (by omega) (bz_1 c_9)
    have hkl : (nI kc).toNatClampNeg = kc := nI_clamp (by omega)
    refine g_w (ws' := (wM cI cZ q nc nw cx cy ch rm on wx wy dm sv fv hd lf la mg pt bd tk ho ri lo us gv bs ld qs mS mD 0)) (by rw [hth]) ?_
    refine g_aload_n C dX3_favourite_12 rfl ?_
    refine g_get C 0 iX3_favourite_X3 rfl rfl 11 (by decide) f38 rfl dX3_favourite_13 ?_
    refine g_iload_n C dX3_favourite_16 rfl ?_
    refine g_iald C 10 0 rfl rfl kc rfl (by omega) (by decide) (fv kc) rfl dX3_favourite_17 ?_
    refine g_goto C 22 dX3_favourite_18 (by decide) ?_
    exact g_iret C hret dX3_favourite_22 (Nat.le_of_ble_eq_true rfl) (Nat.le_of_ble_eq_true rfl) (Or.inl ⟨⟨kc, hlkc, rfl⟩, (by rw [hkl]), rfl⟩)
theorem iX3_heldFor_X3 : ∀ w ∈ u_ws RX3 TX3 30, w ∈ wsX3_heldFor := by decide +kernel
set_option maxHeartbeats 1000000 in
set_option maxRecDepth 100000 in
theorem t_X3_heldFor {l : Launch} {D : va_G} {cI cZ cJ cG cW : ClassId} {q : Nat → Nat} {nc nw : Nat} {cx cy ch rm on wx wy dm sv fv hd lf la : Nat → Int32} {mg pt bd tk ho ri lo : Int32} {us gv bs ld qs : Nat → Int32} {mS mD th : Int32} {p1 : Int32} (h5 : nc ≤ 5) (h6 : nw ≤ 6) : CtI l yX3_heldFor wsX3_heldFor 1 21 0 0 D (T5 cI cZ cJ cG cW) [.ref (q 0), .int p1] (wM cI cZ q nc nw cx cy ch rm on wx wy dm sv fv hd lf la mg pt bd tk ho ri lo us gv bs ld qs mS mD th) (fun rv wv => (IC nw p1 ∧ rv = hd p1.toNatClampNeg ∧ wv = (wM cI cZ q nc nw cx cy ch rm on wx wy dm sv fv hd lf la mg pt bd tk ho ri lo us gv bs ld qs mS mD 0)) ∨ (¬ IC nw p1 ∧ wv = (wM cI cZ q nc nw cx cy ch rm on wx wy dm sv fv hd lf la mg pt bd tk ho ri lo us gv bs ld qs mS mD 1))) := by
  refine ctI_of (cc := cX3_heldFor) (maxL := 2) RX3 0 [some (.ref (q 0)), some (.int p1)] (by decide +kernel) rfl rfl (Nat.le_of_ble_eq_true rfl) rfl (fun p_ e_ s_ m_ as_ bl_ me_ co_ C hret => ?_)
  have f41 := C.ts (.fieldLink RX3 41 "CellPlannerModel" "held" "[I") (by decide +kernel)
  refine g_aload_n C dX3_heldFor_0 rfl ?_
  refine g_aload_n C dX3_heldFor_1 rfl ?_
  refine g_iload_n C dX3_heldFor_2 rfl ?_
  refine g_callVi C [] (wM cI cZ q nc nw cx cy ch rm on wx wy dm sv fv hd lf la mg pt bd tk ho ri lo us gv bs ld qs mS mD th) [.int p1] t_X3_isWalker rfl rfl (cwV 1 C.ts gX3_heldFor_X3_isWalker rfl rfl rfl (by decide +kernel) ⟨Nat.le_of_ble_eq_true rfl, Nat.le_of_ble_eq_true rfl⟩) rfl rfl rfl (Nat.le_of_ble_eq_true rfl) dX3_heldFor_3 ⟨Nat.le_of_ble_eq_true rfl, Nat.le_of_ble_eq_true rfl⟩ (fun rv1 wv1 hp1 => ?_)
  obtain ⟨rfl, rfl⟩ := hp1
  refine g_w (ws' := (wM cI cZ q nc nw cx cy ch rm on wx wy dm sv fv hd lf la mg pt bd tk ho ri lo us gv bs ld qs mS mD th)) rfl ?_
  refine g_callVi C [] (wM cI cZ q nc nw cx cy ch rm on wx wy dm sv fv hd lf la mg pt bd tk ho ri lo us gv bs ld qs mS mD th) [.int (bz (icb nw p1))] t_X3_may rfl rfl (cwV 1 C.ts gX3_heldFor_X3_may rfl rfl rfl (by decide +kernel) ⟨Nat.le_of_ble_eq_true rfl, Nat.le_of_ble_eq_true rfl⟩) rfl rfl rfl (Nat.le_of_ble_eq_true rfl) dX3_heldFor_6 ⟨Nat.le_of_ble_eq_true rfl, Nat.le_of_ble_eq_true rfl⟩ (fun rv2 wv2 hp2 => ?_)
  obtain ⟨rfl, rfl⟩ := hp2
  refine g_w (ws' := (wM cI cZ q nc nw cx cy ch rm on wx wy dm sv fv hd lf la mg pt bd tk ho ri lo us gv bs ld qs mS mD (mth (icb nw p1)))) rfl ?_
  refine g_if_eq C 21 dX3_heldFor_9 (by decide) (fun c_9 => ?_) (fun c_9 => ?_)
  · skip
    have hno : ¬ IC nw p1 := icb_no (by omega) (bz_0 c_9)
    refine g_w (ws' := (wM cI cZ q nc nw cx cy ch rm on wx wy dm sv fv hd lf la mg pt bd tk ho ri lo us gv bs ld qs mS mD 1)) (by rw [mth_1 c_9]) ?_
    refine g_iconst C 0 dX3_heldFor_21 (by decide +kernel) ?_
    exact g_iret C hret dX3_heldFor_22 (Nat.le_of_ble_eq_true rfl) (Nat.le_of_ble_eq_true rfl) (Or.inr ⟨hno, rfl⟩)
  · skip
    have hth : mth (icb nw p1) = 0 := mth_0 c_9
    obtain ⟨kc, hlkc, rfl⟩ := icb_yes (by omega) (bz_1 c_9)
    have hkl : (nI kc).toNatClampNeg = kc := nI_clamp (by omega)
    refine g_w (ws' := (wM cI cZ q nc nw cx cy ch rm on wx wy dm sv fv hd lf la mg pt bd tk ho ri lo us gv bs ld qs mS mD 0)) (by rw [hth]) ?_
    refine g_aload_n C dX3_heldFor_12 rfl ?_
    refine g_get C 0 iX3_heldFor_X3 rfl rfl 12 (by decide) f41 rfl dX3_heldFor_13 ?_
    refine g_iload_n C dX3_heldFor_16 rfl ?_
    refine g_iald C 11 0 rfl rfl kc rfl (by omega) (by decide) (hd kc) rfl dX3_heldFor_17 ?_
    refine g_goto C 22 dX3_heldFor_18 (by decide) ?_
    exact g_iret C hret dX3_heldFor_22 (Nat.le_of_ble_eq_true rfl) (Nat.le_of_ble_eq_true rfl) (Or.inl ⟨⟨kc, hlkc, rfl⟩, (by rw [hkl]), rfl⟩)
set_option maxHeartbeats 1000000 in
set_option maxRecDepth 100000 in
theorem t_X3_signal {l : Launch} {D : va_G} {cI cZ cJ cG cW : ClassId} {q : Nat → Nat} {nc nw : Nat} {cx cy ch rm on wx wy dm sv fv hd lf la : Nat → Int32} {mg pt bd tk ho ri lo : Int32} {us gv bs ld qs : Nat → Int32} {mS mD th : Int32} {p1 p2 : Int32} (h5 : nc ≤ 5) (h6 : nw ≤ 6) (hg : ∀ c w, c < nc → w < nw → ¬ dsq (cx c) (cy c) (wx w) (wy w) = 0) : CtI l yX3_signal wsX3_signal 1 25 0 0 D (T5 cI cZ cJ cG cW) [.ref (q 0), .int p1, .int p2] (wM cI cZ q nc nw cx cy ch rm on wx wy dm sv fv hd lf la mg pt bd tk ho ri lo us gv bs ld qs mS mD th) (fun rv wv => ((IC nc p1 ∧ IC nw p2) ∧ rv = sg cx cy wx wy p1.toNatClampNeg p2.toNatClampNeg ∧ wv = (wM cI cZ q nc nw cx cy ch rm on wx wy dm sv fv hd lf la mg pt bd tk ho ri lo us gv bs ld qs mS mD 0)) ∨ (¬ (IC nc p1 ∧ IC nw p2) ∧ wv = (wM cI cZ q nc nw cx cy ch rm on wx wy dm sv fv hd lf la mg pt bd tk ho ri lo us gv bs ld qs mS mD 1))) := by
  refine ctI_of (cc := cX3_signal) (maxL := 3) RX3 0 [some (.ref (q 0)), some (.int p1), some (.int p2)] (by decide +kernel) rfl rfl (Nat.le_of_ble_eq_true rfl) rfl (fun p_ e_ s_ m_ as_ bl_ me_ co_ C hret => ?_)
  refine g_aload_n C dX3_signal_0 rfl ?_
  refine g_aload_n C dX3_signal_1 rfl ?_
  refine g_iload_n C dX3_signal_2 rfl ?_
  refine g_callVi C [] (wM cI cZ q nc nw cx cy ch rm on wx wy dm sv fv hd lf la mg pt bd tk ho ri lo us gv bs ld qs mS mD th) [.int p1] t_X3_isCell rfl rfl (cwV 1 C.ts gX3_signal_X3_isCell rfl rfl rfl (by decide +kernel) ⟨Nat.le_of_ble_eq_true rfl, Nat.le_of_ble_eq_true rfl⟩) rfl rfl rfl (Nat.le_of_ble_eq_true rfl) dX3_signal_3 ⟨Nat.le_of_ble_eq_true rfl, Nat.le_of_ble_eq_true rfl⟩ (fun rv1 wv1 hp1 => ?_)
  obtain ⟨rfl, rfl⟩ := hp1
  refine g_w (ws' := (wM cI cZ q nc nw cx cy ch rm on wx wy dm sv fv hd lf la mg pt bd tk ho ri lo us gv bs ld qs mS mD th)) rfl ?_
  refine g_if_eq C 21 dX3_signal_6 (by decide) (fun c_6 => ?_) (fun c_6 => ?_)
  · skip
    have hno : ¬ (IC nc p1 ∧ IC nw p2) := fun h => icb_no (by omega) (bz_0 c_6) h.1
    refine g_iconst C 0 dX3_signal_21 (by decide +kernel) ?_
    refine g_st (st' := [.int (bz false), .ref (q 0)]) rfl ?_
    refine g_callVi C [] (wM cI cZ q nc nw cx cy ch rm on wx wy dm sv fv hd lf la mg pt bd tk ho ri lo us gv bs ld qs mS mD th) [.int (bz false)] t_X3_may rfl rfl (cwV 1 C.ts gX3_signal_X3_may rfl rfl rfl (by decide +kernel) ⟨Nat.le_of_ble_eq_true rfl, Nat.le_of_ble_eq_true rfl⟩) rfl rfl rfl (Nat.le_of_ble_eq_true rfl) dX3_signal_22 ⟨Nat.le_of_ble_eq_true rfl, Nat.le_of_ble_eq_true rfl⟩ (fun rv2 wv2 hp2 => ?_)
    obtain ⟨rfl, rfl⟩ := hp2
    refine g_w (ws' := (wM cI cZ q nc nw cx cy ch rm on wx wy dm sv fv hd lf la mg pt bd tk ho ri lo us gv bs ld qs mS mD (mth false))) rfl ?_
    refine g_if_eq C 37 dX3_signal_25 (by decide) (fun _ => ?_) (fun c9 => absurd rfl c9)
    refine g_w (ws' := (wM cI cZ q nc nw cx cy ch rm on wx wy dm sv fv hd lf la mg pt bd tk ho ri lo us gv bs ld qs mS mD 1)) rfl ?_
    refine g_iconst C 0 dX3_signal_37 (by decide +kernel) ?_
    exact g_iret C hret dX3_signal_38 (Nat.le_of_ble_eq_true rfl) (Nat.le_of_ble_eq_true rfl) (Or.inr ⟨hno, rfl⟩)
  · skip
    obtain ⟨kc, hlkc, rfl⟩ := icb_yes (by omega) (bz_1 c_6)
    refine g_aload_n C dX3_signal_9 rfl ?_
    refine g_iload_n C dX3_signal_10 rfl ?_
    refine g_callVi C [] (wM cI cZ q nc nw cx cy ch rm on wx wy dm sv fv hd lf la mg pt bd tk ho ri lo us gv bs ld qs mS mD th) [.int p2] t_X3_isWalker rfl rfl (cwV 1 C.ts gX3_signal_X3_isWalker rfl rfl rfl (by decide +kernel) ⟨Nat.le_of_ble_eq_true rfl, Nat.le_of_ble_eq_true rfl⟩) rfl rfl rfl (Nat.le_of_ble_eq_true rfl) dX3_signal_11 ⟨Nat.le_of_ble_eq_true rfl, Nat.le_of_ble_eq_true rfl⟩ (fun rv3 wv3 hp3 => ?_)
    obtain ⟨rfl, rfl⟩ := hp3
    refine g_w (ws' := (wM cI cZ q nc nw cx cy ch rm on wx wy dm sv fv hd lf la mg pt bd tk ho ri lo us gv bs ld qs mS mD th)) rfl ?_
    refine g_if_eq C 21 dX3_signal_14 (by decide) (fun c_14 => ?_) (fun c_14 => ?_)
    · skip
      have hno : ¬ (IC nc (nI kc) ∧ IC nw p2) := fun h => icb_no (by omega) (bz_0 c_14) h.2
      refine g_iconst C 0 dX3_signal_21 (by decide +kernel) ?_
      refine g_st (st' := [.int (bz false), .ref (q 0)]) rfl ?_
      refine g_callVi C [] (wM cI cZ q nc nw cx cy ch rm on wx wy dm sv fv hd lf la mg pt bd tk ho ri lo us gv bs ld qs mS mD th) [.int (bz false)] t_X3_may rfl rfl (cwV 1 C.ts gX3_signal_X3_may rfl rfl rfl (by decide +kernel) ⟨Nat.le_of_ble_eq_true rfl, Nat.le_of_ble_eq_true rfl⟩) rfl rfl rfl (Nat.le_of_ble_eq_true rfl) dX3_signal_22 ⟨Nat.le_of_ble_eq_true rfl, Nat.le_of_ble_eq_true rfl⟩ (fun rv4 wv4 hp4 => ?_)
      obtain ⟨rfl, rfl⟩ := hp4
      refine g_w (ws' := (wM cI cZ q nc nw cx cy ch rm on wx wy dm sv fv hd lf la mg pt bd tk ho ri lo us gv bs ld qs mS mD (mth false))) rfl ?_
      refine g_if_eq C 37 dX3_signal_25 (by decide) (fun _ => ?_) (fun c9 => absurd rfl c9)
      refine g_w (ws' := (wM cI cZ q nc nw cx cy ch rm on wx wy dm sv fv hd lf la mg pt bd tk ho ri lo us gv bs ld qs mS mD 1)) rfl ?_
      refine g_iconst C 0 dX3_signal_37 (by decide +kernel) ?_
      exact g_iret C hret dX3_signal_38 (Nat.le_of_ble_eq_true rfl) (Nat.le_of_ble_eq_true rfl) (Or.inr ⟨hno, rfl⟩)
    · skip
      obtain ⟨kw, hlkw, rfl⟩ := icb_yes (by omega) (bz_1 c_14)
      refine g_iconst C 1 dX3_signal_17 (by decide +kernel) ?_
      refine g_goto C 22 dX3_signal_18 (by decide) ?_
      refine g_st (st' := [.int (bz true), .ref (q 0)]) rfl ?_
      refine g_callVi C [] (wM cI cZ q nc nw cx cy ch rm on wx wy dm sv fv hd lf la mg pt bd tk ho ri lo us gv bs ld qs mS mD th) [.int (bz true)] t_X3_may rfl rfl (cwV 1 C.ts gX3_signal_X3_may rfl rfl rfl (by decide +kernel) ⟨Nat.le_of_ble_eq_true rfl, Nat.le_of_ble_eq_true rfl⟩) rfl rfl rfl (Nat.le_of_ble_eq_true rfl) dX3_signal_22 ⟨Nat.le_of_ble_eq_true rfl, Nat.le_of_ble_eq_true rfl⟩ (fun rv5 wv5 hp5 => ?_)
      obtain ⟨rfl, rfl⟩ := hp5
      refine g_w (ws' := (wM cI cZ q nc nw cx cy ch rm on wx wy dm sv fv hd lf la mg pt bd tk ho ri lo us gv bs ld qs mS mD (mth true))) rfl ?_
      refine g_if_eq C 37 dX3_signal_25 (by decide) (fun c9 => absurd c9 (by decide)) (fun _ => ?_)
      refine g_w (ws' := (wM cI cZ q nc nw cx cy ch rm on wx wy dm sv fv hd lf la mg pt bd tk ho ri lo us gv bs ld qs mS mD 0)) rfl ?_
      refine g_aload_n C dX3_signal_28 rfl ?_
      refine g_iload_n C dX3_signal_29 rfl ?_
      refine g_iload_n C dX3_signal_30 rfl ?_
      refine g_callVi C [] (wM cI cZ q nc nw cx cy ch rm on wx wy dm sv fv hd lf la mg pt bd tk ho ri lo us gv bs ld qs mS mD 0) [.int (nI kc), .int (nI kw)] (t_X3_signalOf (by omega) (by omega) (hg kc kw hlkc hlkw)) rfl rfl (cwV 2 C.ts gX3_signal_X3_signalOf rfl rfl rfl (by decide +kernel) ⟨Nat.le_of_ble_eq_true rfl, Nat.le_of_ble_eq_true rfl⟩) rfl rfl rfl (Nat.le_of_ble_eq_true rfl) dX3_signal_31 ⟨Nat.le_of_ble_eq_true rfl, Nat.le_of_ble_eq_true rfl⟩ (fun rv6 wv6 hp6 => ?_)
      obtain ⟨rfl, rfl⟩ := hp6
      refine g_w (ws' := (wM cI cZ q nc nw cx cy ch rm on wx wy dm sv fv hd lf la mg pt bd tk ho ri lo us gv bs ld qs mS mD 0)) rfl ?_
      refine g_goto C 38 dX3_signal_34 (by decide) ?_
      exact g_iret C hret dX3_signal_38 (Nat.le_of_ble_eq_true rfl) (Nat.le_of_ble_eq_true rfl) (Or.inl ⟨⟨⟨kc, hlkc, rfl⟩, ⟨kw, hlkw, rfl⟩⟩, (by rw [nI_clamp (by omega), nI_clamp (by omega)]), rfl⟩)
set_option maxHeartbeats 1000000 in
set_option maxRecDepth 100000 in
theorem t_X3_quality {l : Launch} {D : va_G} {cI cZ cJ cG cW : ClassId} {q : Nat → Nat} {nc nw : Nat} {cx cy ch rm on wx wy dm sv fv hd lf la : Nat → Int32} {mg pt bd tk ho ri lo : Int32} {us gv bs ld qs : Nat → Int32} {mS mD th : Int32} {p1 p2 : Int32} (h5 : nc ≤ 5) (h6 : nw ≤ 6) (hr : ∀ c, c < nc → ¬ rm c ≤ 0) (hg : ∀ c w, c < nc → w < nw → ¬ dsq (cx c) (cy c) (wx w) (wy w) = 0) (hQ : GQ nc nw cx cy ch on wx wy rm dm) : CtI l yX3_quality wsX3_quality 3 65 0 0 D (T5 cI cZ cJ cG cW) [.ref (q 0), .int p1, .int p2] (wM cI cZ q nc nw cx cy ch rm on wx wy dm sv fv hd lf la mg pt bd tk ho ri lo us gv bs ld qs mS mD th) (fun rv wv => ((IC nc p1 ∧ IC nw p2) ∧ rv = fqu cx cy ch on wx wy (fil nc (fus rm sv dm nw) us) nc p2.toNatClampNeg p1.toNatClampNeg ∧ wv = (wM cI cZ q nc nw cx cy ch rm on wx wy dm sv fv hd lf la mg pt bd tk ho ri lo (fil nc (fus rm sv dm nw) us) gv bs ld qs mS mD 0)) ∨ (¬ (IC nc p1 ∧ IC nw p2) ∧ wv = (wM cI cZ q nc nw cx cy ch rm on wx wy dm sv fv hd lf la mg pt bd tk ho ri lo us gv bs ld qs mS mD 1))) := by
  refine ctI_of (cc := cX3_quality) (maxL := 3) RX3 0 [some (.ref (q 0)), some (.int p1), some (.int p2)] (by decide +kernel) rfl rfl (Nat.le_of_ble_eq_true rfl) rfl (fun p_ e_ s_ m_ as_ bl_ me_ co_ C hret => ?_)
  refine g_aload_n C dX3_quality_0 rfl ?_
  refine g_aload_n C dX3_quality_1 rfl ?_
  refine g_iload_n C dX3_quality_2 rfl ?_
  refine g_callVi C [] (wM cI cZ q nc nw cx cy ch rm on wx wy dm sv fv hd lf la mg pt bd tk ho ri lo us gv bs ld qs mS mD th) [.int p1] t_X3_isCell rfl rfl (cwV 1 C.ts gX3_quality_X3_isCell rfl rfl rfl (by decide +kernel) ⟨Nat.le_of_ble_eq_true rfl, Nat.le_of_ble_eq_true rfl⟩) rfl rfl rfl (Nat.le_of_ble_eq_true rfl) dX3_quality_3 ⟨Nat.le_of_ble_eq_true rfl, Nat.le_of_ble_eq_true rfl⟩ (fun rv1 wv1 hp1 => ?_)
  obtain ⟨rfl, rfl⟩ := hp1
  refine g_w (ws' := (wM cI cZ q nc nw cx cy ch rm on wx wy dm sv fv hd lf la mg pt bd tk ho ri lo us gv bs ld qs mS mD th)) rfl ?_
  refine g_if_eq C 21 dX3_quality_6 (by decide) (fun c_6 => ?_) (fun c_6 => ?_)
  · skip
    have hno : ¬ (IC nc p1 ∧ IC nw p2) := fun h => icb_no (by omega) (bz_0 c_6) h.1
    refine g_iconst C 0 dX3_quality_21 (by decide +kernel) ?_
    refine g_st (st' := [.int (bz false), .ref (q 0)]) rfl ?_
    refine g_callVi C [] (wM cI cZ q nc nw cx cy ch rm on wx wy dm sv fv hd lf la mg pt bd tk ho ri lo us gv bs ld qs mS mD th) [.int (bz false)] t_X3_may rfl rfl (cwV 1 C.ts gX3_quality_X3_may rfl rfl rfl (by decide +kernel) ⟨Nat.le_of_ble_eq_true rfl, Nat.le_of_ble_eq_true rfl⟩) rfl rfl rfl (Nat.le_of_ble_eq_true rfl) dX3_quality_22 ⟨Nat.le_of_ble_eq_true rfl, Nat.le_of_ble_eq_true rfl⟩ (fun rv2 wv2 hp2 => ?_)
    obtain ⟨rfl, rfl⟩ := hp2
    refine g_w (ws' := (wM cI cZ q nc nw cx cy ch rm on wx wy dm sv fv hd lf la mg pt bd tk ho ri lo us gv bs ld qs mS mD (mth false))) rfl ?_
    refine g_if_ne C 30 dX3_quality_25 (by decide) (fun c9 => absurd rfl c9) (fun _ => ?_)
    refine g_w (ws' := (wM cI cZ q nc nw cx cy ch rm on wx wy dm sv fv hd lf la mg pt bd tk ho ri lo us gv bs ld qs mS mD 1)) rfl ?_
    refine g_iconst C 0 dX3_quality_28 (by decide +kernel) ?_
    exact g_iret C hret dX3_quality_29 (Nat.le_of_ble_eq_true rfl) (Nat.le_of_ble_eq_true rfl) (Or.inr ⟨hno, rfl⟩)
  · skip
    obtain ⟨kc, hlkc, rfl⟩ := icb_yes (by omega) (bz_1 c_6)
    refine g_aload_n C dX3_quality_9 rfl ?_
    refine g_iload_n C dX3_quality_10 rfl ?_
    refine g_callVi C [] (wM cI cZ q nc nw cx cy ch rm on wx wy dm sv fv hd lf la mg pt bd tk ho ri lo us gv bs ld qs mS mD th) [.int p2] t_X3_isWalker rfl rfl (cwV 1 C.ts gX3_quality_X3_isWalker rfl rfl rfl (by decide +kernel) ⟨Nat.le_of_ble_eq_true rfl, Nat.le_of_ble_eq_true rfl⟩) rfl rfl rfl (Nat.le_of_ble_eq_true rfl) dX3_quality_11 ⟨Nat.le_of_ble_eq_true rfl, Nat.le_of_ble_eq_true rfl⟩ (fun rv3 wv3 hp3 => ?_)
    obtain ⟨rfl, rfl⟩ := hp3
    refine g_w (ws' := (wM cI cZ q nc nw cx cy ch rm on wx wy dm sv fv hd lf la mg pt bd tk ho ri lo us gv bs ld qs mS mD th)) rfl ?_
    refine g_if_eq C 21 dX3_quality_14 (by decide) (fun c_14 => ?_) (fun c_14 => ?_)
    · skip
      have hno : ¬ (IC nc (nI kc) ∧ IC nw p2) := fun h => icb_no (by omega) (bz_0 c_14) h.2
      refine g_iconst C 0 dX3_quality_21 (by decide +kernel) ?_
      refine g_st (st' := [.int (bz false), .ref (q 0)]) rfl ?_
      refine g_callVi C [] (wM cI cZ q nc nw cx cy ch rm on wx wy dm sv fv hd lf la mg pt bd tk ho ri lo us gv bs ld qs mS mD th) [.int (bz false)] t_X3_may rfl rfl (cwV 1 C.ts gX3_quality_X3_may rfl rfl rfl (by decide +kernel) ⟨Nat.le_of_ble_eq_true rfl, Nat.le_of_ble_eq_true rfl⟩) rfl rfl rfl (Nat.le_of_ble_eq_true rfl) dX3_quality_22 ⟨Nat.le_of_ble_eq_true rfl, Nat.le_of_ble_eq_true rfl⟩ (fun rv4 wv4 hp4 => ?_)
      obtain ⟨rfl, rfl⟩ := hp4
      refine g_w (ws' := (wM cI cZ q nc nw cx cy ch rm on wx wy dm sv fv hd lf la mg pt bd tk ho ri lo us gv bs ld qs mS mD (mth false))) rfl ?_
      refine g_if_ne C 30 dX3_quality_25 (by decide) (fun c9 => absurd rfl c9) (fun _ => ?_)
      refine g_w (ws' := (wM cI cZ q nc nw cx cy ch rm on wx wy dm sv fv hd lf la mg pt bd tk ho ri lo us gv bs ld qs mS mD 1)) rfl ?_
      refine g_iconst C 0 dX3_quality_28 (by decide +kernel) ?_
      exact g_iret C hret dX3_quality_29 (Nat.le_of_ble_eq_true rfl) (Nat.le_of_ble_eq_true rfl) (Or.inr ⟨hno, rfl⟩)
    · skip
      obtain ⟨kw, hlkw, rfl⟩ := icb_yes (by omega) (bz_1 c_14)
      refine g_iconst C 1 dX3_quality_17 (by decide +kernel) ?_
      refine g_goto C 22 dX3_quality_18 (by decide) ?_
      refine g_st (st' := [.int (bz true), .ref (q 0)]) rfl ?_
      refine g_callVi C [] (wM cI cZ q nc nw cx cy ch rm on wx wy dm sv fv hd lf la mg pt bd tk ho ri lo us gv bs ld qs mS mD th) [.int (bz true)] t_X3_may rfl rfl (cwV 1 C.ts gX3_quality_X3_may rfl rfl rfl (by decide +kernel) ⟨Nat.le_of_ble_eq_true rfl, Nat.le_of_ble_eq_true rfl⟩) rfl rfl rfl (Nat.le_of_ble_eq_true rfl) dX3_quality_22 ⟨Nat.le_of_ble_eq_true rfl, Nat.le_of_ble_eq_true rfl⟩ (fun rv5 wv5 hp5 => ?_)
      obtain ⟨rfl, rfl⟩ := hp5
      refine g_w (ws' := (wM cI cZ q nc nw cx cy ch rm on wx wy dm sv fv hd lf la mg pt bd tk ho ri lo us gv bs ld qs mS mD (mth true))) rfl ?_
      refine g_if_ne C 30 dX3_quality_25 (by decide) (fun _ => ?_) (fun c9 => absurd c9 (by decide))
      refine g_w (ws' := (wM cI cZ q nc nw cx cy ch rm on wx wy dm sv fv hd lf la mg pt bd tk ho ri lo us gv bs ld qs mS mD 0)) rfl ?_
      refine g_aload_n C dX3_quality_30 rfl ?_
      refine g_callVv C [] (wM cI cZ q nc nw cx cy ch rm on wx wy dm sv fv hd lf la mg pt bd tk ho ri lo us gv bs ld qs mS mD 0) [] (t_X3_takeUses h5 h6 hr) rfl rfl (cwV 0 C.ts gX3_quality_X3_takeUses rfl rfl rfl (by decide +kernel) ⟨Nat.le_of_ble_eq_true rfl, Nat.le_of_ble_eq_true rfl⟩) rfl rfl rfl (Nat.le_of_ble_eq_true rfl) dX3_quality_31 ⟨Nat.le_of_ble_eq_true rfl, Nat.le_of_ble_eq_true rfl⟩ (fun wv6 tv6 hp6 => ?_)
      obtain ⟨rfl, rfl⟩ := hp6
      refine g_w (ws' := (wM cI cZ q nc nw cx cy ch rm on wx wy dm sv fv hd lf la mg pt bd tk ho ri lo (fil nc (fus rm sv dm nw) us) gv bs ld qs mS mD 0)) rfl ?_
      refine g_aload_n C dX3_quality_34 rfl ?_
      refine g_iload_n C dX3_quality_35 rfl ?_
      refine g_iload_n C dX3_quality_36 rfl ?_
      refine g_callVi C [] (wM cI cZ q nc nw cx cy ch rm on wx wy dm sv fv hd lf la mg pt bd tk ho ri lo (fil nc (fus rm sv dm nw) us) gv bs ld qs mS mD 0) [.int (nI kc), .int (nI kw)] (t_X3_qualityOf h5 hlkc (by omega) (fun u hu => hg u kw hu hlkw) (hQ sv us kc kw hlkc hlkw)) rfl rfl (cwV 2 C.ts gX3_quality_X3_qualityOf rfl rfl rfl (by decide +kernel) ⟨Nat.le_of_ble_eq_true rfl, Nat.le_of_ble_eq_true rfl⟩) rfl rfl rfl (Nat.le_of_ble_eq_true rfl) dX3_quality_37 ⟨Nat.le_of_ble_eq_true rfl, Nat.le_of_ble_eq_true rfl⟩ (fun rv7 wv7 hp7 => ?_)
      obtain ⟨rfl, rfl⟩ := hp7
      refine g_w (ws' := (wM cI cZ q nc nw cx cy ch rm on wx wy dm sv fv hd lf la mg pt bd tk ho ri lo (fil nc (fus rm sv dm nw) us) gv bs ld qs mS mD 0)) rfl ?_
      exact g_iret C hret dX3_quality_40 (Nat.le_of_ble_eq_true rfl) (Nat.le_of_ble_eq_true rfl) (Or.inl ⟨⟨⟨kc, hlkc, rfl⟩, ⟨kw, hlkw, rfl⟩⟩, (by rw [nI_clamp (by omega), nI_clamp (by omega)]), rfl⟩)
theorem iX3_margin_X3 : ∀ w ∈ u_ws RX3 TX3 30, w ∈ wsX3_margin := by decide +kernel
set_option maxHeartbeats 1000000 in
set_option maxRecDepth 100000 in
theorem t_X3_margin {l : Launch} {D : va_G} {cI cZ cJ cG cW : ClassId} {q : Nat → Nat} {nc nw : Nat} {cx cy ch rm on wx wy dm sv fv hd lf la : Nat → Int32} {mg pt bd tk ho ri lo : Int32} {us gv bs ld qs : Nat → Int32} {mS mD th : Int32} {p1 : Int32}  : CtI l yX3_margin wsX3_margin 1 21 0 0 D (T5 cI cZ cJ cG cW) [.ref (q 0), .int p1] (wM cI cZ q nc nw cx cy ch rm on wx wy dm sv fv hd lf la mg pt bd tk ho ri lo us gv bs ld qs mS mD th) (fun rv wv => ((0 ≤ p1 ∧ p1 ≤ 1000) ∧ rv = mg ∧ wv = (wM cI cZ q nc nw cx cy ch rm on wx wy dm sv fv hd lf la p1 pt bd tk ho ri lo us gv bs ld qs mS mD 0)) ∨ (¬ (0 ≤ p1 ∧ p1 ≤ 1000) ∧ wv = (wM cI cZ q nc nw cx cy ch rm on wx wy dm sv fv hd lf la mg pt bd tk ho ri lo us gv bs ld qs mS mD 1))) := by
  refine ctI_of (cc := cX3_margin) (maxL := 3) RX3 1 [some (.ref (q 0)), some (.int p1), none] (by decide +kernel) rfl rfl (Nat.le_of_ble_eq_true rfl) rfl (fun p_ e_ s_ m_ as_ bl_ me_ co_ C hret => ?_)
  have f50 := C.ts (.fieldLink RX3 50 "CellPlannerModel" "margin" "I") (by decide +kernel)
  refine g_aload_n C dX3_margin_0 rfl ?_
  refine g_iload_n C dX3_margin_1 rfl ?_
  refine g_if_lt C 16 dX3_margin_2 (by decide) (fun c_2 => ?_) (fun c_2 => ?_)
  · skip
    have hno : ¬ (0 ≤ p1 ∧ p1 ≤ 1000) := fun h => Int32.not_le.mpr c_2 h.1
    refine g_iconst C 0 dX3_margin_16 (by decide +kernel) ?_
    refine g_st (st' := [.int (bz false), .ref (q 0)]) rfl ?_
    refine g_callVi C [] (wM cI cZ q nc nw cx cy ch rm on wx wy dm sv fv hd lf la mg pt bd tk ho ri lo us gv bs ld qs mS mD th) [.int (bz false)] t_X3_may rfl rfl (cwV 1 C.ts gX3_margin_X3_may rfl rfl rfl (by decide +kernel) ⟨Nat.le_of_ble_eq_true rfl, Nat.le_of_ble_eq_true rfl⟩) rfl rfl rfl (Nat.le_of_ble_eq_true rfl) dX3_margin_17 ⟨Nat.le_of_ble_eq_true rfl, Nat.le_of_ble_eq_true rfl⟩ (fun rv1 wv1 hp1 => ?_)
    obtain ⟨rfl, rfl⟩ := hp1
    refine g_w (ws' := (wM cI cZ q nc nw cx cy ch rm on wx wy dm sv fv hd lf la mg pt bd tk ho ri lo us gv bs ld qs mS mD (mth false))) rfl ?_
    refine g_if_ne C 25 dX3_margin_20 (by decide) (fun c9 => absurd rfl c9) (fun _ => ?_)
    refine g_w (ws' := (wM cI cZ q nc nw cx cy ch rm on wx wy dm sv fv hd lf la mg pt bd tk ho ri lo us gv bs ld qs mS mD 1)) rfl ?_
    refine g_iconst C 0 dX3_margin_23 (by decide +kernel) ?_
    exact g_iret C hret dX3_margin_24 (Nat.le_of_ble_eq_true rfl) (Nat.le_of_ble_eq_true rfl) (Or.inr ⟨hno, rfl⟩)
  · skip
    refine g_iload_n C dX3_margin_5 rfl ?_
    refine g_sipush C 1000 dX3_margin_6 (by decide +kernel) ?_
    refine g_icmp_gt C 16 dX3_margin_9 (by decide) (fun c_9 => ?_) (fun c_9 => ?_)
    · skip
      have hno : ¬ (0 ≤ p1 ∧ p1 ≤ 1000) := fun h => Int32.not_le.mpr c_9 h.2
      refine g_iconst C 0 dX3_margin_16 (by decide +kernel) ?_
      refine g_st (st' := [.int (bz false), .ref (q 0)]) rfl ?_
      refine g_callVi C [] (wM cI cZ q nc nw cx cy ch rm on wx wy dm sv fv hd lf la mg pt bd tk ho ri lo us gv bs ld qs mS mD th) [.int (bz false)] t_X3_may rfl rfl (cwV 1 C.ts gX3_margin_X3_may rfl rfl rfl (by decide +kernel) ⟨Nat.le_of_ble_eq_true rfl, Nat.le_of_ble_eq_true rfl⟩) rfl rfl rfl (Nat.le_of_ble_eq_true rfl) dX3_margin_17 ⟨Nat.le_of_ble_eq_true rfl, Nat.le_of_ble_eq_true rfl⟩ (fun rv2 wv2 hp2 => ?_)
      obtain ⟨rfl, rfl⟩ := hp2
      refine g_w (ws' := (wM cI cZ q nc nw cx cy ch rm on wx wy dm sv fv hd lf la mg pt bd tk ho ri lo us gv bs ld qs mS mD (mth false))) rfl ?_
      refine g_if_ne C 25 dX3_margin_20 (by decide) (fun c9 => absurd rfl c9) (fun _ => ?_)
      refine g_w (ws' := (wM cI cZ q nc nw cx cy ch rm on wx wy dm sv fv hd lf la mg pt bd tk ho ri lo us gv bs ld qs mS mD 1)) rfl ?_
      refine g_iconst C 0 dX3_margin_23 (by decide +kernel) ?_
      exact g_iret C hret dX3_margin_24 (Nat.le_of_ble_eq_true rfl) (Nat.le_of_ble_eq_true rfl) (Or.inr ⟨hno, rfl⟩)
    · skip
      have hyes : 0 ≤ p1 ∧ p1 ≤ 1000 := ⟨Int32.not_lt.mp c_2, Int32.not_lt.mp c_9⟩
      refine g_iconst C 1 dX3_margin_12 (by decide +kernel) ?_
      refine g_goto C 17 dX3_margin_13 (by decide) ?_
      refine g_st (st' := [.int (bz true), .ref (q 0)]) rfl ?_
      refine g_callVi C [] (wM cI cZ q nc nw cx cy ch rm on wx wy dm sv fv hd lf la mg pt bd tk ho ri lo us gv bs ld qs mS mD th) [.int (bz true)] t_X3_may rfl rfl (cwV 1 C.ts gX3_margin_X3_may rfl rfl rfl (by decide +kernel) ⟨Nat.le_of_ble_eq_true rfl, Nat.le_of_ble_eq_true rfl⟩) rfl rfl rfl (Nat.le_of_ble_eq_true rfl) dX3_margin_17 ⟨Nat.le_of_ble_eq_true rfl, Nat.le_of_ble_eq_true rfl⟩ (fun rv3 wv3 hp3 => ?_)
      obtain ⟨rfl, rfl⟩ := hp3
      refine g_w (ws' := (wM cI cZ q nc nw cx cy ch rm on wx wy dm sv fv hd lf la mg pt bd tk ho ri lo us gv bs ld qs mS mD (mth true))) rfl ?_
      refine g_if_ne C 25 dX3_margin_20 (by decide) (fun _ => ?_) (fun c9 => absurd c9 (by decide))
      refine g_w (ws' := (wM cI cZ q nc nw cx cy ch rm on wx wy dm sv fv hd lf la mg pt bd tk ho ri lo us gv bs ld qs mS mD 0)) rfl ?_
      refine g_aload_n C dX3_margin_25 rfl ?_
      refine g_get C 0 iX3_margin_X3 rfl rfl 15 (by decide) f50 rfl dX3_margin_26 ?_
      refine g_istore_n C [some (.ref (q 0)), some (.int p1), some (.int mg)] dX3_margin_29 (by decide) rfl rfl ?_
      refine g_aload_n C dX3_margin_30 rfl ?_
      refine g_iload_n C dX3_margin_31 rfl ?_
      refine g_put C 0 iX3_margin_X3 rfl rfl 15 (by decide) f50 rfl tyX3 tyX3_ok nmX3 (ty := .int) (by decide +kernel) rfl rfl (Nat.le_of_ble_eq_true rfl) (wM cI cZ q nc nw cx cy ch rm on wx wy dm sv fv hd lf la p1 pt bd tk ho ri lo us gv bs ld qs mS mD 0) rfl dX3_margin_32 ?_
      refine g_iload_n C dX3_margin_35 rfl ?_
      exact g_iret C hret dX3_margin_36 (Nat.le_of_ble_eq_true rfl) (Nat.le_of_ble_eq_true rfl) (Or.inl ⟨hyes, rfl, rfl⟩)
theorem iX3_patience_X3 : ∀ w ∈ u_ws RX3 TX3 30, w ∈ wsX3_patience := by decide +kernel
set_option maxHeartbeats 1000000 in
set_option maxRecDepth 100000 in
theorem t_X3_patience {l : Launch} {D : va_G} {cI cZ cJ cG cW : ClassId} {q : Nat → Nat} {nc nw : Nat} {cx cy ch rm on wx wy dm sv fv hd lf la : Nat → Int32} {mg pt bd tk ho ri lo : Int32} {us gv bs ld qs : Nat → Int32} {mS mD th : Int32} {p1 : Int32}  : CtI l yX3_patience wsX3_patience 1 21 0 0 D (T5 cI cZ cJ cG cW) [.ref (q 0), .int p1] (wM cI cZ q nc nw cx cy ch rm on wx wy dm sv fv hd lf la mg pt bd tk ho ri lo us gv bs ld qs mS mD th) (fun rv wv => ((1 ≤ p1 ∧ p1 ≤ 10) ∧ rv = pt ∧ wv = (wM cI cZ q nc nw cx cy ch rm on wx wy dm sv fv hd lf la mg p1 bd tk ho ri lo us gv bs ld qs mS mD 0)) ∨ (¬ (1 ≤ p1 ∧ p1 ≤ 10) ∧ wv = (wM cI cZ q nc nw cx cy ch rm on wx wy dm sv fv hd lf la mg pt bd tk ho ri lo us gv bs ld qs mS mD 1))) := by
  refine ctI_of (cc := cX3_patience) (maxL := 3) RX3 1 [some (.ref (q 0)), some (.int p1), none] (by decide +kernel) rfl rfl (Nat.le_of_ble_eq_true rfl) rfl (fun p_ e_ s_ m_ as_ bl_ me_ co_ C hret => ?_)
  have f54 := C.ts (.fieldLink RX3 54 "CellPlannerModel" "patience" "I") (by decide +kernel)
  refine g_aload_n C dX3_patience_0 rfl ?_
  refine g_iload_n C dX3_patience_1 rfl ?_
  refine g_iconst C 1 dX3_patience_2 (by decide +kernel) ?_
  refine g_icmp_lt C 16 dX3_patience_3 (by decide) (fun c_3 => ?_) (fun c_3 => ?_)
  · skip
    have hno : ¬ (1 ≤ p1 ∧ p1 ≤ 10) := fun h => Int32.not_le.mpr c_3 h.1
    refine g_iconst C 0 dX3_patience_16 (by decide +kernel) ?_
    refine g_st (st' := [.int (bz false), .ref (q 0)]) rfl ?_
    refine g_callVi C [] (wM cI cZ q nc nw cx cy ch rm on wx wy dm sv fv hd lf la mg pt bd tk ho ri lo us gv bs ld qs mS mD th) [.int (bz false)] t_X3_may rfl rfl (cwV 1 C.ts gX3_patience_X3_may rfl rfl rfl (by decide +kernel) ⟨Nat.le_of_ble_eq_true rfl, Nat.le_of_ble_eq_true rfl⟩) rfl rfl rfl (Nat.le_of_ble_eq_true rfl) dX3_patience_17 ⟨Nat.le_of_ble_eq_true rfl, Nat.le_of_ble_eq_true rfl⟩ (fun rv1 wv1 hp1 => ?_)
    obtain ⟨rfl, rfl⟩ := hp1
    refine g_w (ws' := (wM cI cZ q nc nw cx cy ch rm on wx wy dm sv fv hd lf la mg pt bd tk ho ri lo us gv bs ld qs mS mD (mth false))) rfl ?_
    refine g_if_ne C 25 dX3_patience_20 (by decide) (fun c9 => absurd rfl c9) (fun _ => ?_)
    refine g_w (ws' := (wM cI cZ q nc nw cx cy ch rm on wx wy dm sv fv hd lf la mg pt bd tk ho ri lo us gv bs ld qs mS mD 1)) rfl ?_
    refine g_iconst C 0 dX3_patience_23 (by decide +kernel) ?_
    exact g_iret C hret dX3_patience_24 (Nat.le_of_ble_eq_true rfl) (Nat.le_of_ble_eq_true rfl) (Or.inr ⟨hno, rfl⟩)
  · skip
    refine g_iload_n C dX3_patience_6 rfl ?_
    refine g_bipush C 10 dX3_patience_7 (by decide +kernel) ?_
    refine g_icmp_gt C 16 dX3_patience_9 (by decide) (fun c_9 => ?_) (fun c_9 => ?_)
    · skip
      have hno : ¬ (1 ≤ p1 ∧ p1 ≤ 10) := fun h => Int32.not_le.mpr c_9 h.2
      refine g_iconst C 0 dX3_patience_16 (by decide +kernel) ?_
      refine g_st (st' := [.int (bz false), .ref (q 0)]) rfl ?_
      refine g_callVi C [] (wM cI cZ q nc nw cx cy ch rm on wx wy dm sv fv hd lf la mg pt bd tk ho ri lo us gv bs ld qs mS mD th) [.int (bz false)] t_X3_may rfl rfl (cwV 1 C.ts gX3_patience_X3_may rfl rfl rfl (by decide +kernel) ⟨Nat.le_of_ble_eq_true rfl, Nat.le_of_ble_eq_true rfl⟩) rfl rfl rfl (Nat.le_of_ble_eq_true rfl) dX3_patience_17 ⟨Nat.le_of_ble_eq_true rfl, Nat.le_of_ble_eq_true rfl⟩ (fun rv2 wv2 hp2 => ?_)
      obtain ⟨rfl, rfl⟩ := hp2
      refine g_w (ws' := (wM cI cZ q nc nw cx cy ch rm on wx wy dm sv fv hd lf la mg pt bd tk ho ri lo us gv bs ld qs mS mD (mth false))) rfl ?_
      refine g_if_ne C 25 dX3_patience_20 (by decide) (fun c9 => absurd rfl c9) (fun _ => ?_)
      refine g_w (ws' := (wM cI cZ q nc nw cx cy ch rm on wx wy dm sv fv hd lf la mg pt bd tk ho ri lo us gv bs ld qs mS mD 1)) rfl ?_
      refine g_iconst C 0 dX3_patience_23 (by decide +kernel) ?_
      exact g_iret C hret dX3_patience_24 (Nat.le_of_ble_eq_true rfl) (Nat.le_of_ble_eq_true rfl) (Or.inr ⟨hno, rfl⟩)
    · skip
      have hyes : 1 ≤ p1 ∧ p1 ≤ 10 := ⟨Int32.not_lt.mp c_3, Int32.not_lt.mp c_9⟩
      refine g_iconst C 1 dX3_patience_12 (by decide +kernel) ?_
      refine g_goto C 17 dX3_patience_13 (by decide) ?_
      refine g_st (st' := [.int (bz true), .ref (q 0)]) rfl ?_
      refine g_callVi C [] (wM cI cZ q nc nw cx cy ch rm on wx wy dm sv fv hd lf la mg pt bd tk ho ri lo us gv bs ld qs mS mD th) [.int (bz true)] t_X3_may rfl rfl (cwV 1 C.ts gX3_patience_X3_may rfl rfl rfl (by decide +kernel) ⟨Nat.le_of_ble_eq_true rfl, Nat.le_of_ble_eq_true rfl⟩) rfl rfl rfl (Nat.le_of_ble_eq_true rfl) dX3_patience_17 ⟨Nat.le_of_ble_eq_true rfl, Nat.le_of_ble_eq_true rfl⟩ (fun rv3 wv3 hp3 => ?_)
      obtain ⟨rfl, rfl⟩ := hp3
      refine g_w (ws' := (wM cI cZ q nc nw cx cy ch rm on wx wy dm sv fv hd lf la mg pt bd tk ho ri lo us gv bs ld qs mS mD (mth true))) rfl ?_
      refine g_if_ne C 25 dX3_patience_20 (by decide) (fun _ => ?_) (fun c9 => absurd c9 (by decide))
      refine g_w (ws' := (wM cI cZ q nc nw cx cy ch rm on wx wy dm sv fv hd lf la mg pt bd tk ho ri lo us gv bs ld qs mS mD 0)) rfl ?_
      refine g_aload_n C dX3_patience_25 rfl ?_
      refine g_get C 0 iX3_patience_X3 rfl rfl 16 (by decide) f54 rfl dX3_patience_26 ?_
      refine g_istore_n C [some (.ref (q 0)), some (.int p1), some (.int pt)] dX3_patience_29 (by decide) rfl rfl ?_
      refine g_aload_n C dX3_patience_30 rfl ?_
      refine g_iload_n C dX3_patience_31 rfl ?_
      refine g_put C 0 iX3_patience_X3 rfl rfl 16 (by decide) f54 rfl tyX3 tyX3_ok nmX3 (ty := .int) (by decide +kernel) rfl rfl (Nat.le_of_ble_eq_true rfl) (wM cI cZ q nc nw cx cy ch rm on wx wy dm sv fv hd lf la mg p1 bd tk ho ri lo us gv bs ld qs mS mD 0) rfl dX3_patience_32 ?_
      refine g_iload_n C dX3_patience_35 rfl ?_
      exact g_iret C hret dX3_patience_36 (Nat.le_of_ble_eq_true rfl) (Nat.le_of_ble_eq_true rfl) (Or.inl ⟨hyes, rfl, rfl⟩)
theorem iX3_bound_X3 : ∀ w ∈ u_ws RX3 TX3 30, w ∈ wsX3_bound := by decide +kernel
set_option maxHeartbeats 1000000 in
set_option maxRecDepth 100000 in
theorem t_X3_bound {l : Launch} {D : va_G} {cI cZ cJ cG cW : ClassId} {q : Nat → Nat} {nc nw : Nat} {cx cy ch rm on wx wy dm sv fv hd lf la : Nat → Int32} {mg pt bd tk ho ri lo : Int32} {us gv bs ld qs : Nat → Int32} {mS mD th : Int32} {p1 : Int32}  : CtI l yX3_bound wsX3_bound 1 21 0 0 D (T5 cI cZ cJ cG cW) [.ref (q 0), .int p1] (wM cI cZ q nc nw cx cy ch rm on wx wy dm sv fv hd lf la mg pt bd tk ho ri lo us gv bs ld qs mS mD th) (fun rv wv => ((1 ≤ p1 ∧ p1 ≤ 10000) ∧ rv = bd ∧ wv = (wM cI cZ q nc nw cx cy ch rm on wx wy dm sv fv hd lf la mg pt p1 tk ho ri lo us gv bs ld qs mS mD 0)) ∨ (¬ (1 ≤ p1 ∧ p1 ≤ 10000) ∧ wv = (wM cI cZ q nc nw cx cy ch rm on wx wy dm sv fv hd lf la mg pt bd tk ho ri lo us gv bs ld qs mS mD 1))) := by
  refine ctI_of (cc := cX3_bound) (maxL := 3) RX3 1 [some (.ref (q 0)), some (.int p1), none] (by decide +kernel) rfl rfl (Nat.le_of_ble_eq_true rfl) rfl (fun p_ e_ s_ m_ as_ bl_ me_ co_ C hret => ?_)
  have f57 := C.ts (.fieldLink RX3 57 "CellPlannerModel" "bound" "I") (by decide +kernel)
  refine g_aload_n C dX3_bound_0 rfl ?_
  refine g_iload_n C dX3_bound_1 rfl ?_
  refine g_iconst C 1 dX3_bound_2 (by decide +kernel) ?_
  refine g_icmp_lt C 17 dX3_bound_3 (by decide) (fun c_3 => ?_) (fun c_3 => ?_)
  · skip
    have hno : ¬ (1 ≤ p1 ∧ p1 ≤ 10000) := fun h => Int32.not_le.mpr c_3 h.1
    refine g_iconst C 0 dX3_bound_17 (by decide +kernel) ?_
    refine g_st (st' := [.int (bz false), .ref (q 0)]) rfl ?_
    refine g_callVi C [] (wM cI cZ q nc nw cx cy ch rm on wx wy dm sv fv hd lf la mg pt bd tk ho ri lo us gv bs ld qs mS mD th) [.int (bz false)] t_X3_may rfl rfl (cwV 1 C.ts gX3_bound_X3_may rfl rfl rfl (by decide +kernel) ⟨Nat.le_of_ble_eq_true rfl, Nat.le_of_ble_eq_true rfl⟩) rfl rfl rfl (Nat.le_of_ble_eq_true rfl) dX3_bound_18 ⟨Nat.le_of_ble_eq_true rfl, Nat.le_of_ble_eq_true rfl⟩ (fun rv1 wv1 hp1 => ?_)
    obtain ⟨rfl, rfl⟩ := hp1
    refine g_w (ws' := (wM cI cZ q nc nw cx cy ch rm on wx wy dm sv fv hd lf la mg pt bd tk ho ri lo us gv bs ld qs mS mD (mth false))) rfl ?_
    refine g_if_ne C 26 dX3_bound_21 (by decide) (fun c9 => absurd rfl c9) (fun _ => ?_)
    refine g_w (ws' := (wM cI cZ q nc nw cx cy ch rm on wx wy dm sv fv hd lf la mg pt bd tk ho ri lo us gv bs ld qs mS mD 1)) rfl ?_
    refine g_iconst C 0 dX3_bound_24 (by decide +kernel) ?_
    exact g_iret C hret dX3_bound_25 (Nat.le_of_ble_eq_true rfl) (Nat.le_of_ble_eq_true rfl) (Or.inr ⟨hno, rfl⟩)
  · skip
    refine g_iload_n C dX3_bound_6 rfl ?_
    refine g_sipush C 10000 dX3_bound_7 (by decide +kernel) ?_
    refine g_icmp_gt C 17 dX3_bound_10 (by decide) (fun c_10 => ?_) (fun c_10 => ?_)
    · skip
      have hno : ¬ (1 ≤ p1 ∧ p1 ≤ 10000) := fun h => Int32.not_le.mpr c_10 h.2
      refine g_iconst C 0 dX3_bound_17 (by decide +kernel) ?_
      refine g_st (st' := [.int (bz false), .ref (q 0)]) rfl ?_
      refine g_callVi C [] (wM cI cZ q nc nw cx cy ch rm on wx wy dm sv fv hd lf la mg pt bd tk ho ri lo us gv bs ld qs mS mD th) [.int (bz false)] t_X3_may rfl rfl (cwV 1 C.ts gX3_bound_X3_may rfl rfl rfl (by decide +kernel) ⟨Nat.le_of_ble_eq_true rfl, Nat.le_of_ble_eq_true rfl⟩) rfl rfl rfl (Nat.le_of_ble_eq_true rfl) dX3_bound_18 ⟨Nat.le_of_ble_eq_true rfl, Nat.le_of_ble_eq_true rfl⟩ (fun rv2 wv2 hp2 => ?_)
      obtain ⟨rfl, rfl⟩ := hp2
      refine g_w (ws' := (wM cI cZ q nc nw cx cy ch rm on wx wy dm sv fv hd lf la mg pt bd tk ho ri lo us gv bs ld qs mS mD (mth false))) rfl ?_
      refine g_if_ne C 26 dX3_bound_21 (by decide) (fun c9 => absurd rfl c9) (fun _ => ?_)
      refine g_w (ws' := (wM cI cZ q nc nw cx cy ch rm on wx wy dm sv fv hd lf la mg pt bd tk ho ri lo us gv bs ld qs mS mD 1)) rfl ?_
      refine g_iconst C 0 dX3_bound_24 (by decide +kernel) ?_
      exact g_iret C hret dX3_bound_25 (Nat.le_of_ble_eq_true rfl) (Nat.le_of_ble_eq_true rfl) (Or.inr ⟨hno, rfl⟩)
    · skip
      have hyes : 1 ≤ p1 ∧ p1 ≤ 10000 := ⟨Int32.not_lt.mp c_3, Int32.not_lt.mp c_10⟩
      refine g_iconst C 1 dX3_bound_13 (by decide +kernel) ?_
      refine g_goto C 18 dX3_bound_14 (by decide) ?_
      refine g_st (st' := [.int (bz true), .ref (q 0)]) rfl ?_
      refine g_callVi C [] (wM cI cZ q nc nw cx cy ch rm on wx wy dm sv fv hd lf la mg pt bd tk ho ri lo us gv bs ld qs mS mD th) [.int (bz true)] t_X3_may rfl rfl (cwV 1 C.ts gX3_bound_X3_may rfl rfl rfl (by decide +kernel) ⟨Nat.le_of_ble_eq_true rfl, Nat.le_of_ble_eq_true rfl⟩) rfl rfl rfl (Nat.le_of_ble_eq_true rfl) dX3_bound_18 ⟨Nat.le_of_ble_eq_true rfl, Nat.le_of_ble_eq_true rfl⟩ (fun rv3 wv3 hp3 => ?_)
      obtain ⟨rfl, rfl⟩ := hp3
      refine g_w (ws' := (wM cI cZ q nc nw cx cy ch rm on wx wy dm sv fv hd lf la mg pt bd tk ho ri lo us gv bs ld qs mS mD (mth true))) rfl ?_
      refine g_if_ne C 26 dX3_bound_21 (by decide) (fun _ => ?_) (fun c9 => absurd c9 (by decide))
      refine g_w (ws' := (wM cI cZ q nc nw cx cy ch rm on wx wy dm sv fv hd lf la mg pt bd tk ho ri lo us gv bs ld qs mS mD 0)) rfl ?_
      refine g_aload_n C dX3_bound_26 rfl ?_
      refine g_get C 0 iX3_bound_X3 rfl rfl 17 (by decide) f57 rfl dX3_bound_27 ?_
      refine g_istore_n C [some (.ref (q 0)), some (.int p1), some (.int bd)] dX3_bound_30 (by decide) rfl rfl ?_
      refine g_aload_n C dX3_bound_31 rfl ?_
      refine g_iload_n C dX3_bound_32 rfl ?_
      refine g_put C 0 iX3_bound_X3 rfl rfl 17 (by decide) f57 rfl tyX3 tyX3_ok nmX3 (ty := .int) (by decide +kernel) rfl rfl (Nat.le_of_ble_eq_true rfl) (wM cI cZ q nc nw cx cy ch rm on wx wy dm sv fv hd lf la mg pt p1 tk ho ri lo us gv bs ld qs mS mD 0) rfl dX3_bound_33 ?_
      refine g_iload_n C dX3_bound_36 rfl ?_
      exact g_iret C hret dX3_bound_37 (Nat.le_of_ble_eq_true rfl) (Nat.le_of_ble_eq_true rfl) (Or.inl ⟨hyes, rfl, rfl⟩)
theorem iX3_cell_X3 : ∀ w ∈ u_ws RX3 TX3 30, w ∈ wsX3_cell := by decide +kernel
set_option maxHeartbeats 1000000 in
set_option maxRecDepth 100000 in
theorem t_X3_cell {l : Launch} {D : va_G} {cI cZ cJ cG cW : ClassId} {q : Nat → Nat} {nc nw : Nat} {cx cy ch rm on wx wy dm sv fv hd lf la : Nat → Int32} {mg pt bd tk ho ri lo : Int32} {us gv bs ld qs : Nat → Int32} {mS mD th : Int32} {p1 p2 p3 p4 : Int32} (h5 : nc ≤ 5) : CtI l yX3_cell wsX3_cell 1 22 0 0 D (T5 cI cZ cJ cG cW) [.ref (q 0), .int p1, .int p2, .int p3, .int p4] (wM cI cZ q nc nw cx cy ch rm on wx wy dm sv fv hd lf la mg pt bd tk ho ri lo us gv bs ld qs mS mD th) (fun rv wv => ((inC p1 p2 p3 p4 ∧ nc < 5) ∧ rv = nI nc ∧ wv = (wM cI cZ q (nc + 1) nw (upd cx nc p1) (upd cy nc p2) (upd ch nc p3) (upd rm nc p4) (upd on nc 1) wx wy dm sv fv hd lf la mg pt bd tk ho ri lo us gv bs ld qs mS mD 0)) ∨ (¬ inC p1 p2 p3 p4 ∧ wv = (wM cI cZ q nc nw cx cy ch rm on wx wy dm sv fv hd lf la mg pt bd tk ho ri lo us gv bs ld qs mS mD 1)) ∨ ((inC p1 p2 p3 p4 ∧ ¬ nc < 5) ∧ wv = (wM cI cZ q nc nw cx cy ch rm on wx wy dm sv fv hd lf la mg pt bd tk ho ri lo us gv bs ld qs mS mD 2))) := by
  refine ctI_of (cc := cX3_cell) (maxL := 6) RX3 1 [some (.ref (q 0)), some (.int p1), some (.int p2), some (.int p3), some (.int p4), none] (by decide +kernel) rfl rfl (Nat.le_of_ble_eq_true rfl) rfl (fun p_ e_ s_ m_ as_ bl_ me_ co_ C hret => ?_)
  have f7 := C.ts (.fieldLink RX3 7 "CellPlannerModel" "cellX" "[I") (by decide +kernel)
  have f13 := C.ts (.fieldLink RX3 13 "CellPlannerModel" "cellY" "[I") (by decide +kernel)
  have f16 := C.ts (.fieldLink RX3 16 "CellPlannerModel" "channel" "[I") (by decide +kernel)
  have f19 := C.ts (.fieldLink RX3 19 "CellPlannerModel" "room" "[I") (by decide +kernel)
  have f22 := C.ts (.fieldLink RX3 22 "CellPlannerModel" "on" "[Z") (by decide +kernel)
  have f78 := C.ts (.fieldLink RX3 78 "CellPlannerModel" "cells" "I") (by decide +kernel)
  refine g_iload_n C dX3_cell_0 rfl ?_
  refine g_i2l C p1.toInt64 dX3_cell_1 rfl ?_
  refine g_callSi C (wM cI cZ q nc nw cx cy ch rm on wx wy dm sv fv hd lf la mg pt bd tk ho ri lo us gv bs ld qs mS mD th) [] [.long p1.toInt64] t_X3_isOnLand (va_cwS 1 C.ts gX3_cell_X3_isOnLand rfl rfl rfl (by decide +kernel) ⟨Nat.le_of_ble_eq_true rfl, Nat.le_of_ble_eq_true rfl⟩) rfl (List.append_nil _).symm rfl (Nat.le_of_ble_eq_true rfl) dX3_cell_2 ⟨Nat.le_of_ble_eq_true rfl, Nat.le_of_ble_eq_true rfl⟩ (fun rv1 wv1 hp1 => ?_)
  obtain ⟨rfl, rfl⟩ := hp1
  refine g_w (ws' := (wM cI cZ q nc nw cx cy ch rm on wx wy dm sv fv hd lf la mg pt bd tk ho ri lo us gv bs ld qs mS mD th)) (List.append_nil _) ?_
  refine g_if_eq C 42 dX3_cell_5 (by decide) (fun c_5 => ?_) (fun c_5 => ?_)
  · skip
    have hn : ¬ inC p1 p2 p3 p4 := fun h => lnb_no c_5 (rng_i.mpr h.1)
    refine g_iconst C 0 dX3_cell_42 (by decide +kernel) ?_
    refine g_istore C [some (.ref (q 0)), some (.int p1), some (.int p2), some (.int p3), some (.int p4), some (.int 0)] dX3_cell_43 (by decide) rfl rfl ?_
    refine g_aload_n C dX3_cell_45 rfl ?_
    refine g_iload C dX3_cell_46 rfl ?_
    refine g_aload_n C dX3_cell_48 rfl ?_
    refine g_get C 0 iX3_cell_X3 rfl rfl 0 (by decide) f78 rfl dX3_cell_49 ?_
    refine g_iconst C 5 dX3_cell_52 (by decide +kernel) ?_
    refine g_icmp_ge C 60 dX3_cell_53 (by decide) (fun c_53 => ?_) (fun c_53 => ?_)
    · skip
      have c_53 : ¬ nc < 5 := fun h => Int32.not_lt.mpr c_53 ((nI_ltI (a := nc) (b := 5) (by omega) (by decide)).mpr h)
      refine g_iconst C 0 dX3_cell_60 (by decide +kernel) ?_
      refine g_st (st' := [.int (bz false), .int (bz false), .ref (q 0)]) rfl ?_
      refine g_callVi C [] (wM cI cZ q nc nw cx cy ch rm on wx wy dm sv fv hd lf la mg pt bd tk ho ri lo us gv bs ld qs mS mD th) [.int (bz false), .int (bz false)] t_X3_mayBoth rfl rfl (cwV 2 C.ts gX3_cell_X3_mayBoth rfl rfl rfl (by decide +kernel) ⟨Nat.le_of_ble_eq_true rfl, Nat.le_of_ble_eq_true rfl⟩) rfl rfl rfl (Nat.le_of_ble_eq_true rfl) dX3_cell_61 ⟨Nat.le_of_ble_eq_true rfl, Nat.le_of_ble_eq_true rfl⟩ (fun rv2 wv2 hp2 => ?_)
      obtain ⟨rfl, rfl⟩ := hp2
      refine g_w (ws' := (wM cI cZ q nc nw cx cy ch rm on wx wy dm sv fv hd lf la mg pt bd tk ho ri lo us gv bs ld qs mS mD (mbt false false))) rfl ?_
      refine g_if_ne C 69 dX3_cell_64 (by decide) (fun c9 => absurd rfl c9) (fun _ => ?_)
      refine g_w (ws' := (wM cI cZ q nc nw cx cy ch rm on wx wy dm sv fv hd lf la mg pt bd tk ho ri lo us gv bs ld qs mS mD 1)) rfl ?_
      refine g_iconst C 0 dX3_cell_67 (by decide +kernel) ?_
      exact g_iret C hret dX3_cell_68 (Nat.le_of_ble_eq_true rfl) (Nat.le_of_ble_eq_true rfl) (Or.inr (Or.inl ⟨hn, rfl⟩))
    · skip
      have c_53 : nc < 5 := (nI_ltI (a := nc) (b := 5) (by omega) (by decide)).mp (Int32.not_le.mp c_53)
      refine g_iconst C 1 dX3_cell_56 (by decide +kernel) ?_
      refine g_goto C 61 dX3_cell_57 (by decide) ?_
      refine g_st (st' := [.int (bz true), .int (bz false), .ref (q 0)]) rfl ?_
      refine g_callVi C [] (wM cI cZ q nc nw cx cy ch rm on wx wy dm sv fv hd lf la mg pt bd tk ho ri lo us gv bs ld qs mS mD th) [.int (bz false), .int (bz true)] t_X3_mayBoth rfl rfl (cwV 2 C.ts gX3_cell_X3_mayBoth rfl rfl rfl (by decide +kernel) ⟨Nat.le_of_ble_eq_true rfl, Nat.le_of_ble_eq_true rfl⟩) rfl rfl rfl (Nat.le_of_ble_eq_true rfl) dX3_cell_61 ⟨Nat.le_of_ble_eq_true rfl, Nat.le_of_ble_eq_true rfl⟩ (fun rv3 wv3 hp3 => ?_)
      obtain ⟨rfl, rfl⟩ := hp3
      refine g_w (ws' := (wM cI cZ q nc nw cx cy ch rm on wx wy dm sv fv hd lf la mg pt bd tk ho ri lo us gv bs ld qs mS mD (mbt false true))) rfl ?_
      refine g_if_ne C 69 dX3_cell_64 (by decide) (fun c9 => absurd rfl c9) (fun _ => ?_)
      refine g_w (ws' := (wM cI cZ q nc nw cx cy ch rm on wx wy dm sv fv hd lf la mg pt bd tk ho ri lo us gv bs ld qs mS mD 1)) rfl ?_
      refine g_iconst C 0 dX3_cell_67 (by decide +kernel) ?_
      exact g_iret C hret dX3_cell_68 (Nat.le_of_ble_eq_true rfl) (Nat.le_of_ble_eq_true rfl) (Or.inr (Or.inl ⟨hn, rfl⟩))
  · skip
    refine g_iload_n C dX3_cell_8 rfl ?_
    refine g_i2l C p2.toInt64 dX3_cell_9 rfl ?_
    refine g_callSi C (wM cI cZ q nc nw cx cy ch rm on wx wy dm sv fv hd lf la mg pt bd tk ho ri lo us gv bs ld qs mS mD th) [] [.long p2.toInt64] t_X3_isOnLand (va_cwS 1 C.ts gX3_cell_X3_isOnLand rfl rfl rfl (by decide +kernel) ⟨Nat.le_of_ble_eq_true rfl, Nat.le_of_ble_eq_true rfl⟩) rfl (List.append_nil _).symm rfl (Nat.le_of_ble_eq_true rfl) dX3_cell_10 ⟨Nat.le_of_ble_eq_true rfl, Nat.le_of_ble_eq_true rfl⟩ (fun rv4 wv4 hp4 => ?_)
    obtain ⟨rfl, rfl⟩ := hp4
    refine g_w (ws' := (wM cI cZ q nc nw cx cy ch rm on wx wy dm sv fv hd lf la mg pt bd tk ho ri lo us gv bs ld qs mS mD th)) (List.append_nil _) ?_
    refine g_if_eq C 42 dX3_cell_13 (by decide) (fun c_13 => ?_) (fun c_13 => ?_)
    · skip
      have hn : ¬ inC p1 p2 p3 p4 := fun h => lnb_no c_13 (rng_i.mpr h.2.1)
      refine g_iconst C 0 dX3_cell_42 (by decide +kernel) ?_
      refine g_istore C [some (.ref (q 0)), some (.int p1), some (.int p2), some (.int p3), some (.int p4), some (.int 0)] dX3_cell_43 (by decide) rfl rfl ?_
      refine g_aload_n C dX3_cell_45 rfl ?_
      refine g_iload C dX3_cell_46 rfl ?_
      refine g_aload_n C dX3_cell_48 rfl ?_
      refine g_get C 0 iX3_cell_X3 rfl rfl 0 (by decide) f78 rfl dX3_cell_49 ?_
      refine g_iconst C 5 dX3_cell_52 (by decide +kernel) ?_
      refine g_icmp_ge C 60 dX3_cell_53 (by decide) (fun c_53 => ?_) (fun c_53 => ?_)
      · skip
        have c_53 : ¬ nc < 5 := fun h => Int32.not_lt.mpr c_53 ((nI_ltI (a := nc) (b := 5) (by omega) (by decide)).mpr h)
        refine g_iconst C 0 dX3_cell_60 (by decide +kernel) ?_
        refine g_st (st' := [.int (bz false), .int (bz false), .ref (q 0)]) rfl ?_
        refine g_callVi C [] (wM cI cZ q nc nw cx cy ch rm on wx wy dm sv fv hd lf la mg pt bd tk ho ri lo us gv bs ld qs mS mD th) [.int (bz false), .int (bz false)] t_X3_mayBoth rfl rfl (cwV 2 C.ts gX3_cell_X3_mayBoth rfl rfl rfl (by decide +kernel) ⟨Nat.le_of_ble_eq_true rfl, Nat.le_of_ble_eq_true rfl⟩) rfl rfl rfl (Nat.le_of_ble_eq_true rfl) dX3_cell_61 ⟨Nat.le_of_ble_eq_true rfl, Nat.le_of_ble_eq_true rfl⟩ (fun rv5 wv5 hp5 => ?_)
        obtain ⟨rfl, rfl⟩ := hp5
        refine g_w (ws' := (wM cI cZ q nc nw cx cy ch rm on wx wy dm sv fv hd lf la mg pt bd tk ho ri lo us gv bs ld qs mS mD (mbt false false))) rfl ?_
        refine g_if_ne C 69 dX3_cell_64 (by decide) (fun c9 => absurd rfl c9) (fun _ => ?_)
        refine g_w (ws' := (wM cI cZ q nc nw cx cy ch rm on wx wy dm sv fv hd lf la mg pt bd tk ho ri lo us gv bs ld qs mS mD 1)) rfl ?_
        refine g_iconst C 0 dX3_cell_67 (by decide +kernel) ?_
        exact g_iret C hret dX3_cell_68 (Nat.le_of_ble_eq_true rfl) (Nat.le_of_ble_eq_true rfl) (Or.inr (Or.inl ⟨hn, rfl⟩))
      · skip
        have c_53 : nc < 5 := (nI_ltI (a := nc) (b := 5) (by omega) (by decide)).mp (Int32.not_le.mp c_53)
        refine g_iconst C 1 dX3_cell_56 (by decide +kernel) ?_
        refine g_goto C 61 dX3_cell_57 (by decide) ?_
        refine g_st (st' := [.int (bz true), .int (bz false), .ref (q 0)]) rfl ?_
        refine g_callVi C [] (wM cI cZ q nc nw cx cy ch rm on wx wy dm sv fv hd lf la mg pt bd tk ho ri lo us gv bs ld qs mS mD th) [.int (bz false), .int (bz true)] t_X3_mayBoth rfl rfl (cwV 2 C.ts gX3_cell_X3_mayBoth rfl rfl rfl (by decide +kernel) ⟨Nat.le_of_ble_eq_true rfl, Nat.le_of_ble_eq_true rfl⟩) rfl rfl rfl (Nat.le_of_ble_eq_true rfl) dX3_cell_61 ⟨Nat.le_of_ble_eq_true rfl, Nat.le_of_ble_eq_true rfl⟩ (fun rv6 wv6 hp6 => ?_)
        obtain ⟨rfl, rfl⟩ := hp6
        refine g_w (ws' := (wM cI cZ q nc nw cx cy ch rm on wx wy dm sv fv hd lf la mg pt bd tk ho ri lo us gv bs ld qs mS mD (mbt false true))) rfl ?_
        refine g_if_ne C 69 dX3_cell_64 (by decide) (fun c9 => absurd rfl c9) (fun _ => ?_)
        refine g_w (ws' := (wM cI cZ q nc nw cx cy ch rm on wx wy dm sv fv hd lf la mg pt bd tk ho ri lo us gv bs ld qs mS mD 1)) rfl ?_
        refine g_iconst C 0 dX3_cell_67 (by decide +kernel) ?_
        exact g_iret C hret dX3_cell_68 (Nat.le_of_ble_eq_true rfl) (Nat.le_of_ble_eq_true rfl) (Or.inr (Or.inl ⟨hn, rfl⟩))
    · skip
      refine g_iload_n C dX3_cell_16 rfl ?_
      refine g_if_lt C 42 dX3_cell_17 (by decide) (fun c_17 => ?_) (fun c_17 => ?_)
      · skip
        have hn : ¬ inC p1 p2 p3 p4 := fun h => Int32.not_le.mpr c_17 h.2.2.1.1
        refine g_iconst C 0 dX3_cell_42 (by decide +kernel) ?_
        refine g_istore C [some (.ref (q 0)), some (.int p1), some (.int p2), some (.int p3), some (.int p4), some (.int 0)] dX3_cell_43 (by decide) rfl rfl ?_
        refine g_aload_n C dX3_cell_45 rfl ?_
        refine g_iload C dX3_cell_46 rfl ?_
        refine g_aload_n C dX3_cell_48 rfl ?_
        refine g_get C 0 iX3_cell_X3 rfl rfl 0 (by decide) f78 rfl dX3_cell_49 ?_
        refine g_iconst C 5 dX3_cell_52 (by decide +kernel) ?_
        refine g_icmp_ge C 60 dX3_cell_53 (by decide) (fun c_53 => ?_) (fun c_53 => ?_)
        · skip
          have c_53 : ¬ nc < 5 := fun h => Int32.not_lt.mpr c_53 ((nI_ltI (a := nc) (b := 5) (by omega) (by decide)).mpr h)
          refine g_iconst C 0 dX3_cell_60 (by decide +kernel) ?_
          refine g_st (st' := [.int (bz false), .int (bz false), .ref (q 0)]) rfl ?_
          refine g_callVi C [] (wM cI cZ q nc nw cx cy ch rm on wx wy dm sv fv hd lf la mg pt bd tk ho ri lo us gv bs ld qs mS mD th) [.int (bz false), .int (bz false)] t_X3_mayBoth rfl rfl (cwV 2 C.ts gX3_cell_X3_mayBoth rfl rfl rfl (by decide +kernel) ⟨Nat.le_of_ble_eq_true rfl, Nat.le_of_ble_eq_true rfl⟩) rfl rfl rfl (Nat.le_of_ble_eq_true rfl) dX3_cell_61 ⟨Nat.le_of_ble_eq_true rfl, Nat.le_of_ble_eq_true rfl⟩ (fun rv7 wv7 hp7 => ?_)
          obtain ⟨rfl, rfl⟩ := hp7
          refine g_w (ws' := (wM cI cZ q nc nw cx cy ch rm on wx wy dm sv fv hd lf la mg pt bd tk ho ri lo us gv bs ld qs mS mD (mbt false false))) rfl ?_
          refine g_if_ne C 69 dX3_cell_64 (by decide) (fun c9 => absurd rfl c9) (fun _ => ?_)
          refine g_w (ws' := (wM cI cZ q nc nw cx cy ch rm on wx wy dm sv fv hd lf la mg pt bd tk ho ri lo us gv bs ld qs mS mD 1)) rfl ?_
          refine g_iconst C 0 dX3_cell_67 (by decide +kernel) ?_
          exact g_iret C hret dX3_cell_68 (Nat.le_of_ble_eq_true rfl) (Nat.le_of_ble_eq_true rfl) (Or.inr (Or.inl ⟨hn, rfl⟩))
        · skip
          have c_53 : nc < 5 := (nI_ltI (a := nc) (b := 5) (by omega) (by decide)).mp (Int32.not_le.mp c_53)
          refine g_iconst C 1 dX3_cell_56 (by decide +kernel) ?_
          refine g_goto C 61 dX3_cell_57 (by decide) ?_
          refine g_st (st' := [.int (bz true), .int (bz false), .ref (q 0)]) rfl ?_
          refine g_callVi C [] (wM cI cZ q nc nw cx cy ch rm on wx wy dm sv fv hd lf la mg pt bd tk ho ri lo us gv bs ld qs mS mD th) [.int (bz false), .int (bz true)] t_X3_mayBoth rfl rfl (cwV 2 C.ts gX3_cell_X3_mayBoth rfl rfl rfl (by decide +kernel) ⟨Nat.le_of_ble_eq_true rfl, Nat.le_of_ble_eq_true rfl⟩) rfl rfl rfl (Nat.le_of_ble_eq_true rfl) dX3_cell_61 ⟨Nat.le_of_ble_eq_true rfl, Nat.le_of_ble_eq_true rfl⟩ (fun rv8 wv8 hp8 => ?_)
          obtain ⟨rfl, rfl⟩ := hp8
          refine g_w (ws' := (wM cI cZ q nc nw cx cy ch rm on wx wy dm sv fv hd lf la mg pt bd tk ho ri lo us gv bs ld qs mS mD (mbt false true))) rfl ?_
          refine g_if_ne C 69 dX3_cell_64 (by decide) (fun c9 => absurd rfl c9) (fun _ => ?_)
          refine g_w (ws' := (wM cI cZ q nc nw cx cy ch rm on wx wy dm sv fv hd lf la mg pt bd tk ho ri lo us gv bs ld qs mS mD 1)) rfl ?_
          refine g_iconst C 0 dX3_cell_67 (by decide +kernel) ?_
          exact g_iret C hret dX3_cell_68 (Nat.le_of_ble_eq_true rfl) (Nat.le_of_ble_eq_true rfl) (Or.inr (Or.inl ⟨hn, rfl⟩))
      · skip
        refine g_iload_n C dX3_cell_20 rfl ?_
        refine g_iconst C 2 dX3_cell_21 (by decide +kernel) ?_
        refine g_icmp_gt C 42 dX3_cell_22 (by decide) (fun c_22 => ?_) (fun c_22 => ?_)
        · skip
          have hn : ¬ inC p1 p2 p3 p4 := fun h => Int32.not_le.mpr c_22 h.2.2.1.2
          refine g_iconst C 0 dX3_cell_42 (by decide +kernel) ?_
          refine g_istore C [some (.ref (q 0)), some (.int p1), some (.int p2), some (.int p3), some (.int p4), some (.int 0)] dX3_cell_43 (by decide) rfl rfl ?_
          refine g_aload_n C dX3_cell_45 rfl ?_
          refine g_iload C dX3_cell_46 rfl ?_
          refine g_aload_n C dX3_cell_48 rfl ?_
          refine g_get C 0 iX3_cell_X3 rfl rfl 0 (by decide) f78 rfl dX3_cell_49 ?_
          refine g_iconst C 5 dX3_cell_52 (by decide +kernel) ?_
          refine g_icmp_ge C 60 dX3_cell_53 (by decide) (fun c_53 => ?_) (fun c_53 => ?_)
          · skip
            have c_53 : ¬ nc < 5 := fun h => Int32.not_lt.mpr c_53 ((nI_ltI (a := nc) (b := 5) (by omega) (by decide)).mpr h)
            refine g_iconst C 0 dX3_cell_60 (by decide +kernel) ?_
            refine g_st (st' := [.int (bz false), .int (bz false), .ref (q 0)]) rfl ?_
            refine g_callVi C [] (wM cI cZ q nc nw cx cy ch rm on wx wy dm sv fv hd lf la mg pt bd tk ho ri lo us gv bs ld qs mS mD th) [.int (bz false), .int (bz false)] t_X3_mayBoth rfl rfl (cwV 2 C.ts gX3_cell_X3_mayBoth rfl rfl rfl (by decide +kernel) ⟨Nat.le_of_ble_eq_true rfl, Nat.le_of_ble_eq_true rfl⟩) rfl rfl rfl (Nat.le_of_ble_eq_true rfl) dX3_cell_61 ⟨Nat.le_of_ble_eq_true rfl, Nat.le_of_ble_eq_true rfl⟩ (fun rv9 wv9 hp9 => ?_)
            obtain ⟨rfl, rfl⟩ := hp9
            refine g_w (ws' := (wM cI cZ q nc nw cx cy ch rm on wx wy dm sv fv hd lf la mg pt bd tk ho ri lo us gv bs ld qs mS mD (mbt false false))) rfl ?_
            refine g_if_ne C 69 dX3_cell_64 (by decide) (fun c9 => absurd rfl c9) (fun _ => ?_)
            refine g_w (ws' := (wM cI cZ q nc nw cx cy ch rm on wx wy dm sv fv hd lf la mg pt bd tk ho ri lo us gv bs ld qs mS mD 1)) rfl ?_
            refine g_iconst C 0 dX3_cell_67 (by decide +kernel) ?_
            exact g_iret C hret dX3_cell_68 (Nat.le_of_ble_eq_true rfl) (Nat.le_of_ble_eq_true rfl) (Or.inr (Or.inl ⟨hn, rfl⟩))
          · skip
            have c_53 : nc < 5 := (nI_ltI (a := nc) (b := 5) (by omega) (by decide)).mp (Int32.not_le.mp c_53)
            refine g_iconst C 1 dX3_cell_56 (by decide +kernel) ?_
            refine g_goto C 61 dX3_cell_57 (by decide) ?_
            refine g_st (st' := [.int (bz true), .int (bz false), .ref (q 0)]) rfl ?_
            refine g_callVi C [] (wM cI cZ q nc nw cx cy ch rm on wx wy dm sv fv hd lf la mg pt bd tk ho ri lo us gv bs ld qs mS mD th) [.int (bz false), .int (bz true)] t_X3_mayBoth rfl rfl (cwV 2 C.ts gX3_cell_X3_mayBoth rfl rfl rfl (by decide +kernel) ⟨Nat.le_of_ble_eq_true rfl, Nat.le_of_ble_eq_true rfl⟩) rfl rfl rfl (Nat.le_of_ble_eq_true rfl) dX3_cell_61 ⟨Nat.le_of_ble_eq_true rfl, Nat.le_of_ble_eq_true rfl⟩ (fun rv10 wv10 hp10 => ?_)
            obtain ⟨rfl, rfl⟩ := hp10
            refine g_w (ws' := (wM cI cZ q nc nw cx cy ch rm on wx wy dm sv fv hd lf la mg pt bd tk ho ri lo us gv bs ld qs mS mD (mbt false true))) rfl ?_
            refine g_if_ne C 69 dX3_cell_64 (by decide) (fun c9 => absurd rfl c9) (fun _ => ?_)
            refine g_w (ws' := (wM cI cZ q nc nw cx cy ch rm on wx wy dm sv fv hd lf la mg pt bd tk ho ri lo us gv bs ld qs mS mD 1)) rfl ?_
            refine g_iconst C 0 dX3_cell_67 (by decide +kernel) ?_
            exact g_iret C hret dX3_cell_68 (Nat.le_of_ble_eq_true rfl) (Nat.le_of_ble_eq_true rfl) (Or.inr (Or.inl ⟨hn, rfl⟩))
        · skip
          refine g_iload C dX3_cell_25 rfl ?_
          refine g_iconst C 1 dX3_cell_27 (by decide +kernel) ?_
          refine g_icmp_lt C 42 dX3_cell_28 (by decide) (fun c_28 => ?_) (fun c_28 => ?_)
          · skip
            have hn : ¬ inC p1 p2 p3 p4 := fun h => Int32.not_le.mpr c_28 h.2.2.2.1
            refine g_iconst C 0 dX3_cell_42 (by decide +kernel) ?_
            refine g_istore C [some (.ref (q 0)), some (.int p1), some (.int p2), some (.int p3), some (.int p4), some (.int 0)] dX3_cell_43 (by decide) rfl rfl ?_
            refine g_aload_n C dX3_cell_45 rfl ?_
            refine g_iload C dX3_cell_46 rfl ?_
            refine g_aload_n C dX3_cell_48 rfl ?_
            refine g_get C 0 iX3_cell_X3 rfl rfl 0 (by decide) f78 rfl dX3_cell_49 ?_
            refine g_iconst C 5 dX3_cell_52 (by decide +kernel) ?_
            refine g_icmp_ge C 60 dX3_cell_53 (by decide) (fun c_53 => ?_) (fun c_53 => ?_)
            · skip
              have c_53 : ¬ nc < 5 := fun h => Int32.not_lt.mpr c_53 ((nI_ltI (a := nc) (b := 5) (by omega) (by decide)).mpr h)
              refine g_iconst C 0 dX3_cell_60 (by decide +kernel) ?_
              refine g_st (st' := [.int (bz false), .int (bz false), .ref (q 0)]) rfl ?_
              refine g_callVi C [] (wM cI cZ q nc nw cx cy ch rm on wx wy dm sv fv hd lf la mg pt bd tk ho ri lo us gv bs ld qs mS mD th) [.int (bz false), .int (bz false)] t_X3_mayBoth rfl rfl (cwV 2 C.ts gX3_cell_X3_mayBoth rfl rfl rfl (by decide +kernel) ⟨Nat.le_of_ble_eq_true rfl, Nat.le_of_ble_eq_true rfl⟩) rfl rfl rfl (Nat.le_of_ble_eq_true rfl) dX3_cell_61 ⟨Nat.le_of_ble_eq_true rfl, Nat.le_of_ble_eq_true rfl⟩ (fun rv11 wv11 hp11 => ?_)
              obtain ⟨rfl, rfl⟩ := hp11
              refine g_w (ws' := (wM cI cZ q nc nw cx cy ch rm on wx wy dm sv fv hd lf la mg pt bd tk ho ri lo us gv bs ld qs mS mD (mbt false false))) rfl ?_
              refine g_if_ne C 69 dX3_cell_64 (by decide) (fun c9 => absurd rfl c9) (fun _ => ?_)
              refine g_w (ws' := (wM cI cZ q nc nw cx cy ch rm on wx wy dm sv fv hd lf la mg pt bd tk ho ri lo us gv bs ld qs mS mD 1)) rfl ?_
              refine g_iconst C 0 dX3_cell_67 (by decide +kernel) ?_
              exact g_iret C hret dX3_cell_68 (Nat.le_of_ble_eq_true rfl) (Nat.le_of_ble_eq_true rfl) (Or.inr (Or.inl ⟨hn, rfl⟩))
            · skip
              have c_53 : nc < 5 := (nI_ltI (a := nc) (b := 5) (by omega) (by decide)).mp (Int32.not_le.mp c_53)
              refine g_iconst C 1 dX3_cell_56 (by decide +kernel) ?_
              refine g_goto C 61 dX3_cell_57 (by decide) ?_
              refine g_st (st' := [.int (bz true), .int (bz false), .ref (q 0)]) rfl ?_
              refine g_callVi C [] (wM cI cZ q nc nw cx cy ch rm on wx wy dm sv fv hd lf la mg pt bd tk ho ri lo us gv bs ld qs mS mD th) [.int (bz false), .int (bz true)] t_X3_mayBoth rfl rfl (cwV 2 C.ts gX3_cell_X3_mayBoth rfl rfl rfl (by decide +kernel) ⟨Nat.le_of_ble_eq_true rfl, Nat.le_of_ble_eq_true rfl⟩) rfl rfl rfl (Nat.le_of_ble_eq_true rfl) dX3_cell_61 ⟨Nat.le_of_ble_eq_true rfl, Nat.le_of_ble_eq_true rfl⟩ (fun rv12 wv12 hp12 => ?_)
              obtain ⟨rfl, rfl⟩ := hp12
              refine g_w (ws' := (wM cI cZ q nc nw cx cy ch rm on wx wy dm sv fv hd lf la mg pt bd tk ho ri lo us gv bs ld qs mS mD (mbt false true))) rfl ?_
              refine g_if_ne C 69 dX3_cell_64 (by decide) (fun c9 => absurd rfl c9) (fun _ => ?_)
              refine g_w (ws' := (wM cI cZ q nc nw cx cy ch rm on wx wy dm sv fv hd lf la mg pt bd tk ho ri lo us gv bs ld qs mS mD 1)) rfl ?_
              refine g_iconst C 0 dX3_cell_67 (by decide +kernel) ?_
              exact g_iret C hret dX3_cell_68 (Nat.le_of_ble_eq_true rfl) (Nat.le_of_ble_eq_true rfl) (Or.inr (Or.inl ⟨hn, rfl⟩))
          · skip
            refine g_iload C dX3_cell_31 rfl ?_
            refine g_bipush C 40 dX3_cell_33 (by decide +kernel) ?_
            refine g_icmp_gt C 42 dX3_cell_35 (by decide) (fun c_35 => ?_) (fun c_35 => ?_)
            · skip
              have hn : ¬ inC p1 p2 p3 p4 := fun h => Int32.not_le.mpr c_35 h.2.2.2.2
              refine g_iconst C 0 dX3_cell_42 (by decide +kernel) ?_
              refine g_istore C [some (.ref (q 0)), some (.int p1), some (.int p2), some (.int p3), some (.int p4), some (.int 0)] dX3_cell_43 (by decide) rfl rfl ?_
              refine g_aload_n C dX3_cell_45 rfl ?_
              refine g_iload C dX3_cell_46 rfl ?_
              refine g_aload_n C dX3_cell_48 rfl ?_
              refine g_get C 0 iX3_cell_X3 rfl rfl 0 (by decide) f78 rfl dX3_cell_49 ?_
              refine g_iconst C 5 dX3_cell_52 (by decide +kernel) ?_
              refine g_icmp_ge C 60 dX3_cell_53 (by decide) (fun c_53 => ?_) (fun c_53 => ?_)
              · skip
                have c_53 : ¬ nc < 5 := fun h => Int32.not_lt.mpr c_53 ((nI_ltI (a := nc) (b := 5) (by omega) (by decide)).mpr h)
                refine g_iconst C 0 dX3_cell_60 (by decide +kernel) ?_
                refine g_st (st' := [.int (bz false), .int (bz false), .ref (q 0)]) rfl ?_
                refine g_callVi C [] (wM cI cZ q nc nw cx cy ch rm on wx wy dm sv fv hd lf la mg pt bd tk ho ri lo us gv bs ld qs mS mD th) [.int (bz false), .int (bz false)] t_X3_mayBoth rfl rfl (cwV 2 C.ts gX3_cell_X3_mayBoth rfl rfl rfl (by decide +kernel) ⟨Nat.le_of_ble_eq_true rfl, Nat.le_of_ble_eq_true rfl⟩) rfl rfl rfl (Nat.le_of_ble_eq_true rfl) dX3_cell_61 ⟨Nat.le_of_ble_eq_true rfl, Nat.le_of_ble_eq_true rfl⟩ (fun rv13 wv13 hp13 => ?_)
                obtain ⟨rfl, rfl⟩ := hp13
                refine g_w (ws' := (wM cI cZ q nc nw cx cy ch rm on wx wy dm sv fv hd lf la mg pt bd tk ho ri lo us gv bs ld qs mS mD (mbt false false))) rfl ?_
                refine g_if_ne C 69 dX3_cell_64 (by decide) (fun c9 => absurd rfl c9) (fun _ => ?_)
                refine g_w (ws' := (wM cI cZ q nc nw cx cy ch rm on wx wy dm sv fv hd lf la mg pt bd tk ho ri lo us gv bs ld qs mS mD 1)) rfl ?_
                refine g_iconst C 0 dX3_cell_67 (by decide +kernel) ?_
                exact g_iret C hret dX3_cell_68 (Nat.le_of_ble_eq_true rfl) (Nat.le_of_ble_eq_true rfl) (Or.inr (Or.inl ⟨hn, rfl⟩))
              · skip
                have c_53 : nc < 5 := (nI_ltI (a := nc) (b := 5) (by omega) (by decide)).mp (Int32.not_le.mp c_53)
                refine g_iconst C 1 dX3_cell_56 (by decide +kernel) ?_
                refine g_goto C 61 dX3_cell_57 (by decide) ?_
                refine g_st (st' := [.int (bz true), .int (bz false), .ref (q 0)]) rfl ?_
                refine g_callVi C [] (wM cI cZ q nc nw cx cy ch rm on wx wy dm sv fv hd lf la mg pt bd tk ho ri lo us gv bs ld qs mS mD th) [.int (bz false), .int (bz true)] t_X3_mayBoth rfl rfl (cwV 2 C.ts gX3_cell_X3_mayBoth rfl rfl rfl (by decide +kernel) ⟨Nat.le_of_ble_eq_true rfl, Nat.le_of_ble_eq_true rfl⟩) rfl rfl rfl (Nat.le_of_ble_eq_true rfl) dX3_cell_61 ⟨Nat.le_of_ble_eq_true rfl, Nat.le_of_ble_eq_true rfl⟩ (fun rv14 wv14 hp14 => ?_)
                obtain ⟨rfl, rfl⟩ := hp14
                refine g_w (ws' := (wM cI cZ q nc nw cx cy ch rm on wx wy dm sv fv hd lf la mg pt bd tk ho ri lo us gv bs ld qs mS mD (mbt false true))) rfl ?_
                refine g_if_ne C 69 dX3_cell_64 (by decide) (fun c9 => absurd rfl c9) (fun _ => ?_)
                refine g_w (ws' := (wM cI cZ q nc nw cx cy ch rm on wx wy dm sv fv hd lf la mg pt bd tk ho ri lo us gv bs ld qs mS mD 1)) rfl ?_
                refine g_iconst C 0 dX3_cell_67 (by decide +kernel) ?_
                exact g_iret C hret dX3_cell_68 (Nat.le_of_ble_eq_true rfl) (Nat.le_of_ble_eq_true rfl) (Or.inr (Or.inl ⟨hn, rfl⟩))
            · skip
              have hin : inC p1 p2 p3 p4 := ⟨rng_i.mp (lnb_yes c_5), rng_i.mp (lnb_yes c_13), ⟨Int32.not_lt.mp c_17, Int32.not_lt.mp c_22⟩, Int32.not_lt.mp c_28, Int32.not_lt.mp c_35⟩
              refine g_iconst C 1 dX3_cell_38 (by decide +kernel) ?_
              refine g_goto C 43 dX3_cell_39 (by decide) ?_
              refine g_istore C [some (.ref (q 0)), some (.int p1), some (.int p2), some (.int p3), some (.int p4), some (.int 1)] dX3_cell_43 (by decide) rfl rfl ?_
              refine g_aload_n C dX3_cell_45 rfl ?_
              refine g_iload C dX3_cell_46 rfl ?_
              refine g_aload_n C dX3_cell_48 rfl ?_
              refine g_get C 0 iX3_cell_X3 rfl rfl 0 (by decide) f78 rfl dX3_cell_49 ?_
              refine g_iconst C 5 dX3_cell_52 (by decide +kernel) ?_
              refine g_icmp_ge C 60 dX3_cell_53 (by decide) (fun c_53 => ?_) (fun c_53 => ?_)
              · skip
                have c_53 : ¬ nc < 5 := fun h => Int32.not_lt.mpr c_53 ((nI_ltI (a := nc) (b := 5) (by omega) (by decide)).mpr h)
                refine g_iconst C 0 dX3_cell_60 (by decide +kernel) ?_
                refine g_st (st' := [.int (bz false), .int (bz true), .ref (q 0)]) rfl ?_
                refine g_callVi C [] (wM cI cZ q nc nw cx cy ch rm on wx wy dm sv fv hd lf la mg pt bd tk ho ri lo us gv bs ld qs mS mD th) [.int (bz true), .int (bz false)] t_X3_mayBoth rfl rfl (cwV 2 C.ts gX3_cell_X3_mayBoth rfl rfl rfl (by decide +kernel) ⟨Nat.le_of_ble_eq_true rfl, Nat.le_of_ble_eq_true rfl⟩) rfl rfl rfl (Nat.le_of_ble_eq_true rfl) dX3_cell_61 ⟨Nat.le_of_ble_eq_true rfl, Nat.le_of_ble_eq_true rfl⟩ (fun rv15 wv15 hp15 => ?_)
                obtain ⟨rfl, rfl⟩ := hp15
                refine g_w (ws' := (wM cI cZ q nc nw cx cy ch rm on wx wy dm sv fv hd lf la mg pt bd tk ho ri lo us gv bs ld qs mS mD (mbt true false))) rfl ?_
                refine g_if_ne C 69 dX3_cell_64 (by decide) (fun c9 => absurd rfl c9) (fun _ => ?_)
                refine g_w (ws' := (wM cI cZ q nc nw cx cy ch rm on wx wy dm sv fv hd lf la mg pt bd tk ho ri lo us gv bs ld qs mS mD 2)) rfl ?_
                refine g_iconst C 0 dX3_cell_67 (by decide +kernel) ?_
                exact g_iret C hret dX3_cell_68 (Nat.le_of_ble_eq_true rfl) (Nat.le_of_ble_eq_true rfl) (Or.inr (Or.inr ⟨⟨hin, c_53⟩, rfl⟩))
              · skip
                have c_53 : nc < 5 := (nI_ltI (a := nc) (b := 5) (by omega) (by decide)).mp (Int32.not_le.mp c_53)
                refine g_iconst C 1 dX3_cell_56 (by decide +kernel) ?_
                refine g_goto C 61 dX3_cell_57 (by decide) ?_
                refine g_st (st' := [.int (bz true), .int (bz true), .ref (q 0)]) rfl ?_
                refine g_callVi C [] (wM cI cZ q nc nw cx cy ch rm on wx wy dm sv fv hd lf la mg pt bd tk ho ri lo us gv bs ld qs mS mD th) [.int (bz true), .int (bz true)] t_X3_mayBoth rfl rfl (cwV 2 C.ts gX3_cell_X3_mayBoth rfl rfl rfl (by decide +kernel) ⟨Nat.le_of_ble_eq_true rfl, Nat.le_of_ble_eq_true rfl⟩) rfl rfl rfl (Nat.le_of_ble_eq_true rfl) dX3_cell_61 ⟨Nat.le_of_ble_eq_true rfl, Nat.le_of_ble_eq_true rfl⟩ (fun rv16 wv16 hp16 => ?_)
                obtain ⟨rfl, rfl⟩ := hp16
                refine g_w (ws' := (wM cI cZ q nc nw cx cy ch rm on wx wy dm sv fv hd lf la mg pt bd tk ho ri lo us gv bs ld qs mS mD (mbt true true))) rfl ?_
                refine g_if_ne C 69 dX3_cell_64 (by decide) (fun _ => ?_) (fun c9 => absurd c9 (by decide))
                refine g_w (ws' := (wM cI cZ q nc nw cx cy ch rm on wx wy dm sv fv hd lf la mg pt bd tk ho ri lo us gv bs ld qs mS mD 0)) rfl ?_
                refine g_aload_n C dX3_cell_69 rfl ?_
                refine g_get C 0 iX3_cell_X3 rfl rfl 1 (by decide) f7 rfl dX3_cell_70 ?_
                refine g_aload_n C dX3_cell_73 rfl ?_
                refine g_get C 0 iX3_cell_X3 rfl rfl 0 (by decide) f78 rfl dX3_cell_74 ?_
                refine g_iload_n C dX3_cell_77 rfl ?_
                refine g_iast C 1 0 rfl rfl nc rfl (by omega) (by decide) (wM cI cZ q nc nw (upd cx nc p1) cy ch rm on wx wy dm sv fv hd lf la mg pt bd tk ho ri lo us gv bs ld qs mS mD 0) rfl dX3_cell_78 ?_
                refine g_aload_n C dX3_cell_79 rfl ?_
                refine g_get C 0 iX3_cell_X3 rfl rfl 2 (by decide) f13 rfl dX3_cell_80 ?_
                refine g_aload_n C dX3_cell_83 rfl ?_
                refine g_get C 0 iX3_cell_X3 rfl rfl 0 (by decide) f78 rfl dX3_cell_84 ?_
                refine g_iload_n C dX3_cell_87 rfl ?_
                refine g_iast C 2 0 rfl rfl nc rfl (by omega) (by decide) (wM cI cZ q nc nw (upd cx nc p1) (upd cy nc p2) ch rm on wx wy dm sv fv hd lf la mg pt bd tk ho ri lo us gv bs ld qs mS mD 0) rfl dX3_cell_88 ?_
                refine g_aload_n C dX3_cell_89 rfl ?_
                refine g_get C 0 iX3_cell_X3 rfl rfl 3 (by decide) f16 rfl dX3_cell_90 ?_
                refine g_aload_n C dX3_cell_93 rfl ?_
                refine g_get C 0 iX3_cell_X3 rfl rfl 0 (by decide) f78 rfl dX3_cell_94 ?_
                refine g_iload_n C dX3_cell_97 rfl ?_
                refine g_iast C 3 0 rfl rfl nc rfl (by omega) (by decide) (wM cI cZ q nc nw (upd cx nc p1) (upd cy nc p2) (upd ch nc p3) rm on wx wy dm sv fv hd lf la mg pt bd tk ho ri lo us gv bs ld qs mS mD 0) rfl dX3_cell_98 ?_
                refine g_aload_n C dX3_cell_99 rfl ?_
                refine g_get C 0 iX3_cell_X3 rfl rfl 4 (by decide) f19 rfl dX3_cell_100 ?_
                refine g_aload_n C dX3_cell_103 rfl ?_
                refine g_get C 0 iX3_cell_X3 rfl rfl 0 (by decide) f78 rfl dX3_cell_104 ?_
                refine g_iload C dX3_cell_107 rfl ?_
                refine g_iast C 4 0 rfl rfl nc rfl (by omega) (by decide) (wM cI cZ q nc nw (upd cx nc p1) (upd cy nc p2) (upd ch nc p3) (upd rm nc p4) on wx wy dm sv fv hd lf la mg pt bd tk ho ri lo us gv bs ld qs mS mD 0) rfl dX3_cell_109 ?_
                refine g_aload_n C dX3_cell_110 rfl ?_
                refine g_get C 0 iX3_cell_X3 rfl rfl 5 (by decide) f22 rfl dX3_cell_111 ?_
                refine g_aload_n C dX3_cell_114 rfl ?_
                refine g_get C 0 iX3_cell_X3 rfl rfl 0 (by decide) f78 rfl dX3_cell_115 ?_
                refine g_iconst C 1 dX3_cell_118 (by decide +kernel) ?_
                refine g_zast C 5 1 rfl rfl nc rfl (by omega) (by decide) (wM cI cZ q nc nw (upd cx nc p1) (upd cy nc p2) (upd ch nc p3) (upd rm nc p4) (upd on nc 1) wx wy dm sv fv hd lf la mg pt bd tk ho ri lo us gv bs ld qs mS mD 0) rfl dX3_cell_119 ?_
                refine g_aload_n C dX3_cell_120 rfl ?_
                refine g_dup C dX3_cell_121 rfl ?_
                refine g_get C 0 iX3_cell_X3 rfl rfl 0 (by decide) f78 rfl dX3_cell_122 ?_
                refine g_iconst C 1 dX3_cell_125 (by decide +kernel) ?_
                refine g_iadd C (nI (nc + 1)) dX3_cell_126 (nI_1 nc) ?_
                refine g_put C 0 iX3_cell_X3 rfl rfl 0 (by decide) f78 rfl tyX3 tyX3_ok nmX3 (ty := .int) (by decide +kernel) rfl rfl (Nat.le_of_ble_eq_true rfl) (wM cI cZ q (nc + 1) nw (upd cx nc p1) (upd cy nc p2) (upd ch nc p3) (upd rm nc p4) (upd on nc 1) wx wy dm sv fv hd lf la mg pt bd tk ho ri lo us gv bs ld qs mS mD 0) rfl dX3_cell_127 ?_
                refine g_aload_n C dX3_cell_130 rfl ?_
                refine g_get C 0 iX3_cell_X3 rfl rfl 0 (by decide) f78 rfl dX3_cell_131 ?_
                refine g_iconst C 1 dX3_cell_134 (by decide +kernel) ?_
                refine g_isub C (nI nc) dX3_cell_135 (nI_pred _) ?_
                exact g_iret C hret dX3_cell_136 (Nat.le_of_ble_eq_true rfl) (Nat.le_of_ble_eq_true rfl) (Or.inl ⟨⟨hin, c_53⟩, rfl, rfl⟩)
theorem iX3_walker_X3 : ∀ w ∈ u_ws RX3 TX3 30, w ∈ wsX3_walker := by decide +kernel
set_option maxHeartbeats 1000000 in
set_option maxRecDepth 100000 in
theorem t_X3_walker {l : Launch} {D : va_G} {cI cZ cJ cG cW : ClassId} {q : Nat → Nat} {nc nw : Nat} {cx cy ch rm on wx wy dm sv fv hd lf la : Nat → Int32} {mg pt bd tk ho ri lo : Int32} {us gv bs ld qs : Nat → Int32} {mS mD th : Int32} {p1 p2 p3 : Int32} (h6 : nw ≤ 6) : CtI l yX3_walker wsX3_walker 1 22 0 0 D (T5 cI cZ cJ cG cW) [.ref (q 0), .int p1, .int p2, .int p3] (wM cI cZ q nc nw cx cy ch rm on wx wy dm sv fv hd lf la mg pt bd tk ho ri lo us gv bs ld qs mS mD th) (fun rv wv => ((inW p1 p2 p3 ∧ nw < 6) ∧ rv = nI nw ∧ wv = (wM cI cZ q nc (nw + 1) cx cy ch rm on (upd wx nw p1) (upd wy nw p2) (upd dm nw p3) (upd sv nw (-1)) (upd fv nw (-1)) (upd hd nw 0) (upd lf nw (-1)) la mg pt bd tk ho ri lo us gv bs ld qs mS mD 0)) ∨ (¬ inW p1 p2 p3 ∧ wv = (wM cI cZ q nc nw cx cy ch rm on wx wy dm sv fv hd lf la mg pt bd tk ho ri lo us gv bs ld qs mS mD 1)) ∨ ((inW p1 p2 p3 ∧ ¬ nw < 6) ∧ wv = (wM cI cZ q nc nw cx cy ch rm on wx wy dm sv fv hd lf la mg pt bd tk ho ri lo us gv bs ld qs mS mD 2))) := by
  refine ctI_of (cc := cX3_walker) (maxL := 4) RX3 0 [some (.ref (q 0)), some (.int p1), some (.int p2), some (.int p3)] (by decide +kernel) rfl rfl (Nat.le_of_ble_eq_true rfl) rfl (fun p_ e_ s_ m_ as_ bl_ me_ co_ C hret => ?_)
  have f26 := C.ts (.fieldLink RX3 26 "CellPlannerModel" "x" "[I") (by decide +kernel)
  have f29 := C.ts (.fieldLink RX3 29 "CellPlannerModel" "y" "[I") (by decide +kernel)
  have f32 := C.ts (.fieldLink RX3 32 "CellPlannerModel" "demand" "[I") (by decide +kernel)
  have f44 := C.ts (.fieldLink RX3 44 "CellPlannerModel" "left" "[I") (by decide +kernel)
  have f81 := C.ts (.fieldLink RX3 81 "CellPlannerModel" "walkers" "I") (by decide +kernel)
  refine g_aload_n C dX3_walker_0 rfl ?_
  refine g_iload_n C dX3_walker_1 rfl ?_
  refine g_i2l C p1.toInt64 dX3_walker_2 rfl ?_
  refine g_callSi C (wM cI cZ q nc nw cx cy ch rm on wx wy dm sv fv hd lf la mg pt bd tk ho ri lo us gv bs ld qs mS mD th) [] [.long p1.toInt64] t_X3_isOnLand (va_cwS 1 C.ts gX3_walker_X3_isOnLand rfl rfl rfl (by decide +kernel) ⟨Nat.le_of_ble_eq_true rfl, Nat.le_of_ble_eq_true rfl⟩) rfl (List.append_nil _).symm rfl (Nat.le_of_ble_eq_true rfl) dX3_walker_3 ⟨Nat.le_of_ble_eq_true rfl, Nat.le_of_ble_eq_true rfl⟩ (fun rv1 wv1 hp1 => ?_)
  obtain ⟨rfl, rfl⟩ := hp1
  refine g_w (ws' := (wM cI cZ q nc nw cx cy ch rm on wx wy dm sv fv hd lf la mg pt bd tk ho ri lo us gv bs ld qs mS mD th)) (List.append_nil _) ?_
  refine g_if_eq C 32 dX3_walker_6 (by decide) (fun c_6 => ?_) (fun c_6 => ?_)
  · skip
    have hn : ¬ inW p1 p2 p3 := fun h => lnb_no c_6 (rng_i.mpr h.1)
    refine g_iconst C 0 dX3_walker_32 (by decide +kernel) ?_
    refine g_aload_n C dX3_walker_33 rfl ?_
    refine g_get C 0 iX3_walker_X3 rfl rfl 6 (by decide) f81 rfl dX3_walker_34 ?_
    refine g_bipush C 6 dX3_walker_37 (by decide +kernel) ?_
    refine g_icmp_ge C 46 dX3_walker_39 (by decide) (fun c_39 => ?_) (fun c_39 => ?_)
    · skip
      have c_39 : ¬ nw < 6 := fun h => Int32.not_lt.mpr c_39 ((nI_ltI (a := nw) (b := 6) (by omega) (by decide)).mpr h)
      refine g_iconst C 0 dX3_walker_46 (by decide +kernel) ?_
      refine g_st (st' := [.int (bz false), .int (bz false), .ref (q 0)]) rfl ?_
      refine g_callVi C [] (wM cI cZ q nc nw cx cy ch rm on wx wy dm sv fv hd lf la mg pt bd tk ho ri lo us gv bs ld qs mS mD th) [.int (bz false), .int (bz false)] t_X3_mayBoth rfl rfl (cwV 2 C.ts gX3_walker_X3_mayBoth rfl rfl rfl (by decide +kernel) ⟨Nat.le_of_ble_eq_true rfl, Nat.le_of_ble_eq_true rfl⟩) rfl rfl rfl (Nat.le_of_ble_eq_true rfl) dX3_walker_47 ⟨Nat.le_of_ble_eq_true rfl, Nat.le_of_ble_eq_true rfl⟩ (fun rv2 wv2 hp2 => ?_)
      obtain ⟨rfl, rfl⟩ := hp2
      refine g_w (ws' := (wM cI cZ q nc nw cx cy ch rm on wx wy dm sv fv hd lf la mg pt bd tk ho ri lo us gv bs ld qs mS mD (mbt false false))) rfl ?_
      refine g_if_ne C 55 dX3_walker_50 (by decide) (fun c9 => absurd rfl c9) (fun _ => ?_)
      refine g_w (ws' := (wM cI cZ q nc nw cx cy ch rm on wx wy dm sv fv hd lf la mg pt bd tk ho ri lo us gv bs ld qs mS mD 1)) rfl ?_
      refine g_iconst C 0 dX3_walker_53 (by decide +kernel) ?_
      exact g_iret C hret dX3_walker_54 (Nat.le_of_ble_eq_true rfl) (Nat.le_of_ble_eq_true rfl) (Or.inr (Or.inl ⟨hn, rfl⟩))
    · skip
      have c_39 : nw < 6 := (nI_ltI (a := nw) (b := 6) (by omega) (by decide)).mp (Int32.not_le.mp c_39)
      refine g_iconst C 1 dX3_walker_42 (by decide +kernel) ?_
      refine g_goto C 47 dX3_walker_43 (by decide) ?_
      refine g_st (st' := [.int (bz true), .int (bz false), .ref (q 0)]) rfl ?_
      refine g_callVi C [] (wM cI cZ q nc nw cx cy ch rm on wx wy dm sv fv hd lf la mg pt bd tk ho ri lo us gv bs ld qs mS mD th) [.int (bz false), .int (bz true)] t_X3_mayBoth rfl rfl (cwV 2 C.ts gX3_walker_X3_mayBoth rfl rfl rfl (by decide +kernel) ⟨Nat.le_of_ble_eq_true rfl, Nat.le_of_ble_eq_true rfl⟩) rfl rfl rfl (Nat.le_of_ble_eq_true rfl) dX3_walker_47 ⟨Nat.le_of_ble_eq_true rfl, Nat.le_of_ble_eq_true rfl⟩ (fun rv3 wv3 hp3 => ?_)
      obtain ⟨rfl, rfl⟩ := hp3
      refine g_w (ws' := (wM cI cZ q nc nw cx cy ch rm on wx wy dm sv fv hd lf la mg pt bd tk ho ri lo us gv bs ld qs mS mD (mbt false true))) rfl ?_
      refine g_if_ne C 55 dX3_walker_50 (by decide) (fun c9 => absurd rfl c9) (fun _ => ?_)
      refine g_w (ws' := (wM cI cZ q nc nw cx cy ch rm on wx wy dm sv fv hd lf la mg pt bd tk ho ri lo us gv bs ld qs mS mD 1)) rfl ?_
      refine g_iconst C 0 dX3_walker_53 (by decide +kernel) ?_
      exact g_iret C hret dX3_walker_54 (Nat.le_of_ble_eq_true rfl) (Nat.le_of_ble_eq_true rfl) (Or.inr (Or.inl ⟨hn, rfl⟩))
  · skip
    refine g_iload_n C dX3_walker_9 rfl ?_
    refine g_i2l C p2.toInt64 dX3_walker_10 rfl ?_
    refine g_callSi C (wM cI cZ q nc nw cx cy ch rm on wx wy dm sv fv hd lf la mg pt bd tk ho ri lo us gv bs ld qs mS mD th) [] [.long p2.toInt64] t_X3_isOnLand (va_cwS 1 C.ts gX3_walker_X3_isOnLand rfl rfl rfl (by decide +kernel) ⟨Nat.le_of_ble_eq_true rfl, Nat.le_of_ble_eq_true rfl⟩) rfl (List.append_nil _).symm rfl (Nat.le_of_ble_eq_true rfl) dX3_walker_11 ⟨Nat.le_of_ble_eq_true rfl, Nat.le_of_ble_eq_true rfl⟩ (fun rv4 wv4 hp4 => ?_)
    obtain ⟨rfl, rfl⟩ := hp4
    refine g_w (ws' := (wM cI cZ q nc nw cx cy ch rm on wx wy dm sv fv hd lf la mg pt bd tk ho ri lo us gv bs ld qs mS mD th)) (List.append_nil _) ?_
    refine g_if_eq C 32 dX3_walker_14 (by decide) (fun c_14 => ?_) (fun c_14 => ?_)
    · skip
      have hn : ¬ inW p1 p2 p3 := fun h => lnb_no c_14 (rng_i.mpr h.2.1)
      refine g_iconst C 0 dX3_walker_32 (by decide +kernel) ?_
      refine g_aload_n C dX3_walker_33 rfl ?_
      refine g_get C 0 iX3_walker_X3 rfl rfl 6 (by decide) f81 rfl dX3_walker_34 ?_
      refine g_bipush C 6 dX3_walker_37 (by decide +kernel) ?_
      refine g_icmp_ge C 46 dX3_walker_39 (by decide) (fun c_39 => ?_) (fun c_39 => ?_)
      · skip
        have c_39 : ¬ nw < 6 := fun h => Int32.not_lt.mpr c_39 ((nI_ltI (a := nw) (b := 6) (by omega) (by decide)).mpr h)
        refine g_iconst C 0 dX3_walker_46 (by decide +kernel) ?_
        refine g_st (st' := [.int (bz false), .int (bz false), .ref (q 0)]) rfl ?_
        refine g_callVi C [] (wM cI cZ q nc nw cx cy ch rm on wx wy dm sv fv hd lf la mg pt bd tk ho ri lo us gv bs ld qs mS mD th) [.int (bz false), .int (bz false)] t_X3_mayBoth rfl rfl (cwV 2 C.ts gX3_walker_X3_mayBoth rfl rfl rfl (by decide +kernel) ⟨Nat.le_of_ble_eq_true rfl, Nat.le_of_ble_eq_true rfl⟩) rfl rfl rfl (Nat.le_of_ble_eq_true rfl) dX3_walker_47 ⟨Nat.le_of_ble_eq_true rfl, Nat.le_of_ble_eq_true rfl⟩ (fun rv5 wv5 hp5 => ?_)
        obtain ⟨rfl, rfl⟩ := hp5
        refine g_w (ws' := (wM cI cZ q nc nw cx cy ch rm on wx wy dm sv fv hd lf la mg pt bd tk ho ri lo us gv bs ld qs mS mD (mbt false false))) rfl ?_
        refine g_if_ne C 55 dX3_walker_50 (by decide) (fun c9 => absurd rfl c9) (fun _ => ?_)
        refine g_w (ws' := (wM cI cZ q nc nw cx cy ch rm on wx wy dm sv fv hd lf la mg pt bd tk ho ri lo us gv bs ld qs mS mD 1)) rfl ?_
        refine g_iconst C 0 dX3_walker_53 (by decide +kernel) ?_
        exact g_iret C hret dX3_walker_54 (Nat.le_of_ble_eq_true rfl) (Nat.le_of_ble_eq_true rfl) (Or.inr (Or.inl ⟨hn, rfl⟩))
      · skip
        have c_39 : nw < 6 := (nI_ltI (a := nw) (b := 6) (by omega) (by decide)).mp (Int32.not_le.mp c_39)
        refine g_iconst C 1 dX3_walker_42 (by decide +kernel) ?_
        refine g_goto C 47 dX3_walker_43 (by decide) ?_
        refine g_st (st' := [.int (bz true), .int (bz false), .ref (q 0)]) rfl ?_
        refine g_callVi C [] (wM cI cZ q nc nw cx cy ch rm on wx wy dm sv fv hd lf la mg pt bd tk ho ri lo us gv bs ld qs mS mD th) [.int (bz false), .int (bz true)] t_X3_mayBoth rfl rfl (cwV 2 C.ts gX3_walker_X3_mayBoth rfl rfl rfl (by decide +kernel) ⟨Nat.le_of_ble_eq_true rfl, Nat.le_of_ble_eq_true rfl⟩) rfl rfl rfl (Nat.le_of_ble_eq_true rfl) dX3_walker_47 ⟨Nat.le_of_ble_eq_true rfl, Nat.le_of_ble_eq_true rfl⟩ (fun rv6 wv6 hp6 => ?_)
        obtain ⟨rfl, rfl⟩ := hp6
        refine g_w (ws' := (wM cI cZ q nc nw cx cy ch rm on wx wy dm sv fv hd lf la mg pt bd tk ho ri lo us gv bs ld qs mS mD (mbt false true))) rfl ?_
        refine g_if_ne C 55 dX3_walker_50 (by decide) (fun c9 => absurd rfl c9) (fun _ => ?_)
        refine g_w (ws' := (wM cI cZ q nc nw cx cy ch rm on wx wy dm sv fv hd lf la mg pt bd tk ho ri lo us gv bs ld qs mS mD 1)) rfl ?_
        refine g_iconst C 0 dX3_walker_53 (by decide +kernel) ?_
        exact g_iret C hret dX3_walker_54 (Nat.le_of_ble_eq_true rfl) (Nat.le_of_ble_eq_true rfl) (Or.inr (Or.inl ⟨hn, rfl⟩))
    · skip
      refine g_iload_n C dX3_walker_17 rfl ?_
      refine g_iconst C 1 dX3_walker_18 (by decide +kernel) ?_
      refine g_icmp_lt C 32 dX3_walker_19 (by decide) (fun c_19 => ?_) (fun c_19 => ?_)
      · skip
        have hn : ¬ inW p1 p2 p3 := fun h => Int32.not_le.mpr c_19 h.2.2.1
        refine g_iconst C 0 dX3_walker_32 (by decide +kernel) ?_
        refine g_aload_n C dX3_walker_33 rfl ?_
        refine g_get C 0 iX3_walker_X3 rfl rfl 6 (by decide) f81 rfl dX3_walker_34 ?_
        refine g_bipush C 6 dX3_walker_37 (by decide +kernel) ?_
        refine g_icmp_ge C 46 dX3_walker_39 (by decide) (fun c_39 => ?_) (fun c_39 => ?_)
        · skip
          have c_39 : ¬ nw < 6 := fun h => Int32.not_lt.mpr c_39 ((nI_ltI (a := nw) (b := 6) (by omega) (by decide)).mpr h)
          refine g_iconst C 0 dX3_walker_46 (by decide +kernel) ?_
          refine g_st (st' := [.int (bz false), .int (bz false), .ref (q 0)]) rfl ?_
          refine g_callVi C [] (wM cI cZ q nc nw cx cy ch rm on wx wy dm sv fv hd lf la mg pt bd tk ho ri lo us gv bs ld qs mS mD th) [.int (bz false), .int (bz false)] t_X3_mayBoth rfl rfl (cwV 2 C.ts gX3_walker_X3_mayBoth rfl rfl rfl (by decide +kernel) ⟨Nat.le_of_ble_eq_true rfl, Nat.le_of_ble_eq_true rfl⟩) rfl rfl rfl (Nat.le_of_ble_eq_true rfl) dX3_walker_47 ⟨Nat.le_of_ble_eq_true rfl, Nat.le_of_ble_eq_true rfl⟩ (fun rv7 wv7 hp7 => ?_)
          obtain ⟨rfl, rfl⟩ := hp7
          refine g_w (ws' := (wM cI cZ q nc nw cx cy ch rm on wx wy dm sv fv hd lf la mg pt bd tk ho ri lo us gv bs ld qs mS mD (mbt false false))) rfl ?_
          refine g_if_ne C 55 dX3_walker_50 (by decide) (fun c9 => absurd rfl c9) (fun _ => ?_)
          refine g_w (ws' := (wM cI cZ q nc nw cx cy ch rm on wx wy dm sv fv hd lf la mg pt bd tk ho ri lo us gv bs ld qs mS mD 1)) rfl ?_
          refine g_iconst C 0 dX3_walker_53 (by decide +kernel) ?_
          exact g_iret C hret dX3_walker_54 (Nat.le_of_ble_eq_true rfl) (Nat.le_of_ble_eq_true rfl) (Or.inr (Or.inl ⟨hn, rfl⟩))
        · skip
          have c_39 : nw < 6 := (nI_ltI (a := nw) (b := 6) (by omega) (by decide)).mp (Int32.not_le.mp c_39)
          refine g_iconst C 1 dX3_walker_42 (by decide +kernel) ?_
          refine g_goto C 47 dX3_walker_43 (by decide) ?_
          refine g_st (st' := [.int (bz true), .int (bz false), .ref (q 0)]) rfl ?_
          refine g_callVi C [] (wM cI cZ q nc nw cx cy ch rm on wx wy dm sv fv hd lf la mg pt bd tk ho ri lo us gv bs ld qs mS mD th) [.int (bz false), .int (bz true)] t_X3_mayBoth rfl rfl (cwV 2 C.ts gX3_walker_X3_mayBoth rfl rfl rfl (by decide +kernel) ⟨Nat.le_of_ble_eq_true rfl, Nat.le_of_ble_eq_true rfl⟩) rfl rfl rfl (Nat.le_of_ble_eq_true rfl) dX3_walker_47 ⟨Nat.le_of_ble_eq_true rfl, Nat.le_of_ble_eq_true rfl⟩ (fun rv8 wv8 hp8 => ?_)
          obtain ⟨rfl, rfl⟩ := hp8
          refine g_w (ws' := (wM cI cZ q nc nw cx cy ch rm on wx wy dm sv fv hd lf la mg pt bd tk ho ri lo us gv bs ld qs mS mD (mbt false true))) rfl ?_
          refine g_if_ne C 55 dX3_walker_50 (by decide) (fun c9 => absurd rfl c9) (fun _ => ?_)
          refine g_w (ws' := (wM cI cZ q nc nw cx cy ch rm on wx wy dm sv fv hd lf la mg pt bd tk ho ri lo us gv bs ld qs mS mD 1)) rfl ?_
          refine g_iconst C 0 dX3_walker_53 (by decide +kernel) ?_
          exact g_iret C hret dX3_walker_54 (Nat.le_of_ble_eq_true rfl) (Nat.le_of_ble_eq_true rfl) (Or.inr (Or.inl ⟨hn, rfl⟩))
      · skip
        refine g_iload_n C dX3_walker_22 rfl ?_
        refine g_bipush C 10 dX3_walker_23 (by decide +kernel) ?_
        refine g_icmp_gt C 32 dX3_walker_25 (by decide) (fun c_25 => ?_) (fun c_25 => ?_)
        · skip
          have hn : ¬ inW p1 p2 p3 := fun h => Int32.not_le.mpr c_25 h.2.2.2
          refine g_iconst C 0 dX3_walker_32 (by decide +kernel) ?_
          refine g_aload_n C dX3_walker_33 rfl ?_
          refine g_get C 0 iX3_walker_X3 rfl rfl 6 (by decide) f81 rfl dX3_walker_34 ?_
          refine g_bipush C 6 dX3_walker_37 (by decide +kernel) ?_
          refine g_icmp_ge C 46 dX3_walker_39 (by decide) (fun c_39 => ?_) (fun c_39 => ?_)
          · skip
            have c_39 : ¬ nw < 6 := fun h => Int32.not_lt.mpr c_39 ((nI_ltI (a := nw) (b := 6) (by omega) (by decide)).mpr h)
            refine g_iconst C 0 dX3_walker_46 (by decide +kernel) ?_
            refine g_st (st' := [.int (bz false), .int (bz false), .ref (q 0)]) rfl ?_
            refine g_callVi C [] (wM cI cZ q nc nw cx cy ch rm on wx wy dm sv fv hd lf la mg pt bd tk ho ri lo us gv bs ld qs mS mD th) [.int (bz false), .int (bz false)] t_X3_mayBoth rfl rfl (cwV 2 C.ts gX3_walker_X3_mayBoth rfl rfl rfl (by decide +kernel) ⟨Nat.le_of_ble_eq_true rfl, Nat.le_of_ble_eq_true rfl⟩) rfl rfl rfl (Nat.le_of_ble_eq_true rfl) dX3_walker_47 ⟨Nat.le_of_ble_eq_true rfl, Nat.le_of_ble_eq_true rfl⟩ (fun rv9 wv9 hp9 => ?_)
            obtain ⟨rfl, rfl⟩ := hp9
            refine g_w (ws' := (wM cI cZ q nc nw cx cy ch rm on wx wy dm sv fv hd lf la mg pt bd tk ho ri lo us gv bs ld qs mS mD (mbt false false))) rfl ?_
            refine g_if_ne C 55 dX3_walker_50 (by decide) (fun c9 => absurd rfl c9) (fun _ => ?_)
            refine g_w (ws' := (wM cI cZ q nc nw cx cy ch rm on wx wy dm sv fv hd lf la mg pt bd tk ho ri lo us gv bs ld qs mS mD 1)) rfl ?_
            refine g_iconst C 0 dX3_walker_53 (by decide +kernel) ?_
            exact g_iret C hret dX3_walker_54 (Nat.le_of_ble_eq_true rfl) (Nat.le_of_ble_eq_true rfl) (Or.inr (Or.inl ⟨hn, rfl⟩))
          · skip
            have c_39 : nw < 6 := (nI_ltI (a := nw) (b := 6) (by omega) (by decide)).mp (Int32.not_le.mp c_39)
            refine g_iconst C 1 dX3_walker_42 (by decide +kernel) ?_
            refine g_goto C 47 dX3_walker_43 (by decide) ?_
            refine g_st (st' := [.int (bz true), .int (bz false), .ref (q 0)]) rfl ?_
            refine g_callVi C [] (wM cI cZ q nc nw cx cy ch rm on wx wy dm sv fv hd lf la mg pt bd tk ho ri lo us gv bs ld qs mS mD th) [.int (bz false), .int (bz true)] t_X3_mayBoth rfl rfl (cwV 2 C.ts gX3_walker_X3_mayBoth rfl rfl rfl (by decide +kernel) ⟨Nat.le_of_ble_eq_true rfl, Nat.le_of_ble_eq_true rfl⟩) rfl rfl rfl (Nat.le_of_ble_eq_true rfl) dX3_walker_47 ⟨Nat.le_of_ble_eq_true rfl, Nat.le_of_ble_eq_true rfl⟩ (fun rv10 wv10 hp10 => ?_)
            obtain ⟨rfl, rfl⟩ := hp10
            refine g_w (ws' := (wM cI cZ q nc nw cx cy ch rm on wx wy dm sv fv hd lf la mg pt bd tk ho ri lo us gv bs ld qs mS mD (mbt false true))) rfl ?_
            refine g_if_ne C 55 dX3_walker_50 (by decide) (fun c9 => absurd rfl c9) (fun _ => ?_)
            refine g_w (ws' := (wM cI cZ q nc nw cx cy ch rm on wx wy dm sv fv hd lf la mg pt bd tk ho ri lo us gv bs ld qs mS mD 1)) rfl ?_
            refine g_iconst C 0 dX3_walker_53 (by decide +kernel) ?_
            exact g_iret C hret dX3_walker_54 (Nat.le_of_ble_eq_true rfl) (Nat.le_of_ble_eq_true rfl) (Or.inr (Or.inl ⟨hn, rfl⟩))
        · skip
          have hin : inW p1 p2 p3 := ⟨rng_i.mp (lnb_yes c_6), rng_i.mp (lnb_yes c_14), Int32.not_lt.mp c_19, Int32.not_lt.mp c_25⟩
          refine g_iconst C 1 dX3_walker_28 (by decide +kernel) ?_
          refine g_goto C 33 dX3_walker_29 (by decide) ?_
          refine g_aload_n C dX3_walker_33 rfl ?_
          refine g_get C 0 iX3_walker_X3 rfl rfl 6 (by decide) f81 rfl dX3_walker_34 ?_
          refine g_bipush C 6 dX3_walker_37 (by decide +kernel) ?_
          refine g_icmp_ge C 46 dX3_walker_39 (by decide) (fun c_39 => ?_) (fun c_39 => ?_)
          · skip
            have c_39 : ¬ nw < 6 := fun h => Int32.not_lt.mpr c_39 ((nI_ltI (a := nw) (b := 6) (by omega) (by decide)).mpr h)
            refine g_iconst C 0 dX3_walker_46 (by decide +kernel) ?_
            refine g_st (st' := [.int (bz false), .int (bz true), .ref (q 0)]) rfl ?_
            refine g_callVi C [] (wM cI cZ q nc nw cx cy ch rm on wx wy dm sv fv hd lf la mg pt bd tk ho ri lo us gv bs ld qs mS mD th) [.int (bz true), .int (bz false)] t_X3_mayBoth rfl rfl (cwV 2 C.ts gX3_walker_X3_mayBoth rfl rfl rfl (by decide +kernel) ⟨Nat.le_of_ble_eq_true rfl, Nat.le_of_ble_eq_true rfl⟩) rfl rfl rfl (Nat.le_of_ble_eq_true rfl) dX3_walker_47 ⟨Nat.le_of_ble_eq_true rfl, Nat.le_of_ble_eq_true rfl⟩ (fun rv11 wv11 hp11 => ?_)
            obtain ⟨rfl, rfl⟩ := hp11
            refine g_w (ws' := (wM cI cZ q nc nw cx cy ch rm on wx wy dm sv fv hd lf la mg pt bd tk ho ri lo us gv bs ld qs mS mD (mbt true false))) rfl ?_
            refine g_if_ne C 55 dX3_walker_50 (by decide) (fun c9 => absurd rfl c9) (fun _ => ?_)
            refine g_w (ws' := (wM cI cZ q nc nw cx cy ch rm on wx wy dm sv fv hd lf la mg pt bd tk ho ri lo us gv bs ld qs mS mD 2)) rfl ?_
            refine g_iconst C 0 dX3_walker_53 (by decide +kernel) ?_
            exact g_iret C hret dX3_walker_54 (Nat.le_of_ble_eq_true rfl) (Nat.le_of_ble_eq_true rfl) (Or.inr (Or.inr ⟨⟨hin, c_39⟩, rfl⟩))
          · skip
            have c_39 : nw < 6 := (nI_ltI (a := nw) (b := 6) (by omega) (by decide)).mp (Int32.not_le.mp c_39)
            refine g_iconst C 1 dX3_walker_42 (by decide +kernel) ?_
            refine g_goto C 47 dX3_walker_43 (by decide) ?_
            refine g_st (st' := [.int (bz true), .int (bz true), .ref (q 0)]) rfl ?_
            refine g_callVi C [] (wM cI cZ q nc nw cx cy ch rm on wx wy dm sv fv hd lf la mg pt bd tk ho ri lo us gv bs ld qs mS mD th) [.int (bz true), .int (bz true)] t_X3_mayBoth rfl rfl (cwV 2 C.ts gX3_walker_X3_mayBoth rfl rfl rfl (by decide +kernel) ⟨Nat.le_of_ble_eq_true rfl, Nat.le_of_ble_eq_true rfl⟩) rfl rfl rfl (Nat.le_of_ble_eq_true rfl) dX3_walker_47 ⟨Nat.le_of_ble_eq_true rfl, Nat.le_of_ble_eq_true rfl⟩ (fun rv12 wv12 hp12 => ?_)
            obtain ⟨rfl, rfl⟩ := hp12
            refine g_w (ws' := (wM cI cZ q nc nw cx cy ch rm on wx wy dm sv fv hd lf la mg pt bd tk ho ri lo us gv bs ld qs mS mD (mbt true true))) rfl ?_
            refine g_if_ne C 55 dX3_walker_50 (by decide) (fun _ => ?_) (fun c9 => absurd c9 (by decide))
            refine g_w (ws' := (wM cI cZ q nc nw cx cy ch rm on wx wy dm sv fv hd lf la mg pt bd tk ho ri lo us gv bs ld qs mS mD 0)) rfl ?_
            refine g_aload_n C dX3_walker_55 rfl ?_
            refine g_get C 0 iX3_walker_X3 rfl rfl 7 (by decide) f26 rfl dX3_walker_56 ?_
            refine g_aload_n C dX3_walker_59 rfl ?_
            refine g_get C 0 iX3_walker_X3 rfl rfl 6 (by decide) f81 rfl dX3_walker_60 ?_
            refine g_iload_n C dX3_walker_63 rfl ?_
            refine g_iast C 6 0 rfl rfl nw rfl (by omega) (by decide) (wM cI cZ q nc nw cx cy ch rm on (upd wx nw p1) wy dm sv fv hd lf la mg pt bd tk ho ri lo us gv bs ld qs mS mD 0) rfl dX3_walker_64 ?_
            refine g_aload_n C dX3_walker_65 rfl ?_
            refine g_get C 0 iX3_walker_X3 rfl rfl 8 (by decide) f29 rfl dX3_walker_66 ?_
            refine g_aload_n C dX3_walker_69 rfl ?_
            refine g_get C 0 iX3_walker_X3 rfl rfl 6 (by decide) f81 rfl dX3_walker_70 ?_
            refine g_iload_n C dX3_walker_73 rfl ?_
            refine g_iast C 7 0 rfl rfl nw rfl (by omega) (by decide) (wM cI cZ q nc nw cx cy ch rm on (upd wx nw p1) (upd wy nw p2) dm sv fv hd lf la mg pt bd tk ho ri lo us gv bs ld qs mS mD 0) rfl dX3_walker_74 ?_
            refine g_aload_n C dX3_walker_75 rfl ?_
            refine g_get C 0 iX3_walker_X3 rfl rfl 9 (by decide) f32 rfl dX3_walker_76 ?_
            refine g_aload_n C dX3_walker_79 rfl ?_
            refine g_get C 0 iX3_walker_X3 rfl rfl 6 (by decide) f81 rfl dX3_walker_80 ?_
            refine g_iload_n C dX3_walker_83 rfl ?_
            refine g_iast C 8 0 rfl rfl nw rfl (by omega) (by decide) (wM cI cZ q nc nw cx cy ch rm on (upd wx nw p1) (upd wy nw p2) (upd dm nw p3) sv fv hd lf la mg pt bd tk ho ri lo us gv bs ld qs mS mD 0) rfl dX3_walker_84 ?_
            refine g_aload_n C dX3_walker_85 rfl ?_
            refine g_get C 0 iX3_walker_X3 rfl rfl 13 (by decide) f44 rfl dX3_walker_86 ?_
            refine g_aload_n C dX3_walker_89 rfl ?_
            refine g_get C 0 iX3_walker_X3 rfl rfl 6 (by decide) f81 rfl dX3_walker_90 ?_
            refine g_iconst C (-1) dX3_walker_93 (by decide +kernel) ?_
            refine g_iast C 12 0 rfl rfl nw rfl (by omega) (by decide) (wM cI cZ q nc nw cx cy ch rm on (upd wx nw p1) (upd wy nw p2) (upd dm nw p3) sv fv hd (upd lf nw ((-1))) la mg pt bd tk ho ri lo us gv bs ld qs mS mD 0) rfl dX3_walker_94 ?_
            refine g_aload_n C dX3_walker_95 rfl ?_
            refine g_aload_n C dX3_walker_96 rfl ?_
            refine g_get C 0 iX3_walker_X3 rfl rfl 6 (by decide) f81 rfl dX3_walker_97 ?_
            refine g_callVv C [] (wM cI cZ q nc nw cx cy ch rm on (upd wx nw p1) (upd wy nw p2) (upd dm nw p3) sv fv hd (upd lf nw ((-1))) la mg pt bd tk ho ri lo us gv bs ld qs mS mD 0) [.int (nI nw)] (t_X3_lose c_39) rfl rfl (cwV 1 C.ts gX3_walker_X3_lose rfl rfl rfl (by decide +kernel) ⟨Nat.le_of_ble_eq_true rfl, Nat.le_of_ble_eq_true rfl⟩) rfl rfl rfl (Nat.le_of_ble_eq_true rfl) dX3_walker_100 ⟨Nat.le_of_ble_eq_true rfl, Nat.le_of_ble_eq_true rfl⟩ (fun wv13 tv13 hp13 => ?_)
            obtain ⟨rfl, rfl⟩ := hp13
            refine g_w (ws' := (wM cI cZ q nc nw cx cy ch rm on (upd wx nw p1) (upd wy nw p2) (upd dm nw p3) (upd sv nw (-1)) (upd fv nw (-1)) (upd hd nw 0) (upd lf nw ((-1))) la mg pt bd tk ho ri lo us gv bs ld qs mS mD 0)) rfl ?_
            refine g_aload_n C dX3_walker_103 rfl ?_
            refine g_dup C dX3_walker_104 rfl ?_
            refine g_get C 0 iX3_walker_X3 rfl rfl 6 (by decide) f81 rfl dX3_walker_105 ?_
            refine g_iconst C 1 dX3_walker_108 (by decide +kernel) ?_
            refine g_iadd C (nI (nw + 1)) dX3_walker_109 (nI_1 nw) ?_
            refine g_put C 0 iX3_walker_X3 rfl rfl 6 (by decide) f81 rfl tyX3 tyX3_ok nmX3 (ty := .int) (by decide +kernel) rfl rfl (Nat.le_of_ble_eq_true rfl) (wM cI cZ q nc (nw + 1) cx cy ch rm on (upd wx nw p1) (upd wy nw p2) (upd dm nw p3) (upd sv nw (-1)) (upd fv nw (-1)) (upd hd nw 0) (upd lf nw ((-1))) la mg pt bd tk ho ri lo us gv bs ld qs mS mD 0) rfl dX3_walker_110 ?_
            refine g_aload_n C dX3_walker_113 rfl ?_
            refine g_get C 0 iX3_walker_X3 rfl rfl 6 (by decide) f81 rfl dX3_walker_114 ?_
            refine g_iconst C 1 dX3_walker_117 (by decide +kernel) ?_
            refine g_isub C (nI nw) dX3_walker_118 (nI_pred _) ?_
            exact g_iret C hret dX3_walker_119 (Nat.le_of_ble_eq_true rfl) (Nat.le_of_ble_eq_true rfl) (Or.inl ⟨⟨hin, c_39⟩, rfl, rfl⟩)
theorem iX3_tune_X3 : ∀ w ∈ u_ws RX3 TX3 30, w ∈ wsX3_tune := by decide +kernel
set_option maxHeartbeats 1000000 in
set_option maxRecDepth 100000 in
theorem t_X3_tune {l : Launch} {D : va_G} {cI cZ cJ cG cW : ClassId} {q : Nat → Nat} {nc nw : Nat} {cx cy ch rm on wx wy dm sv fv hd lf la : Nat → Int32} {mg pt bd tk ho ri lo : Int32} {us gv bs ld qs : Nat → Int32} {mS mD th : Int32} {p1 p2 : Int32} (h5 : nc ≤ 5) : CtI l yX3_tune wsX3_tune 1 22 0 0 D (T5 cI cZ cJ cG cW) [.ref (q 0), .int p1, .int p2] (wM cI cZ q nc nw cx cy ch rm on wx wy dm sv fv hd lf la mg pt bd tk ho ri lo us gv bs ld qs mS mD th) (fun rv wv => ((IC nc p1 ∧ (0 ≤ p2 ∧ p2 ≤ 2)) ∧ rv = ch p1.toNatClampNeg ∧ wv = (wM cI cZ q nc nw cx cy (upd ch p1.toNatClampNeg p2) rm on wx wy dm sv fv hd lf la mg pt bd tk ho ri lo us gv bs ld qs mS mD 0)) ∨ (¬ IC nc p1 ∧ wv = (wM cI cZ q nc nw cx cy ch rm on wx wy dm sv fv hd lf la mg pt bd tk ho ri lo us gv bs ld qs mS mD 1)) ∨ (IC nc p1 ∧ ¬ (0 ≤ p2 ∧ p2 ≤ 2) ∧ wv = (wM cI cZ q nc nw cx cy ch rm on wx wy dm sv fv hd lf la mg pt bd tk ho ri lo us gv bs ld qs mS mD 2))) := by
  refine ctI_of (cc := cX3_tune) (maxL := 4) RX3 1 [some (.ref (q 0)), some (.int p1), some (.int p2), none] (by decide +kernel) rfl rfl (Nat.le_of_ble_eq_true rfl) rfl (fun p_ e_ s_ m_ as_ bl_ me_ co_ C hret => ?_)
  have f16 := C.ts (.fieldLink RX3 16 "CellPlannerModel" "channel" "[I") (by decide +kernel)
  refine g_aload_n C dX3_tune_0 rfl ?_
  refine g_aload_n C dX3_tune_1 rfl ?_
  refine g_iload_n C dX3_tune_2 rfl ?_
  refine g_callVi C [] (wM cI cZ q nc nw cx cy ch rm on wx wy dm sv fv hd lf la mg pt bd tk ho ri lo us gv bs ld qs mS mD th) [.int p1] t_X3_isCell rfl rfl (cwV 1 C.ts gX3_tune_X3_isCell rfl rfl rfl (by decide +kernel) ⟨Nat.le_of_ble_eq_true rfl, Nat.le_of_ble_eq_true rfl⟩) rfl rfl rfl (Nat.le_of_ble_eq_true rfl) dX3_tune_3 ⟨Nat.le_of_ble_eq_true rfl, Nat.le_of_ble_eq_true rfl⟩ (fun rv1 wv1 hp1 => ?_)
  obtain ⟨rfl, rfl⟩ := hp1
  refine g_w (ws' := (wM cI cZ q nc nw cx cy ch rm on wx wy dm sv fv hd lf la mg pt bd tk ho ri lo us gv bs ld qs mS mD th)) rfl ?_
  refine g_iload_n C dX3_tune_6 rfl ?_
  refine g_if_lt C 19 dX3_tune_7 (by decide) (fun c_7 => ?_) (fun c_7 => ?_)
  · skip
    have hn : ¬ (0 ≤ p2 ∧ p2 ≤ 2) := fun h => Int32.not_le.mpr c_7 h.1
    refine g_iconst C 0 dX3_tune_19 (by decide +kernel) ?_
    refine g_st (st' := [.int (bz false), .int (bz (icb nc p1)), .ref (q 0)]) rfl ?_
    refine g_callVi C [] (wM cI cZ q nc nw cx cy ch rm on wx wy dm sv fv hd lf la mg pt bd tk ho ri lo us gv bs ld qs mS mD th) [.int (bz (icb nc p1)), .int (bz false)] t_X3_mayBoth rfl rfl (cwV 2 C.ts gX3_tune_X3_mayBoth rfl rfl rfl (by decide +kernel) ⟨Nat.le_of_ble_eq_true rfl, Nat.le_of_ble_eq_true rfl⟩) rfl rfl rfl (Nat.le_of_ble_eq_true rfl) dX3_tune_20 ⟨Nat.le_of_ble_eq_true rfl, Nat.le_of_ble_eq_true rfl⟩ (fun rv2 wv2 hp2 => ?_)
    obtain ⟨rfl, rfl⟩ := hp2
    refine g_w (ws' := (wM cI cZ q nc nw cx cy ch rm on wx wy dm sv fv hd lf la mg pt bd tk ho ri lo us gv bs ld qs mS mD (mbt (icb nc p1) false))) rfl ?_
    refine g_if_ne C 28 dX3_tune_23 (by decide) (fun c9 => absurd (by rw [Bool.and_false]; rfl) c9) (fun _ => ?_)
    refine g_iconst C 0 dX3_tune_26 (by decide +kernel) ?_
    exact g_iret C hret dX3_tune_27 (Nat.le_of_ble_eq_true rfl) (Nat.le_of_ble_eq_true rfl) (Or.inr (mbt_cases (F := (fun z => (wM cI cZ q nc nw cx cy ch rm on wx wy dm sv fv hd lf la mg pt bd tk ho ri lo us gv bs ld qs mS mD z))) (icb_no (by omega)) (icb_yes (by omega)) hn))
  · skip
    refine g_iload_n C dX3_tune_10 rfl ?_
    refine g_iconst C 2 dX3_tune_11 (by decide +kernel) ?_
    refine g_icmp_gt C 19 dX3_tune_12 (by decide) (fun c_12 => ?_) (fun c_12 => ?_)
    · skip
      have hn : ¬ (0 ≤ p2 ∧ p2 ≤ 2) := fun h => Int32.not_le.mpr c_12 h.2
      refine g_iconst C 0 dX3_tune_19 (by decide +kernel) ?_
      refine g_st (st' := [.int (bz false), .int (bz (icb nc p1)), .ref (q 0)]) rfl ?_
      refine g_callVi C [] (wM cI cZ q nc nw cx cy ch rm on wx wy dm sv fv hd lf la mg pt bd tk ho ri lo us gv bs ld qs mS mD th) [.int (bz (icb nc p1)), .int (bz false)] t_X3_mayBoth rfl rfl (cwV 2 C.ts gX3_tune_X3_mayBoth rfl rfl rfl (by decide +kernel) ⟨Nat.le_of_ble_eq_true rfl, Nat.le_of_ble_eq_true rfl⟩) rfl rfl rfl (Nat.le_of_ble_eq_true rfl) dX3_tune_20 ⟨Nat.le_of_ble_eq_true rfl, Nat.le_of_ble_eq_true rfl⟩ (fun rv3 wv3 hp3 => ?_)
      obtain ⟨rfl, rfl⟩ := hp3
      refine g_w (ws' := (wM cI cZ q nc nw cx cy ch rm on wx wy dm sv fv hd lf la mg pt bd tk ho ri lo us gv bs ld qs mS mD (mbt (icb nc p1) false))) rfl ?_
      refine g_if_ne C 28 dX3_tune_23 (by decide) (fun c9 => absurd (by rw [Bool.and_false]; rfl) c9) (fun _ => ?_)
      refine g_iconst C 0 dX3_tune_26 (by decide +kernel) ?_
      exact g_iret C hret dX3_tune_27 (Nat.le_of_ble_eq_true rfl) (Nat.le_of_ble_eq_true rfl) (Or.inr (mbt_cases (F := (fun z => (wM cI cZ q nc nw cx cy ch rm on wx wy dm sv fv hd lf la mg pt bd tk ho ri lo us gv bs ld qs mS mD z))) (icb_no (by omega)) (icb_yes (by omega)) hn))
    · skip
      have hy : (0 ≤ p2 ∧ p2 ≤ 2) := ⟨Int32.not_lt.mp c_7, Int32.not_lt.mp c_12⟩
      refine g_iconst C 1 dX3_tune_15 (by decide +kernel) ?_
      refine g_goto C 20 dX3_tune_16 (by decide) ?_
      refine g_st (st' := [.int (bz true), .int (bz (icb nc p1)), .ref (q 0)]) rfl ?_
      refine g_callVi C [] (wM cI cZ q nc nw cx cy ch rm on wx wy dm sv fv hd lf la mg pt bd tk ho ri lo us gv bs ld qs mS mD th) [.int (bz (icb nc p1)), .int (bz true)] t_X3_mayBoth rfl rfl (cwV 2 C.ts gX3_tune_X3_mayBoth rfl rfl rfl (by decide +kernel) ⟨Nat.le_of_ble_eq_true rfl, Nat.le_of_ble_eq_true rfl⟩) rfl rfl rfl (Nat.le_of_ble_eq_true rfl) dX3_tune_20 ⟨Nat.le_of_ble_eq_true rfl, Nat.le_of_ble_eq_true rfl⟩ (fun rv4 wv4 hp4 => ?_)
      obtain ⟨rfl, rfl⟩ := hp4
      refine g_w (ws' := (wM cI cZ q nc nw cx cy ch rm on wx wy dm sv fv hd lf la mg pt bd tk ho ri lo us gv bs ld qs mS mD (mbt (icb nc p1) true))) rfl ?_
      refine g_if_ne C 28 dX3_tune_23 (by decide) (fun c_23 => ?_) (fun c_23 => ?_)
      · skip
        have hth : mbt (icb nc p1) true = 0 := by rw [show icb nc p1 = true from by have h9 := bz_1 c_23; rwa [Bool.and_true] at h9]; rfl
        obtain ⟨kc, hlkc, rfl⟩ := icb_yes (by omega) (show icb nc p1 = true from by have h9 := bz_1 c_23; rwa [Bool.and_true] at h9)
        have hkl : (nI kc).toNatClampNeg = kc := nI_clamp (by omega)
        refine g_w (ws' := (wM cI cZ q nc nw cx cy ch rm on wx wy dm sv fv hd lf la mg pt bd tk ho ri lo us gv bs ld qs mS mD 0)) (by rw [hth]) ?_
        refine g_aload_n C dX3_tune_28 rfl ?_
        refine g_get C 0 iX3_tune_X3 rfl rfl 3 (by decide) f16 rfl dX3_tune_29 ?_
        refine g_iload_n C dX3_tune_32 rfl ?_
        refine g_iald C 3 0 rfl rfl kc rfl (by omega) (by decide) (ch kc) rfl dX3_tune_33 ?_
        refine g_istore_n C [some (.ref (q 0)), some (.int (nI kc)), some (.int p2), some (.int (ch kc))] dX3_tune_34 (by decide) rfl rfl ?_
        refine g_aload_n C dX3_tune_35 rfl ?_
        refine g_get C 0 iX3_tune_X3 rfl rfl 3 (by decide) f16 rfl dX3_tune_36 ?_
        refine g_iload_n C dX3_tune_39 rfl ?_
        refine g_iload_n C dX3_tune_40 rfl ?_
        refine g_iast C 3 0 rfl rfl kc rfl (by omega) (by decide) (wM cI cZ q nc nw cx cy (upd ch kc p2) rm on wx wy dm sv fv hd lf la mg pt bd tk ho ri lo us gv bs ld qs mS mD 0) rfl dX3_tune_41 ?_
        refine g_iload_n C dX3_tune_42 rfl ?_
        exact g_iret C hret dX3_tune_43 (Nat.le_of_ble_eq_true rfl) (Nat.le_of_ble_eq_true rfl) (Or.inl ⟨⟨⟨kc, hlkc, rfl⟩, hy⟩, (by rw [hkl]), (by rw [hkl] <;> rfl)⟩)
      · skip
        have hic : icb nc p1 = false := by have h9 := bz_0 c_23; rwa [Bool.and_true] at h9
        refine g_w (ws' := (wM cI cZ q nc nw cx cy ch rm on wx wy dm sv fv hd lf la mg pt bd tk ho ri lo us gv bs ld qs mS mD 1)) (by rw [hic]; rfl) ?_
        refine g_iconst C 0 dX3_tune_26 (by decide +kernel) ?_
        exact g_iret C hret dX3_tune_27 (Nat.le_of_ble_eq_true rfl) (Nat.le_of_ble_eq_true rfl) (Or.inr (Or.inl ⟨(icb_no (by omega) hic), rfl⟩))
theorem iX3_move_X3 : ∀ w ∈ u_ws RX3 TX3 30, w ∈ wsX3_move := by decide +kernel
set_option maxHeartbeats 1000000 in
set_option maxRecDepth 100000 in
theorem t_X3_move {l : Launch} {D : va_G} {cI cZ cJ cG cW : ClassId} {q : Nat → Nat} {nc nw : Nat} {cx cy ch rm on wx wy dm sv fv hd lf la : Nat → Int32} {mg pt bd tk ho ri lo : Int32} {us gv bs ld qs : Nat → Int32} {mS mD th : Int32} {p1 p2 p3 : Int32} (h6 : nw ≤ 6) : CtV l yX3_move wsX3_move 1 22 0 0 D (T5 cI cZ cJ cG cW) [.ref (q 0), .int p1, .int p2, .int p3] (wM cI cZ q nc nw cx cy ch rm on wx wy dm sv fv hd lf la mg pt bd tk ho ri lo us gv bs ld qs mS mD th) (fun wv tv => ((IC nw p1 ∧ (rng (mvx wx p1 p2) 0 63 ∧ rng (mvx wy p1 p3) 0 63)) ∧ wv = (wM cI cZ q nc nw cx cy ch rm on (upd wx p1.toNatClampNeg (mvx wx p1 p2).toInt32) (upd wy p1.toNatClampNeg (mvx wy p1 p3).toInt32) dm sv fv hd lf la mg pt bd tk ho ri lo us gv bs ld qs mS mD 0) ∧ tv = (T5 cI cZ cJ cG cW)) ∨ (¬ IC nw p1 ∧ wv = (wM cI cZ q nc nw cx cy ch rm on wx wy dm sv fv hd lf la mg pt bd tk ho ri lo us gv bs ld qs mS mD 1) ∧ tv = (T5 cI cZ cJ cG cW)) ∨ (IC nw p1 ∧ ¬ (rng (mvx wx p1 p2) 0 63 ∧ rng (mvx wy p1 p3) 0 63) ∧ wv = (wM cI cZ q nc nw cx cy ch rm on wx wy dm sv fv hd lf la mg pt bd tk ho ri lo us gv bs ld qs mS mD 2) ∧ tv = (T5 cI cZ cJ cG cW))) := by
  refine ctV_of (cc := cX3_move) (maxL := 9) RX3 5 [some (.ref (q 0)), some (.int p1), some (.int p2), some (.int p3), none, none, none, none, none] (by decide +kernel) rfl rfl (Nat.le_of_ble_eq_true rfl) rfl (fun p_ e_ s_ m_ as_ bl_ me_ co_ C hret hini => ?_)
  have f26 := C.ts (.fieldLink RX3 26 "CellPlannerModel" "x" "[I") (by decide +kernel)
  have f29 := C.ts (.fieldLink RX3 29 "CellPlannerModel" "y" "[I") (by decide +kernel)
  refine g_aload_n C dX3_move_0 rfl ?_
  refine g_iload_n C dX3_move_1 rfl ?_
  refine g_callVi C [] (wM cI cZ q nc nw cx cy ch rm on wx wy dm sv fv hd lf la mg pt bd tk ho ri lo us gv bs ld qs mS mD th) [.int p1] t_X3_isWalker rfl rfl (cwV 1 C.ts gX3_move_X3_isWalker rfl rfl rfl (by decide +kernel) ⟨Nat.le_of_ble_eq_true rfl, Nat.le_of_ble_eq_true rfl⟩) rfl rfl rfl (Nat.le_of_ble_eq_true rfl) dX3_move_2 ⟨Nat.le_of_ble_eq_true rfl, Nat.le_of_ble_eq_true rfl⟩ (fun rv1 wv1 hp1 => ?_)
  obtain ⟨rfl, rfl⟩ := hp1
  refine g_w (ws' := (wM cI cZ q nc nw cx cy ch rm on wx wy dm sv fv hd lf la mg pt bd tk ho ri lo us gv bs ld qs mS mD th)) rfl ?_
  refine g_istore C [some (.ref (q 0)), some (.int p1), some (.int p2), some (.int p3), some (.int (bz (icb nw p1))), none, none, none, none] dX3_move_5 (by decide) rfl rfl ?_
  refine g_iload C dX3_move_7 rfl ?_
  refine g_if_eq C 25 dX3_move_9 (by decide) (fun c_9 => ?_) (fun c_9 => ?_)
  · skip
    refine g_lconst C 0 dX3_move_25 (by decide +kernel) ?_
    refine g_lstore C [some (.ref (q 0)), some (.int p1), some (.int p2), some (.int p3), some (.int (bz (icb nw p1))), some (.long 0), none, none, none] dX3_move_26 (by decide) rfl rfl ?_
    refine g_iload C dX3_move_28 rfl ?_
    refine g_if_eq C 46 dX3_move_30 (by decide) (fun _ => ?_) (fun c9 => absurd c_9 c9)
    refine g_lconst C 0 dX3_move_46 (by decide +kernel) ?_
    refine g_lstore C [some (.ref (q 0)), some (.int p1), some (.int p2), some (.int p3), some (.int (bz (icb nw p1))), some (.long 0), none, some (.long 0), none] dX3_move_47 (by decide) rfl rfl ?_
    refine g_aload_n C dX3_move_49 rfl ?_
    refine g_iload C dX3_move_50 rfl ?_
    refine g_lload C dX3_move_52 rfl ?_
    refine g_callSi C (wM cI cZ q nc nw cx cy ch rm on wx wy dm sv fv hd lf la mg pt bd tk ho ri lo us gv bs ld qs mS mD th) [] [.long 0] t_X3_isOnLand (va_cwS 1 C.ts gX3_move_X3_isOnLand rfl rfl rfl (by decide +kernel) ⟨Nat.le_of_ble_eq_true rfl, Nat.le_of_ble_eq_true rfl⟩) rfl (List.append_nil _).symm rfl (Nat.le_of_ble_eq_true rfl) dX3_move_54 ⟨Nat.le_of_ble_eq_true rfl, Nat.le_of_ble_eq_true rfl⟩ (fun rv2 wv2 hp2 => ?_)
    obtain ⟨rfl, rfl⟩ := hp2
    refine g_w (ws' := (wM cI cZ q nc nw cx cy ch rm on wx wy dm sv fv hd lf la mg pt bd tk ho ri lo us gv bs ld qs mS mD th)) (List.append_nil _) ?_
    refine g_if_eq C 72 dX3_move_57 (by decide) (fun c9 => absurd c9 (by decide)) (fun _ => ?_)
    refine g_lload C dX3_move_60 rfl ?_
    refine g_callSi C (wM cI cZ q nc nw cx cy ch rm on wx wy dm sv fv hd lf la mg pt bd tk ho ri lo us gv bs ld qs mS mD th) [] [.long 0] t_X3_isOnLand (va_cwS 1 C.ts gX3_move_X3_isOnLand rfl rfl rfl (by decide +kernel) ⟨Nat.le_of_ble_eq_true rfl, Nat.le_of_ble_eq_true rfl⟩) rfl (List.append_nil _).symm rfl (Nat.le_of_ble_eq_true rfl) dX3_move_62 ⟨Nat.le_of_ble_eq_true rfl, Nat.le_of_ble_eq_true rfl⟩ (fun rv3 wv3 hp3 => ?_)
    obtain ⟨rfl, rfl⟩ := hp3
    refine g_w (ws' := (wM cI cZ q nc nw cx cy ch rm on wx wy dm sv fv hd lf la mg pt bd tk ho ri lo us gv bs ld qs mS mD th)) (List.append_nil _) ?_
    refine g_if_eq C 72 dX3_move_65 (by decide) (fun c9 => absurd c9 (by decide)) (fun _ => ?_)
    refine g_iconst C 1 dX3_move_68 (by decide +kernel) ?_
    refine g_goto C 73 dX3_move_69 (by decide) ?_
    refine g_st (st' := [.int (bz true), .int (bz (icb nw p1)), .ref (q 0)]) rfl ?_
    refine g_callVi C [] (wM cI cZ q nc nw cx cy ch rm on wx wy dm sv fv hd lf la mg pt bd tk ho ri lo us gv bs ld qs mS mD th) [.int (bz (icb nw p1)), .int (bz true)] t_X3_mayBoth rfl rfl (cwV 2 C.ts gX3_move_X3_mayBoth rfl rfl rfl (by decide +kernel) ⟨Nat.le_of_ble_eq_true rfl, Nat.le_of_ble_eq_true rfl⟩) rfl rfl rfl (Nat.le_of_ble_eq_true rfl) dX3_move_73 ⟨Nat.le_of_ble_eq_true rfl, Nat.le_of_ble_eq_true rfl⟩ (fun rv4 wv4 hp4 => ?_)
    obtain ⟨rfl, rfl⟩ := hp4
    refine g_w (ws' := (wM cI cZ q nc nw cx cy ch rm on wx wy dm sv fv hd lf la mg pt bd tk ho ri lo us gv bs ld qs mS mD (mbt (icb nw p1) true))) rfl ?_
    refine g_if_eq C 97 dX3_move_76 (by decide) (fun _ => ?_) (fun c9 => absurd (by rw [bz_0 c_9]; rfl) c9)
    exact g_vret C hret dX3_move_97 (Nat.le_of_ble_eq_true rfl) (Nat.le_of_ble_eq_true rfl) (Or.inr (Or.inl ⟨(icb_no (by omega) (bz_0 c_9)), (by rw [bz_0 c_9] <;> rfl), rfl⟩))
  · skip
    have hic : icb nw p1 = true := bz_1 c_9
    obtain ⟨kc, hlkc, rfl⟩ := icb_yes (by omega) (bz_1 c_9)
    have hkl : (nI kc).toNatClampNeg = kc := nI_clamp (by omega)
    refine g_aload_n C dX3_move_12 rfl ?_
    refine g_get C 0 iX3_move_X3 rfl rfl 7 (by decide) f26 rfl dX3_move_13 ?_
    refine g_iload_n C dX3_move_16 rfl ?_
    refine g_iald C 6 0 rfl rfl kc rfl (by omega) (by decide) (wx kc) rfl dX3_move_17 ?_
    refine g_i2l C ((wx kc).toInt64) dX3_move_18 rfl ?_
    refine g_iload_n C dX3_move_19 rfl ?_
    refine g_i2l C p2.toInt64 dX3_move_20 rfl ?_
    refine g_ladd C (mvx wx (nI kc) p2) dX3_move_21 (by unfold mvx; rw [hkl]) ?_
    refine g_goto C 26 dX3_move_22 (by decide) ?_
    refine g_lstore C [some (.ref (q 0)), some (.int (nI kc)), some (.int p2), some (.int p3), some (.int (bz (icb nw (nI kc)))), some (.long (mvx wx (nI kc) p2)), none, none, none] dX3_move_26 (by decide) rfl rfl ?_
    refine g_iload C dX3_move_28 rfl ?_
    refine g_if_eq C 46 dX3_move_30 (by decide) (fun c9 => absurd c9 c_9) (fun _ => ?_)
    refine g_aload_n C dX3_move_33 rfl ?_
    refine g_get C 0 iX3_move_X3 rfl rfl 8 (by decide) f29 rfl dX3_move_34 ?_
    refine g_iload_n C dX3_move_37 rfl ?_
    refine g_iald C 7 0 rfl rfl kc rfl (by omega) (by decide) (wy kc) rfl dX3_move_38 ?_
    refine g_i2l C ((wy kc).toInt64) dX3_move_39 rfl ?_
    refine g_iload_n C dX3_move_40 rfl ?_
    refine g_i2l C p3.toInt64 dX3_move_41 rfl ?_
    refine g_ladd C (mvx wy (nI kc) p3) dX3_move_42 (by unfold mvx; rw [hkl]) ?_
    refine g_goto C 47 dX3_move_43 (by decide) ?_
    refine g_lstore C [some (.ref (q 0)), some (.int (nI kc)), some (.int p2), some (.int p3), some (.int (bz (icb nw (nI kc)))), some (.long (mvx wx (nI kc) p2)), none, some (.long (mvx wy (nI kc) p3)), none] dX3_move_47 (by decide) rfl rfl ?_
    refine g_aload_n C dX3_move_49 rfl ?_
    refine g_iload C dX3_move_50 rfl ?_
    refine g_lload C dX3_move_52 rfl ?_
    refine g_callSi C (wM cI cZ q nc nw cx cy ch rm on wx wy dm sv fv hd lf la mg pt bd tk ho ri lo us gv bs ld qs mS mD th) [] [.long (mvx wx (nI kc) p2)] t_X3_isOnLand (va_cwS 1 C.ts gX3_move_X3_isOnLand rfl rfl rfl (by decide +kernel) ⟨Nat.le_of_ble_eq_true rfl, Nat.le_of_ble_eq_true rfl⟩) rfl (List.append_nil _).symm rfl (Nat.le_of_ble_eq_true rfl) dX3_move_54 ⟨Nat.le_of_ble_eq_true rfl, Nat.le_of_ble_eq_true rfl⟩ (fun rv5 wv5 hp5 => ?_)
    obtain ⟨rfl, rfl⟩ := hp5
    refine g_w (ws' := (wM cI cZ q nc nw cx cy ch rm on wx wy dm sv fv hd lf la mg pt bd tk ho ri lo us gv bs ld qs mS mD th)) (List.append_nil _) ?_
    refine g_if_eq C 72 dX3_move_57 (by decide) (fun c_57 => ?_) (fun c_57 => ?_)
    · skip
      have hn : ¬ (rng (mvx wx (nI kc) p2) 0 63 ∧ rng (mvx wy (nI kc) p3) 0 63) := fun h => lnb_no c_57 h.1
      refine g_iconst C 0 dX3_move_72 (by decide +kernel) ?_
      refine g_st (st' := [.int (bz false), .int (bz (icb nw (nI kc))), .ref (q 0)]) rfl ?_
      refine g_callVi C [] (wM cI cZ q nc nw cx cy ch rm on wx wy dm sv fv hd lf la mg pt bd tk ho ri lo us gv bs ld qs mS mD th) [.int (bz (icb nw (nI kc))), .int (bz false)] t_X3_mayBoth rfl rfl (cwV 2 C.ts gX3_move_X3_mayBoth rfl rfl rfl (by decide +kernel) ⟨Nat.le_of_ble_eq_true rfl, Nat.le_of_ble_eq_true rfl⟩) rfl rfl rfl (Nat.le_of_ble_eq_true rfl) dX3_move_73 ⟨Nat.le_of_ble_eq_true rfl, Nat.le_of_ble_eq_true rfl⟩ (fun rv6 wv6 hp6 => ?_)
      obtain ⟨rfl, rfl⟩ := hp6
      refine g_w (ws' := (wM cI cZ q nc nw cx cy ch rm on wx wy dm sv fv hd lf la mg pt bd tk ho ri lo us gv bs ld qs mS mD (mbt (icb nw (nI kc)) false))) rfl ?_
      refine g_if_eq C 97 dX3_move_76 (by decide) (fun _ => ?_) (fun c9 => absurd (by rw [Bool.and_false]; rfl) c9)
      exact g_vret C hret dX3_move_97 (Nat.le_of_ble_eq_true rfl) (Nat.le_of_ble_eq_true rfl) (Or.inr (Or.inr ⟨⟨kc, hlkc, rfl⟩, hn, (by rw [hic] <;> rfl), rfl⟩))
    · skip
      refine g_lload C dX3_move_60 rfl ?_
      refine g_callSi C (wM cI cZ q nc nw cx cy ch rm on wx wy dm sv fv hd lf la mg pt bd tk ho ri lo us gv bs ld qs mS mD th) [] [.long (mvx wy (nI kc) p3)] t_X3_isOnLand (va_cwS 1 C.ts gX3_move_X3_isOnLand rfl rfl rfl (by decide +kernel) ⟨Nat.le_of_ble_eq_true rfl, Nat.le_of_ble_eq_true rfl⟩) rfl (List.append_nil _).symm rfl (Nat.le_of_ble_eq_true rfl) dX3_move_62 ⟨Nat.le_of_ble_eq_true rfl, Nat.le_of_ble_eq_true rfl⟩ (fun rv7 wv7 hp7 => ?_)
      obtain ⟨rfl, rfl⟩ := hp7
      refine g_w (ws' := (wM cI cZ q nc nw cx cy ch rm on wx wy dm sv fv hd lf la mg pt bd tk ho ri lo us gv bs ld qs mS mD th)) (List.append_nil _) ?_
      refine g_if_eq C 72 dX3_move_65 (by decide) (fun c_65 => ?_) (fun c_65 => ?_)
      · skip
        have hn : ¬ (rng (mvx wx (nI kc) p2) 0 63 ∧ rng (mvx wy (nI kc) p3) 0 63) := fun h => lnb_no c_65 h.2
        refine g_iconst C 0 dX3_move_72 (by decide +kernel) ?_
        refine g_st (st' := [.int (bz false), .int (bz (icb nw (nI kc))), .ref (q 0)]) rfl ?_
        refine g_callVi C [] (wM cI cZ q nc nw cx cy ch rm on wx wy dm sv fv hd lf la mg pt bd tk ho ri lo us gv bs ld qs mS mD th) [.int (bz (icb nw (nI kc))), .int (bz false)] t_X3_mayBoth rfl rfl (cwV 2 C.ts gX3_move_X3_mayBoth rfl rfl rfl (by decide +kernel) ⟨Nat.le_of_ble_eq_true rfl, Nat.le_of_ble_eq_true rfl⟩) rfl rfl rfl (Nat.le_of_ble_eq_true rfl) dX3_move_73 ⟨Nat.le_of_ble_eq_true rfl, Nat.le_of_ble_eq_true rfl⟩ (fun rv8 wv8 hp8 => ?_)
        obtain ⟨rfl, rfl⟩ := hp8
        refine g_w (ws' := (wM cI cZ q nc nw cx cy ch rm on wx wy dm sv fv hd lf la mg pt bd tk ho ri lo us gv bs ld qs mS mD (mbt (icb nw (nI kc)) false))) rfl ?_
        refine g_if_eq C 97 dX3_move_76 (by decide) (fun _ => ?_) (fun c9 => absurd (by rw [Bool.and_false]; rfl) c9)
        exact g_vret C hret dX3_move_97 (Nat.le_of_ble_eq_true rfl) (Nat.le_of_ble_eq_true rfl) (Or.inr (Or.inr ⟨⟨kc, hlkc, rfl⟩, hn, (by rw [hic] <;> rfl), rfl⟩))
      · skip
        have hy : (rng (mvx wx (nI kc) p2) 0 63 ∧ rng (mvx wy (nI kc) p3) 0 63) := ⟨lnb_yes c_57, lnb_yes c_65⟩
        refine g_iconst C 1 dX3_move_68 (by decide +kernel) ?_
        refine g_goto C 73 dX3_move_69 (by decide) ?_
        refine g_st (st' := [.int (bz true), .int (bz (icb nw (nI kc))), .ref (q 0)]) rfl ?_
        refine g_callVi C [] (wM cI cZ q nc nw cx cy ch rm on wx wy dm sv fv hd lf la mg pt bd tk ho ri lo us gv bs ld qs mS mD th) [.int (bz (icb nw (nI kc))), .int (bz true)] t_X3_mayBoth rfl rfl (cwV 2 C.ts gX3_move_X3_mayBoth rfl rfl rfl (by decide +kernel) ⟨Nat.le_of_ble_eq_true rfl, Nat.le_of_ble_eq_true rfl⟩) rfl rfl rfl (Nat.le_of_ble_eq_true rfl) dX3_move_73 ⟨Nat.le_of_ble_eq_true rfl, Nat.le_of_ble_eq_true rfl⟩ (fun rv9 wv9 hp9 => ?_)
        obtain ⟨rfl, rfl⟩ := hp9
        refine g_w (ws' := (wM cI cZ q nc nw cx cy ch rm on wx wy dm sv fv hd lf la mg pt bd tk ho ri lo us gv bs ld qs mS mD (mbt (icb nw (nI kc)) true))) rfl ?_
        refine g_if_eq C 97 dX3_move_76 (by decide) (fun c9 => absurd c9 (by rw [hic]; decide)) (fun _ => ?_)
        refine g_w (ws' := (wM cI cZ q nc nw cx cy ch rm on wx wy dm sv fv hd lf la mg pt bd tk ho ri lo us gv bs ld qs mS mD 0)) (by rw [hic]; rfl) ?_
        refine g_aload_n C dX3_move_79 rfl ?_
        refine g_get C 0 iX3_move_X3 rfl rfl 7 (by decide) f26 rfl dX3_move_80 ?_
        refine g_iload_n C dX3_move_83 rfl ?_
        refine g_lload C dX3_move_84 rfl ?_
        refine g_l2i C ((mvx wx (nI kc) p2).toInt32) dX3_move_86 rfl ?_
        refine g_iast C 6 0 rfl rfl kc rfl (by omega) (by decide) (wM cI cZ q nc nw cx cy ch rm on (upd wx kc ((mvx wx (nI kc) p2).toInt32)) wy dm sv fv hd lf la mg pt bd tk ho ri lo us gv bs ld qs mS mD 0) rfl dX3_move_87 ?_
        refine g_aload_n C dX3_move_88 rfl ?_
        refine g_get C 0 iX3_move_X3 rfl rfl 8 (by decide) f29 rfl dX3_move_89 ?_
        refine g_iload_n C dX3_move_92 rfl ?_
        refine g_lload C dX3_move_93 rfl ?_
        refine g_l2i C ((mvx wy (nI kc) p3).toInt32) dX3_move_95 rfl ?_
        refine g_iast C 7 0 rfl rfl kc rfl (by omega) (by decide) (wM cI cZ q nc nw cx cy ch rm on (upd wx kc ((mvx wx (nI kc) p2).toInt32)) (upd wy kc ((mvx wy (nI kc) p3).toInt32)) dm sv fv hd lf la mg pt bd tk ho ri lo us gv bs ld qs mS mD 0) rfl dX3_move_96 ?_
        exact g_vret C hret dX3_move_97 (Nat.le_of_ble_eq_true rfl) (Nat.le_of_ble_eq_true rfl) (Or.inl ⟨⟨⟨kc, hlkc, rfl⟩, hy⟩, (by rw [hkl] <;> rfl), rfl⟩)
theorem iX3_turn_X3 : ∀ w ∈ u_ws RX3 TX3 30, w ∈ wsX3_turn := by decide +kernel
set_option maxHeartbeats 1000000 in
set_option maxRecDepth 100000 in
theorem t_X3_turn {l : Launch} {D : va_G} {cI cZ cJ cG cW : ClassId} {q : Nat → Nat} {nc nw : Nat} {cx cy ch rm on wx wy dm sv fv hd lf la : Nat → Int32} {mg pt bd tk ho ri lo : Int32} {us gv bs ld qs : Nat → Int32} {mS mD th : Int32} {p1 : Int32} (h5 : nc ≤ 5) (h6 : nw ≤ 6) : CtI l yX3_turn wsX3_turn 1 21 0 0 D (T5 cI cZ cJ cG cW) [.ref (q 0), .int p1] (wM cI cZ q nc nw cx cy ch rm on wx wy dm sv fv hd lf la mg pt bd tk ho ri lo us gv bs ld qs mS mD th) (fun rv wv => (IC nc p1 ∧ rv = ftn (on p1.toNatClampNeg) ∧ wv = (wM cI cZ q nc nw cx cy ch rm (upd on p1.toNatClampNeg (ftn (on p1.toNatClampNeg))) wx wy dm ((if on p1.toNatClampNeg = 0 then (sv, fv, hd) else frw p1 (sv, fv, hd) nw).1) ((if on p1.toNatClampNeg = 0 then (sv, fv, hd) else frw p1 (sv, fv, hd) nw).2.1) ((if on p1.toNatClampNeg = 0 then (sv, fv, hd) else frw p1 (sv, fv, hd) nw).2.2) lf la mg pt bd tk ho ri lo us gv bs ld qs mS mD 0)) ∨ (¬ IC nc p1 ∧ wv = (wM cI cZ q nc nw cx cy ch rm on wx wy dm sv fv hd lf la mg pt bd tk ho ri lo us gv bs ld qs mS mD 1))) := by
  refine ctI_of (cc := cX3_turn) (maxL := 3) RX3 1 [some (.ref (q 0)), some (.int p1), none] (by decide +kernel) rfl rfl (Nat.le_of_ble_eq_true rfl) rfl (fun p_ e_ s_ m_ as_ bl_ me_ co_ C hret => ?_)
  have f22 := C.ts (.fieldLink RX3 22 "CellPlannerModel" "on" "[Z") (by decide +kernel)
  have f35 := C.ts (.fieldLink RX3 35 "CellPlannerModel" "serving" "[I") (by decide +kernel)
  have f81 := C.ts (.fieldLink RX3 81 "CellPlannerModel" "walkers" "I") (by decide +kernel)
  refine g_aload_n C dX3_turn_0 rfl ?_
  refine g_aload_n C dX3_turn_1 rfl ?_
  refine g_iload_n C dX3_turn_2 rfl ?_
  refine g_callVi C [] (wM cI cZ q nc nw cx cy ch rm on wx wy dm sv fv hd lf la mg pt bd tk ho ri lo us gv bs ld qs mS mD th) [.int p1] t_X3_isCell rfl rfl (cwV 1 C.ts gX3_turn_X3_isCell rfl rfl rfl (by decide +kernel) ⟨Nat.le_of_ble_eq_true rfl, Nat.le_of_ble_eq_true rfl⟩) rfl rfl rfl (Nat.le_of_ble_eq_true rfl) dX3_turn_3 ⟨Nat.le_of_ble_eq_true rfl, Nat.le_of_ble_eq_true rfl⟩ (fun rv1 wv1 hp1 => ?_)
  obtain ⟨rfl, rfl⟩ := hp1
  refine g_w (ws' := (wM cI cZ q nc nw cx cy ch rm on wx wy dm sv fv hd lf la mg pt bd tk ho ri lo us gv bs ld qs mS mD th)) rfl ?_
  refine g_callVi C [] (wM cI cZ q nc nw cx cy ch rm on wx wy dm sv fv hd lf la mg pt bd tk ho ri lo us gv bs ld qs mS mD th) [.int (bz (icb nc p1))] t_X3_may rfl rfl (cwV 1 C.ts gX3_turn_X3_may rfl rfl rfl (by decide +kernel) ⟨Nat.le_of_ble_eq_true rfl, Nat.le_of_ble_eq_true rfl⟩) rfl rfl rfl (Nat.le_of_ble_eq_true rfl) dX3_turn_6 ⟨Nat.le_of_ble_eq_true rfl, Nat.le_of_ble_eq_true rfl⟩ (fun rv2 wv2 hp2 => ?_)
  obtain ⟨rfl, rfl⟩ := hp2
  refine g_w (ws' := (wM cI cZ q nc nw cx cy ch rm on wx wy dm sv fv hd lf la mg pt bd tk ho ri lo us gv bs ld qs mS mD (mth (icb nc p1)))) rfl ?_
  refine g_if_ne C 14 dX3_turn_9 (by decide) (fun c_9 => ?_) (fun c_9 => ?_)
  · skip
    have hth : mth (icb nc p1) = 0 := mth_0 c_9
    obtain ⟨kc, hlkc, rfl⟩ := icb_yes (by omega) (bz_1 c_9)
    have hkl : (nI kc).toNatClampNeg = kc := nI_clamp (by omega)
    refine g_w (ws' := (wM cI cZ q nc nw cx cy ch rm on wx wy dm sv fv hd lf la mg pt bd tk ho ri lo us gv bs ld qs mS mD 0)) (by rw [hth]) ?_
    refine g_aload_n C dX3_turn_14 rfl ?_
    refine g_get C 0 iX3_turn_X3 rfl rfl 5 (by decide) f22 rfl dX3_turn_15 ?_
    refine g_iload_n C dX3_turn_18 rfl ?_
    refine g_aload_n C dX3_turn_19 rfl ?_
    refine g_get C 0 iX3_turn_X3 rfl rfl 5 (by decide) f22 rfl dX3_turn_20 ?_
    refine g_iload_n C dX3_turn_23 rfl ?_
    refine g_zald C 5 1 rfl rfl kc rfl (by omega) (by decide) (on kc) rfl dX3_turn_24 ?_
    refine g_if_ne C 32 dX3_turn_25 (by decide) (fun c_25 => ?_) (fun c_25 => ?_)
    · skip
      refine g_iconst C 0 dX3_turn_32 (by decide +kernel) ?_
      refine g_zast C 5 1 rfl rfl kc rfl (by omega) (by decide) (wM cI cZ q nc nw cx cy ch rm (upd on kc 0) wx wy dm sv fv hd lf la mg pt bd tk ho ri lo us gv bs ld qs mS mD 0) rfl dX3_turn_33 ?_
      refine g_iconst C 0 dX3_turn_34 (by decide +kernel) ?_
      refine g_istore_n C [some (.ref (q 0)), some (.int (nI kc)), some (.int 0)] dX3_turn_35 (by decide) rfl rfl ?_
      refine g_loop2 0 ((sv, fv, hd)) (fun (i : Nat) (z : (Nat → Int32) × (Nat → Int32) × (Nat → Int32)) => i ≤ nw ∧ z = frw (nI kc) (sv, fv, hd) i) (fun (i : Nat) (z : (Nat → Int32) × (Nat → Int32) × (Nat → Int32)) => (wM cI cZ q nc nw cx cy ch rm (upd on kc 0) wx wy dm z.1 z.2.1 z.2.2 lf la mg pt bd tk ho ri lo us gv bs ld qs mS mD 0)) (fun (i : Nat) (z : (Nat → Int32) × (Nat → Int32) × (Nat → Int32)) => [some (.ref (q 0)), some (.int (nI kc)), some (.int (nI i))]) (fun (i : Nat) (z : (Nat → Int32) × (Nat → Int32) × (Nat → Int32)) => nw - i) ⟨Nat.zero_le _, rfl⟩ rfl rfl (fun i z hI ih => ?_)
      obtain ⟨h1, h2⟩ := hI
      refine g_iload_n C dX3_turn_36 rfl ?_
      refine g_aload_n C dX3_turn_37 rfl ?_
      refine g_get C 0 iX3_turn_X3 rfl rfl 6 (by decide) f81 rfl dX3_turn_38 ?_
      refine g_icmp_ge C 74 dX3_turn_41 (by decide) (fun c_41 => ?_) (fun c_41 => ?_)
      · skip
        have c_41 : nw ≤ i := (nI_leI (by omega) (by omega)).mp c_41
        refine g_aload_n C dX3_turn_74 rfl ?_
        refine g_get C 0 iX3_turn_X3 rfl rfl 5 (by decide) f22 rfl dX3_turn_75 ?_
        refine g_iload_n C dX3_turn_78 rfl ?_
        refine g_zald C 5 1 rfl rfl kc rfl (by omega) (by decide) 0 upd_at dX3_turn_79 ?_
        exact g_zret C hret rfl dX3_turn_80 (Nat.le_of_ble_eq_true rfl) (Nat.le_of_ble_eq_true rfl) (Or.inl ⟨⟨kc, hlkc, rfl⟩, (by unfold ftn; rw [hkl, if_neg c_25]), (by rw [hkl, if_neg c_25]; unfold ftn; rw [if_neg c_25, ← show z = frw (nI kc) (sv, fv, hd) nw from (by rw [h2, show i = nw by omega])] <;> rfl)⟩)
      · skip
        have c_41 : ¬ (nw ≤ i) := fun h9 => c_41 ((nI_leI (by omega) (by omega)).mpr h9)
        refine g_aload_n C dX3_turn_44 rfl ?_
        refine g_get C 0 iX3_turn_X3 rfl rfl 5 (by decide) f22 rfl dX3_turn_45 ?_
        refine g_iload_n C dX3_turn_48 rfl ?_
        refine g_zald C 5 1 rfl rfl kc rfl (by omega) (by decide) 0 upd_at dX3_turn_49 ?_
        refine g_if_ne C 74 dX3_turn_50 (by decide) (fun c9 => absurd rfl c9) (fun _ => ?_)
        refine g_aload_n C dX3_turn_53 rfl ?_
        refine g_get C 0 iX3_turn_X3 rfl rfl 10 (by decide) f35 rfl dX3_turn_54 ?_
        refine g_iload_n C dX3_turn_57 rfl ?_
        refine g_iald C 9 0 rfl rfl i rfl (by omega) (by decide) (z.1 i) rfl dX3_turn_58 ?_
        refine g_iload_n C dX3_turn_59 rfl ?_
        refine g_icmp_ne C 68 dX3_turn_60 (by decide) (fun c_60 => ?_) (fun c_60 => ?_)
        · skip
          refine g_iinc C (nI (i + 1)) [some (.ref (q 0)), some (.int (nI kc)), some (.int (nI (i + 1)))] dX3_turn_68 rfl (nI_1 i) (by decide) rfl rfl ?_
          refine g_goto C 36 dX3_turn_71 (by decide) ?_
          exact ih (i + 1) z ⟨by omega, by rw [frw, ← h2, if_neg c_60]⟩ (by omega)
        · skip
          refine g_aload_n C dX3_turn_63 rfl ?_
          refine g_iload_n C dX3_turn_64 rfl ?_
          refine g_callVv C [] (wM cI cZ q nc nw cx cy ch rm (upd on kc 0) wx wy dm z.1 z.2.1 z.2.2 lf la mg pt bd tk ho ri lo us gv bs ld qs mS mD 0) [.int (nI i)] (t_X3_lose (by omega)) rfl rfl (cwV 1 C.ts gX3_turn_X3_lose rfl rfl rfl (by decide +kernel) ⟨Nat.le_of_ble_eq_true rfl, Nat.le_of_ble_eq_true rfl⟩) rfl rfl rfl (Nat.le_of_ble_eq_true rfl) dX3_turn_65 ⟨Nat.le_of_ble_eq_true rfl, Nat.le_of_ble_eq_true rfl⟩ (fun wv3 tv3 hp3 => ?_)
          obtain ⟨rfl, rfl⟩ := hp3
          refine g_w (ws' := (wM cI cZ q nc nw cx cy ch rm (upd on kc 0) wx wy dm (upd z.1 i (-1)) (upd z.2.1 i (-1)) (upd z.2.2 i 0) lf la mg pt bd tk ho ri lo us gv bs ld qs mS mD 0)) rfl ?_
          refine g_iinc C (nI (i + 1)) [some (.ref (q 0)), some (.int (nI kc)), some (.int (nI (i + 1)))] dX3_turn_68 rfl (nI_1 i) (by decide) rfl rfl ?_
          refine g_goto C 36 dX3_turn_71 (by decide) ?_
          exact ih (i + 1) ((upd z.1 i (-1), upd z.2.1 i (-1), upd z.2.2 i 0)) ⟨by omega, by rw [frw, ← h2, if_pos c_60]⟩ (by omega)
    · skip
      refine g_iconst C 1 dX3_turn_28 (by decide +kernel) ?_
      refine g_goto C 33 dX3_turn_29 (by decide) ?_
      refine g_zast C 5 1 rfl rfl kc rfl (by omega) (by decide) (wM cI cZ q nc nw cx cy ch rm (upd on kc 1) wx wy dm sv fv hd lf la mg pt bd tk ho ri lo us gv bs ld qs mS mD 0) rfl dX3_turn_33 ?_
      refine g_iconst C 0 dX3_turn_34 (by decide +kernel) ?_
      refine g_istore_n C [some (.ref (q 0)), some (.int (nI kc)), some (.int 0)] dX3_turn_35 (by decide) rfl rfl ?_
      refine g_iload_n C dX3_turn_36 rfl ?_
      refine g_aload_n C dX3_turn_37 rfl ?_
      refine g_get C 0 iX3_turn_X3 rfl rfl 6 (by decide) f81 rfl dX3_turn_38 ?_
      refine g_icmp_ge C 74 dX3_turn_41 (by decide) (fun c_41 => ?_) (fun c_41 => ?_)
      · skip
        refine g_aload_n C dX3_turn_74 rfl ?_
        refine g_get C 0 iX3_turn_X3 rfl rfl 5 (by decide) f22 rfl dX3_turn_75 ?_
        refine g_iload_n C dX3_turn_78 rfl ?_
        refine g_zald C 5 1 rfl rfl kc rfl (by omega) (by decide) 1 upd_at dX3_turn_79 ?_
        exact g_zret C hret rfl dX3_turn_80 (Nat.le_of_ble_eq_true rfl) (Nat.le_of_ble_eq_true rfl) (Or.inl ⟨⟨kc, hlkc, rfl⟩, (by unfold ftn; rw [hkl, if_pos c_25]), (by rw [hkl, if_pos c_25]; unfold ftn; rw [if_pos c_25] <;> rfl)⟩)
      · skip
        refine g_aload_n C dX3_turn_44 rfl ?_
        refine g_get C 0 iX3_turn_X3 rfl rfl 5 (by decide) f22 rfl dX3_turn_45 ?_
        refine g_iload_n C dX3_turn_48 rfl ?_
        refine g_zald C 5 1 rfl rfl kc rfl (by omega) (by decide) 1 upd_at dX3_turn_49 ?_
        refine g_if_ne C 74 dX3_turn_50 (by decide) (fun _ => ?_) (fun c9 => absurd c9 (by decide))
        refine g_aload_n C dX3_turn_74 rfl ?_
        refine g_get C 0 iX3_turn_X3 rfl rfl 5 (by decide) f22 rfl dX3_turn_75 ?_
        refine g_iload_n C dX3_turn_78 rfl ?_
        refine g_zald C 5 1 rfl rfl kc rfl (by omega) (by decide) 1 upd_at dX3_turn_79 ?_
        exact g_zret C hret rfl dX3_turn_80 (Nat.le_of_ble_eq_true rfl) (Nat.le_of_ble_eq_true rfl) (Or.inl ⟨⟨kc, hlkc, rfl⟩, (by unfold ftn; rw [hkl, if_pos c_25]), (by rw [hkl, if_pos c_25]; unfold ftn; rw [if_pos c_25] <;> rfl)⟩)
  · skip
    have hno : ¬ IC nc p1 := icb_no (by omega) (bz_0 c_9)
    refine g_w (ws' := (wM cI cZ q nc nw cx cy ch rm on wx wy dm sv fv hd lf la mg pt bd tk ho ri lo us gv bs ld qs mS mD 1)) (by rw [mth_1 c_9]) ?_
    refine g_iconst C 0 dX3_turn_12 (by decide +kernel) ?_
    exact g_zret C hret rfl dX3_turn_13 (Nat.le_of_ble_eq_true rfl) (Nat.le_of_ble_eq_true rfl) (Or.inr ⟨hno, rfl⟩)
theorem iX3_unserved_X3 : ∀ w ∈ u_ws RX3 TX3 30, w ∈ wsX3_unserved := by decide +kernel
set_option maxHeartbeats 1000000 in
set_option maxRecDepth 100000 in
theorem t_X3_unserved {l : Launch} {D : va_G} {cI cZ cJ cG cW : ClassId} {q : Nat → Nat} {nc nw : Nat} {cx cy ch rm on wx wy dm sv fv hd lf la : Nat → Int32} {mg pt bd tk ho ri lo : Int32} {us gv bs ld qs : Nat → Int32} {mS mD th : Int32}  (h6 : nw ≤ 6) : CtI l yX3_unserved wsX3_unserved 0 0 0 0 D (T5 cI cZ cJ cG cW) [.ref (q 0)] (wM cI cZ q nc nw cx cy ch rm on wx wy dm sv fv hd lf la mg pt bd tk ho ri lo us gv bs ld qs mS mD th) (fun rv wv => rv = fun0 sv nw ∧ wv = (wM cI cZ q nc nw cx cy ch rm on wx wy dm sv fv hd lf la mg pt bd tk ho ri lo us gv bs ld qs mS mD 0)) := by
  refine ctI_of (cc := cX3_unserved) (maxL := 3) RX3 2 [some (.ref (q 0)), none, none] (by decide +kernel) rfl rfl (Nat.le_of_ble_eq_true rfl) rfl (fun p_ e_ s_ m_ as_ bl_ me_ co_ C hret => ?_)
  have f35 := C.ts (.fieldLink RX3 35 "CellPlannerModel" "serving" "[I") (by decide +kernel)
  have f75 := C.ts (.fieldLink RX3 75 "CellPlannerModel" "thrown" "I") (by decide +kernel)
  have f81 := C.ts (.fieldLink RX3 81 "CellPlannerModel" "walkers" "I") (by decide +kernel)
  refine g_aload_n C dX3_unserved_0 rfl ?_
  refine g_iconst C 0 dX3_unserved_1 (by decide +kernel) ?_
  refine g_put C 0 iX3_unserved_X3 rfl rfl 29 (by decide) f75 rfl tyX3 tyX3_ok nmX3 (ty := .int) (by decide +kernel) rfl rfl (Nat.le_of_ble_eq_true rfl) (wM cI cZ q nc nw cx cy ch rm on wx wy dm sv fv hd lf la mg pt bd tk ho ri lo us gv bs ld qs mS mD 0) rfl dX3_unserved_2 ?_
  refine g_iconst C 0 dX3_unserved_5 (by decide +kernel) ?_
  refine g_istore_n C [some (.ref (q 0)), some (.int 0), none] dX3_unserved_6 (by decide) rfl rfl ?_
  refine g_iconst C 0 dX3_unserved_7 (by decide +kernel) ?_
  refine g_istore_n C [some (.ref (q 0)), some (.int 0), some (.int 0)] dX3_unserved_8 (by decide) rfl rfl ?_
  refine g_loop2 0 0 (fun (i : Nat) (x : Int32) => i ≤ nw ∧ x = fun0 sv i) (fun (i : Nat) (x : Int32) => (wM cI cZ q nc nw cx cy ch rm on wx wy dm sv fv hd lf la mg pt bd tk ho ri lo us gv bs ld qs mS mD 0)) (fun (i : Nat) (x : Int32) => [some (.ref (q 0)), some (.int x), some (.int (nI i))]) (fun (i : Nat) (x : Int32) => nw - i) ⟨Nat.zero_le _, rfl⟩ rfl rfl (fun i x hI ih => ?_)
  obtain ⟨h1, h2⟩ := hI
  refine g_iload_n C dX3_unserved_9 rfl ?_
  refine g_aload_n C dX3_unserved_10 rfl ?_
  refine g_get C 0 iX3_unserved_X3 rfl rfl 6 (by decide) f81 rfl dX3_unserved_11 ?_
  refine g_icmp_ge C 43 dX3_unserved_14 (by decide) (fun c_14 => ?_) (fun c_14 => ?_)
  · skip
    have c_14 : nw ≤ i := (nI_leI (by omega) (by omega)).mp c_14
    refine g_iload_n C dX3_unserved_43 rfl ?_
    exact g_iret C hret dX3_unserved_44 (Nat.le_of_ble_eq_true rfl) (Nat.le_of_ble_eq_true rfl) ⟨(by rw [h2, show i = nw by omega]), rfl⟩
  · skip
    have c_14 : ¬ (nw ≤ i) := fun h9 => c_14 ((nI_leI (by omega) (by omega)).mpr h9)
    refine g_iload_n C dX3_unserved_17 rfl ?_
    refine g_aload_n C dX3_unserved_18 rfl ?_
    refine g_get C 0 iX3_unserved_X3 rfl rfl 10 (by decide) f35 rfl dX3_unserved_19 ?_
    refine g_iload_n C dX3_unserved_22 rfl ?_
    refine g_iald C 9 0 rfl rfl i rfl (by omega) (by decide) (sv i) rfl dX3_unserved_23 ?_
    refine g_iconst C (-1) dX3_unserved_24 (by decide +kernel) ?_
    refine g_icmp_ne C 34 dX3_unserved_25 (by decide) (fun c_25 => ?_) (fun c_25 => ?_)
    · skip
      refine g_iconst C 0 dX3_unserved_34 (by decide +kernel) ?_
      refine g_ior C x dX3_unserved_35 (Int32_or0 _) ?_
      refine g_istore_n C [some (.ref (q 0)), some (.int x), some (.int (nI i))] dX3_unserved_36 (by decide) rfl rfl ?_
      refine g_iinc C (nI (i + 1)) [some (.ref (q 0)), some (.int x), some (.int (nI (i + 1)))] dX3_unserved_37 rfl (nI_1 i) (by decide) rfl rfl ?_
      refine g_goto C 9 dX3_unserved_40 (by decide) ?_
      exact ih (i + 1) x ⟨by omega, by rw [fun0, if_neg c_25, h2]⟩ (by omega)
    · skip
      refine g_iconst C 1 dX3_unserved_28 (by decide +kernel) ?_
      refine g_iload_n C dX3_unserved_29 rfl ?_
      refine g_ishl C (1 <<< ((nI i) &&& 31)) dX3_unserved_30 rfl ?_
      refine g_goto C 35 dX3_unserved_31 (by decide) ?_
      refine g_ior C (x ||| (1 <<< ((nI i) &&& 31))) dX3_unserved_35 rfl ?_
      refine g_istore_n C [some (.ref (q 0)), some (.int (x ||| (1 <<< ((nI i) &&& 31)))), some (.int (nI i))] dX3_unserved_36 (by decide) rfl rfl ?_
      refine g_iinc C (nI (i + 1)) [some (.ref (q 0)), some (.int (x ||| (1 <<< ((nI i) &&& 31)))), some (.int (nI (i + 1)))] dX3_unserved_37 rfl (nI_1 i) (by decide) rfl rfl ?_
      refine g_goto C 9 dX3_unserved_40 (by decide) ?_
      exact ih (i + 1) (x ||| (1 <<< ((nI i) &&& 31))) ⟨by omega, by rw [fun0, if_pos c_25, h2]⟩ (by omega)
theorem iX3_tick_X3 : ∀ w ∈ u_ws RX3 TX3 30, w ∈ wsX3_tick := by decide +kernel
set_option maxHeartbeats 1000000 in
set_option maxRecDepth 100000 in
theorem t_X3_tick {l : Launch} {D : va_G} {cI cZ cJ cG cW : ClassId} {q : Nat → Nat} {nc nw : Nat} {cx cy ch rm on wx wy dm sv fv hd lf la : Nat → Int32} {mg pt bd tk ho ri lo : Int32} {us gv bs ld qs : Nat → Int32} {mS mD th : Int32} {p1 : Int32} (h5 : nc ≤ 5) (h6 : nw ≤ 6) (hr : ∀ c, c < nc → ¬ rm c ≤ 0) (hg : ∀ c w, c < nc → w < nw → ¬ dsq (cx c) (cy c) (wx w) (wy w) = 0) (hQ : GQ nc nw cx cy ch on wx wy rm dm) (hsv : ∀ j, j < nw → SV nc (sv j)) : CtI l yX3_tick wsX3_tick 4 96 0 0 D (T5 cI cZ cJ cG cW) [.ref (q 0), .int p1] (wM cI cZ q nc nw cx cy ch rm on wx wy dm sv fv hd lf la mg pt bd tk ho ri lo us gv bs ld qs mS mD th) (fun rv wv => ((1 ≤ p1 ∧ p1 ≤ 20) ∧ rv = (fmi cx cy ch on wx wy rm dm nc nw mg pt bd (tk, us, sv, fv, hd, lf, la, ho, ri, lo) p1.toNatClampNeg).2.2.2.2.2.2.2.1 - ho ∧ wv = (wM cI cZ q nc nw cx cy ch rm on wx wy dm ((fmi cx cy ch on wx wy rm dm nc nw mg pt bd (tk, us, sv, fv, hd, lf, la, ho, ri, lo) p1.toNatClampNeg).2.2.1) ((fmi cx cy ch on wx wy rm dm nc nw mg pt bd (tk, us, sv, fv, hd, lf, la, ho, ri, lo) p1.toNatClampNeg).2.2.2.1) ((fmi cx cy ch on wx wy rm dm nc nw mg pt bd (tk, us, sv, fv, hd, lf, la, ho, ri, lo) p1.toNatClampNeg).2.2.2.2.1) ((fmi cx cy ch on wx wy rm dm nc nw mg pt bd (tk, us, sv, fv, hd, lf, la, ho, ri, lo) p1.toNatClampNeg).2.2.2.2.2.1) ((fmi cx cy ch on wx wy rm dm nc nw mg pt bd (tk, us, sv, fv, hd, lf, la, ho, ri, lo) p1.toNatClampNeg).2.2.2.2.2.2.1) mg pt bd ((fmi cx cy ch on wx wy rm dm nc nw mg pt bd (tk, us, sv, fv, hd, lf, la, ho, ri, lo) p1.toNatClampNeg).1) ((fmi cx cy ch on wx wy rm dm nc nw mg pt bd (tk, us, sv, fv, hd, lf, la, ho, ri, lo) p1.toNatClampNeg).2.2.2.2.2.2.2.1) ((fmi cx cy ch on wx wy rm dm nc nw mg pt bd (tk, us, sv, fv, hd, lf, la, ho, ri, lo) p1.toNatClampNeg).2.2.2.2.2.2.2.2.1) ((fmi cx cy ch on wx wy rm dm nc nw mg pt bd (tk, us, sv, fv, hd, lf, la, ho, ri, lo) p1.toNatClampNeg).2.2.2.2.2.2.2.2.2) ((fmi cx cy ch on wx wy rm dm nc nw mg pt bd (tk, us, sv, fv, hd, lf, la, ho, ri, lo) p1.toNatClampNeg).2.1) gv bs ld qs mS mD 0)) ∨ (¬ (1 ≤ p1 ∧ p1 ≤ 20) ∧ wv = (wM cI cZ q nc nw cx cy ch rm on wx wy dm sv fv hd lf la mg pt bd tk ho ri lo us gv bs ld qs mS mD 1))) := by
  refine ctI_of (cc := cX3_tick) (maxL := 5) RX3 3 [some (.ref (q 0)), some (.int p1), none, none, none] (by decide +kernel) rfl rfl (Nat.le_of_ble_eq_true rfl) rfl (fun p_ e_ s_ m_ as_ bl_ me_ co_ C hret => ?_)
  have f81 := C.ts (.fieldLink RX3 81 "CellPlannerModel" "walkers" "I") (by decide +kernel)
  have f123 := C.ts (.fieldLink RX3 123 "CellPlannerModel" "handovers" "I") (by decide +kernel)
  have f129 := C.ts (.fieldLink RX3 129 "CellPlannerModel" "ticks" "I") (by decide +kernel)
  refine g_aload_n C dX3_tick_0 rfl ?_
  refine g_iload_n C dX3_tick_1 rfl ?_
  refine g_iconst C 1 dX3_tick_2 (by decide +kernel) ?_
  refine g_icmp_lt C 16 dX3_tick_3 (by decide) (fun c_3 => ?_) (fun c_3 => ?_)
  · skip
    have hno : ¬ (1 ≤ p1 ∧ p1 ≤ 20) := fun h => Int32.not_le.mpr c_3 h.1
    refine g_iconst C 0 dX3_tick_16 (by decide +kernel) ?_
    refine g_st (st' := [.int (bz false), .ref (q 0)]) rfl ?_
    refine g_callVi C [] (wM cI cZ q nc nw cx cy ch rm on wx wy dm sv fv hd lf la mg pt bd tk ho ri lo us gv bs ld qs mS mD th) [.int (bz false)] t_X3_may rfl rfl (cwV 1 C.ts gX3_tick_X3_may rfl rfl rfl (by decide +kernel) ⟨Nat.le_of_ble_eq_true rfl, Nat.le_of_ble_eq_true rfl⟩) rfl rfl rfl (Nat.le_of_ble_eq_true rfl) dX3_tick_17 ⟨Nat.le_of_ble_eq_true rfl, Nat.le_of_ble_eq_true rfl⟩ (fun rv1 wv1 hp1 => ?_)
    obtain ⟨rfl, rfl⟩ := hp1
    refine g_w (ws' := (wM cI cZ q nc nw cx cy ch rm on wx wy dm sv fv hd lf la mg pt bd tk ho ri lo us gv bs ld qs mS mD (mth false))) rfl ?_
    refine g_if_ne C 25 dX3_tick_20 (by decide) (fun c9 => absurd rfl c9) (fun _ => ?_)
    refine g_w (ws' := (wM cI cZ q nc nw cx cy ch rm on wx wy dm sv fv hd lf la mg pt bd tk ho ri lo us gv bs ld qs mS mD 1)) rfl ?_
    refine g_iconst C 0 dX3_tick_23 (by decide +kernel) ?_
    exact g_iret C hret dX3_tick_24 (Nat.le_of_ble_eq_true rfl) (Nat.le_of_ble_eq_true rfl) (Or.inr ⟨hno, rfl⟩)
  · skip
    refine g_iload_n C dX3_tick_6 rfl ?_
    refine g_bipush C 20 dX3_tick_7 (by decide +kernel) ?_
    refine g_icmp_gt C 16 dX3_tick_9 (by decide) (fun c_9 => ?_) (fun c_9 => ?_)
    · skip
      have hno : ¬ (1 ≤ p1 ∧ p1 ≤ 20) := fun h => Int32.not_le.mpr c_9 h.2
      refine g_iconst C 0 dX3_tick_16 (by decide +kernel) ?_
      refine g_st (st' := [.int (bz false), .ref (q 0)]) rfl ?_
      refine g_callVi C [] (wM cI cZ q nc nw cx cy ch rm on wx wy dm sv fv hd lf la mg pt bd tk ho ri lo us gv bs ld qs mS mD th) [.int (bz false)] t_X3_may rfl rfl (cwV 1 C.ts gX3_tick_X3_may rfl rfl rfl (by decide +kernel) ⟨Nat.le_of_ble_eq_true rfl, Nat.le_of_ble_eq_true rfl⟩) rfl rfl rfl (Nat.le_of_ble_eq_true rfl) dX3_tick_17 ⟨Nat.le_of_ble_eq_true rfl, Nat.le_of_ble_eq_true rfl⟩ (fun rv2 wv2 hp2 => ?_)
      obtain ⟨rfl, rfl⟩ := hp2
      refine g_w (ws' := (wM cI cZ q nc nw cx cy ch rm on wx wy dm sv fv hd lf la mg pt bd tk ho ri lo us gv bs ld qs mS mD (mth false))) rfl ?_
      refine g_if_ne C 25 dX3_tick_20 (by decide) (fun c9 => absurd rfl c9) (fun _ => ?_)
      refine g_w (ws' := (wM cI cZ q nc nw cx cy ch rm on wx wy dm sv fv hd lf la mg pt bd tk ho ri lo us gv bs ld qs mS mD 1)) rfl ?_
      refine g_iconst C 0 dX3_tick_23 (by decide +kernel) ?_
      exact g_iret C hret dX3_tick_24 (Nat.le_of_ble_eq_true rfl) (Nat.le_of_ble_eq_true rfl) (Or.inr ⟨hno, rfl⟩)
    · skip
      have hyes : 1 ≤ p1 ∧ p1 ≤ 20 := ⟨Int32.not_lt.mp c_3, Int32.not_lt.mp c_9⟩
      obtain ⟨T, hT, rfl⟩ := tick_T hyes
      have hTl : (nI T).toNatClampNeg = T := nI_clamp (by omega)
      refine g_iconst C 1 dX3_tick_12 (by decide +kernel) ?_
      refine g_goto C 17 dX3_tick_13 (by decide) ?_
      refine g_st (st' := [.int (bz true), .ref (q 0)]) rfl ?_
      refine g_callVi C [] (wM cI cZ q nc nw cx cy ch rm on wx wy dm sv fv hd lf la mg pt bd tk ho ri lo us gv bs ld qs mS mD th) [.int (bz true)] t_X3_may rfl rfl (cwV 1 C.ts gX3_tick_X3_may rfl rfl rfl (by decide +kernel) ⟨Nat.le_of_ble_eq_true rfl, Nat.le_of_ble_eq_true rfl⟩) rfl rfl rfl (Nat.le_of_ble_eq_true rfl) dX3_tick_17 ⟨Nat.le_of_ble_eq_true rfl, Nat.le_of_ble_eq_true rfl⟩ (fun rv3 wv3 hp3 => ?_)
      obtain ⟨rfl, rfl⟩ := hp3
      refine g_w (ws' := (wM cI cZ q nc nw cx cy ch rm on wx wy dm sv fv hd lf la mg pt bd tk ho ri lo us gv bs ld qs mS mD (mth true))) rfl ?_
      refine g_if_ne C 25 dX3_tick_20 (by decide) (fun _ => ?_) (fun c9 => absurd c9 (by decide))
      refine g_w (ws' := (wM cI cZ q nc nw cx cy ch rm on wx wy dm sv fv hd lf la mg pt bd tk ho ri lo us gv bs ld qs mS mD 0)) rfl ?_
      refine g_aload_n C dX3_tick_25 rfl ?_
      refine g_get C 0 iX3_tick_X3 rfl rfl 19 (by decide) f123 rfl dX3_tick_26 ?_
      refine g_istore_n C [some (.ref (q 0)), some (.int (nI T)), some (.int ho), none, none] dX3_tick_29 (by decide) rfl rfl ?_
      refine g_iconst C 0 dX3_tick_30 (by decide +kernel) ?_
      refine g_istore_n C [some (.ref (q 0)), some (.int (nI T)), some (.int ho), some (.int 0), none] dX3_tick_31 (by decide) rfl rfl ?_
      refine g_loop2 0 ((tk, us, sv, fv, hd, lf, la, ho, ri, lo)) (fun (i : Nat) (z : PM) => i ≤ T ∧ z = fmi cx cy ch on wx wy rm dm nc nw mg pt bd (tk, us, sv, fv, hd, lf, la, ho, ri, lo) i ∧ ∀ j, j < nw → SV nc (z.2.2.1 j)) (fun (i : Nat) (z : PM) => (wM cI cZ q nc nw cx cy ch rm on wx wy dm z.2.2.1 z.2.2.2.1 z.2.2.2.2.1 z.2.2.2.2.2.1 z.2.2.2.2.2.2.1 mg pt bd z.1 z.2.2.2.2.2.2.2.1 z.2.2.2.2.2.2.2.2.1 z.2.2.2.2.2.2.2.2.2 z.2.1 gv bs ld qs mS mD 0)) (fun (i : Nat) (z : PM) => [some (.ref (q 0)), some (.int (nI T)), some (.int ho), some (.int (nI i)), none]) (fun (i : Nat) (z : PM) => T - i) ⟨Nat.zero_le _, rfl, hsv⟩ rfl rfl (fun i z hI ih => ?_)
      obtain ⟨h1, h2, h3⟩ := hI
      refine g_iload_n C dX3_tick_32 rfl ?_
      refine g_iload_n C dX3_tick_33 rfl ?_
      refine g_icmp_ge C 81 dX3_tick_34 (by decide) (fun c_34 => ?_) (fun c_34 => ?_)
      · skip
        have c_34 : T ≤ i := (nI_leI (by omega) (by omega)).mp c_34
        refine g_aload_n C dX3_tick_81 rfl ?_
        refine g_get C 0 iX3_tick_X3 rfl rfl 19 (by decide) f123 rfl dX3_tick_82 ?_
        refine g_iload_n C dX3_tick_85 rfl ?_
        refine g_isub C (z.2.2.2.2.2.2.2.1 - ho) dX3_tick_86 rfl ?_
        exact g_iret C hret dX3_tick_87 (Nat.le_of_ble_eq_true rfl) (Nat.le_of_ble_eq_true rfl) (Or.inl ⟨hyes, (by rw [hTl, h2, show i = T by omega]), (by rw [hTl, ← show z = fmi cx cy ch on wx wy rm dm nc nw mg pt bd (tk, us, sv, fv, hd, lf, la, ho, ri, lo) T from (by rw [h2, show i = T by omega])] <;> rfl)⟩)
      · skip
        have c_34 : ¬ (T ≤ i) := fun h9 => c_34 ((nI_leI (by omega) (by omega)).mpr h9)
        refine g_aload_n C dX3_tick_37 rfl ?_
        refine g_dup C dX3_tick_38 rfl ?_
        refine g_get C 0 iX3_tick_X3 rfl rfl 18 (by decide) f129 rfl dX3_tick_39 ?_
        refine g_iconst C 1 dX3_tick_42 (by decide +kernel) ?_
        refine g_iadd C (z.1 + 1) dX3_tick_43 rfl ?_
        refine g_put C 0 iX3_tick_X3 rfl rfl 18 (by decide) f129 rfl tyX3 tyX3_ok nmX3 (ty := .int) (by decide +kernel) rfl rfl (Nat.le_of_ble_eq_true rfl) (wM cI cZ q nc nw cx cy ch rm on wx wy dm z.2.2.1 z.2.2.2.1 z.2.2.2.2.1 z.2.2.2.2.2.1 z.2.2.2.2.2.2.1 mg pt bd (z.1 + 1) z.2.2.2.2.2.2.2.1 z.2.2.2.2.2.2.2.2.1 z.2.2.2.2.2.2.2.2.2 z.2.1 gv bs ld qs mS mD 0) rfl dX3_tick_44 ?_
        refine g_aload_n C dX3_tick_47 rfl ?_
        refine g_callVv C [] (wM cI cZ q nc nw cx cy ch rm on wx wy dm z.2.2.1 z.2.2.2.1 z.2.2.2.2.1 z.2.2.2.2.2.1 z.2.2.2.2.2.2.1 mg pt bd (z.1 + 1) z.2.2.2.2.2.2.2.1 z.2.2.2.2.2.2.2.2.1 z.2.2.2.2.2.2.2.2.2 z.2.1 gv bs ld qs mS mD 0) [] (t_X3_takeUses h5 h6 hr) rfl rfl (cwV 0 C.ts gX3_tick_X3_takeUses rfl rfl rfl (by decide +kernel) ⟨Nat.le_of_ble_eq_true rfl, Nat.le_of_ble_eq_true rfl⟩) rfl rfl rfl (Nat.le_of_ble_eq_true rfl) dX3_tick_48 ⟨Nat.le_of_ble_eq_true rfl, Nat.le_of_ble_eq_true rfl⟩ (fun wv4 tv4 hp4 => ?_)
        obtain ⟨rfl, rfl⟩ := hp4
        refine g_w (ws' := (wM cI cZ q nc nw cx cy ch rm on wx wy dm z.2.2.1 z.2.2.2.1 z.2.2.2.2.1 z.2.2.2.2.2.1 z.2.2.2.2.2.2.1 mg pt bd (z.1 + 1) z.2.2.2.2.2.2.2.1 z.2.2.2.2.2.2.2.2.1 z.2.2.2.2.2.2.2.2.2 (fil nc (fus rm z.2.2.1 dm nw) z.2.1) gv bs ld qs mS mD 0)) rfl ?_
        refine g_iconst C 0 dX3_tick_51 (by decide +kernel) ?_
        refine g_istore C [some (.ref (q 0)), some (.int (nI T)), some (.int ho), some (.int (nI i)), some (.int 0)] dX3_tick_52 (by decide) rfl rfl ?_
        refine g_loop2 0 z.2.2 (fun (j : Nat) (y : TS) => j ≤ nw ∧ y = ftw on dm rm nc nw (fqu cx cy ch on wx wy (fil nc (fus rm z.2.2.1 dm nw) z.2.1) nc) mg pt bd (z.1 + 1) z.2.2 j ∧ ∀ u, u < nw → SV nc (y.1 u)) (fun (j : Nat) (y : TS) => (wM cI cZ q nc nw cx cy ch rm on wx wy dm y.1 y.2.1 y.2.2.1 y.2.2.2.1 y.2.2.2.2.1 mg pt bd (z.1 + 1) y.2.2.2.2.2.1 y.2.2.2.2.2.2.1 y.2.2.2.2.2.2.2 (fil nc (fus rm z.2.2.1 dm nw) z.2.1) gv bs ld qs mS mD 0)) (fun (j : Nat) (y : TS) => [some (.ref (q 0)), some (.int (nI T)), some (.int ho), some (.int (nI i)), some (.int (nI j))]) (fun (j : Nat) (y : TS) => nw - j) ⟨Nat.zero_le _, rfl, h3⟩ rfl rfl (fun j y hI2 ih2 => ?_)
        obtain ⟨g1, g2, g3⟩ := hI2
        refine g_iload C dX3_tick_54 rfl ?_
        refine g_aload_n C dX3_tick_56 rfl ?_
        refine g_get C 0 iX3_tick_X3 rfl rfl 6 (by decide) f81 rfl dX3_tick_57 ?_
        refine g_icmp_ge C 75 dX3_tick_60 (by decide) (fun c_60 => ?_) (fun c_60 => ?_)
        · skip
          have c_60 : nw ≤ j := (nI_leI (by omega) (by omega)).mp c_60
          refine g_w (ws' := (wM cI cZ q nc nw cx cy ch rm on wx wy dm ((fmt cx cy ch on wx wy rm dm nc nw mg pt bd z).2.2.1) ((fmt cx cy ch on wx wy rm dm nc nw mg pt bd z).2.2.2.1) ((fmt cx cy ch on wx wy rm dm nc nw mg pt bd z).2.2.2.2.1) ((fmt cx cy ch on wx wy rm dm nc nw mg pt bd z).2.2.2.2.2.1) ((fmt cx cy ch on wx wy rm dm nc nw mg pt bd z).2.2.2.2.2.2.1) mg pt bd ((fmt cx cy ch on wx wy rm dm nc nw mg pt bd z).1) ((fmt cx cy ch on wx wy rm dm nc nw mg pt bd z).2.2.2.2.2.2.2.1) ((fmt cx cy ch on wx wy rm dm nc nw mg pt bd z).2.2.2.2.2.2.2.2.1) ((fmt cx cy ch on wx wy rm dm nc nw mg pt bd z).2.2.2.2.2.2.2.2.2) ((fmt cx cy ch on wx wy rm dm nc nw mg pt bd z).2.1) gv bs ld qs mS mD 0)) (by rw [show y = ftw on dm rm nc nw (fqu cx cy ch on wx wy (fil nc (fus rm z.2.2.1 dm nw) z.2.1) nc) mg pt bd (z.1 + 1) z.2.2 nw from (by rw [g2, show j = nw by omega])] <;> rfl) ?_
          refine g_iinc C (nI (i + 1)) [some (.ref (q 0)), some (.int (nI T)), some (.int ho), some (.int (nI (i + 1))), some (.int (nI j))] dX3_tick_75 rfl (nI_1 i) (by decide) rfl rfl ?_
          refine g_goto C 32 dX3_tick_78 (by decide) ?_
          refine g_mask [true, true, true, true, false] rfl ?_
          exact ih (i + 1) (fmt cx cy ch on wx wy rm dm nc nw mg pt bd z) ⟨by omega, by rw [fmi, ← h2], by rw [show (fmt cx cy ch on wx wy rm dm nc nw mg pt bd z).2.2.1 = (ftw on dm rm nc nw (fqu cx cy ch on wx wy (fil nc (fus rm z.2.2.1 dm nw) z.2.1) nc) mg pt bd (z.1 + 1) z.2.2 nw).1 from rfl]; exact ftw_sv nw h3⟩ (by omega)
        · skip
          have c_60 : ¬ (nw ≤ j) := fun h9 => c_60 ((nI_leI (by omega) (by omega)).mpr h9)
          refine g_aload_n C dX3_tick_63 rfl ?_
          refine g_iload C dX3_tick_64 rfl ?_
          refine g_callVv C [] (wM cI cZ q nc nw cx cy ch rm on wx wy dm y.1 y.2.1 y.2.2.1 y.2.2.2.1 y.2.2.2.2.1 mg pt bd (z.1 + 1) y.2.2.2.2.2.1 y.2.2.2.2.2.2.1 y.2.2.2.2.2.2.2 (fil nc (fus rm z.2.2.1 dm nw) z.2.1) gv bs ld qs mS mD 0) [.int (nI j)] (t_X3_goOn h5 h6 (by omega) (fun u hu => hg u j hu (by omega)) (fun u hu => hQ _ _ u j hu (by omega)) (g3 j (by omega))) rfl rfl (cwV 1 C.ts gX3_tick_X3_goOn rfl rfl rfl (by decide +kernel) ⟨Nat.le_of_ble_eq_true rfl, Nat.le_of_ble_eq_true rfl⟩) rfl rfl rfl (Nat.le_of_ble_eq_true rfl) dX3_tick_66 ⟨Nat.le_of_ble_eq_true rfl, Nat.le_of_ble_eq_true rfl⟩ (fun wv5 tv5 hp5 => ?_)
          obtain ⟨rfl, rfl⟩ := hp5
          refine g_w (ws' := (wM cI cZ q nc nw cx cy ch rm on wx wy dm ((fts on dm rm nc nw (fqu cx cy ch on wx wy (fil nc (fus rm z.2.2.1 dm nw) z.2.1) nc) mg pt bd (z.1 + 1) j y).1) ((fts on dm rm nc nw (fqu cx cy ch on wx wy (fil nc (fus rm z.2.2.1 dm nw) z.2.1) nc) mg pt bd (z.1 + 1) j y).2.1) ((fts on dm rm nc nw (fqu cx cy ch on wx wy (fil nc (fus rm z.2.2.1 dm nw) z.2.1) nc) mg pt bd (z.1 + 1) j y).2.2.1) ((fts on dm rm nc nw (fqu cx cy ch on wx wy (fil nc (fus rm z.2.2.1 dm nw) z.2.1) nc) mg pt bd (z.1 + 1) j y).2.2.2.1) ((fts on dm rm nc nw (fqu cx cy ch on wx wy (fil nc (fus rm z.2.2.1 dm nw) z.2.1) nc) mg pt bd (z.1 + 1) j y).2.2.2.2.1) mg pt bd (z.1 + 1) ((fts on dm rm nc nw (fqu cx cy ch on wx wy (fil nc (fus rm z.2.2.1 dm nw) z.2.1) nc) mg pt bd (z.1 + 1) j y).2.2.2.2.2.1) ((fts on dm rm nc nw (fqu cx cy ch on wx wy (fil nc (fus rm z.2.2.1 dm nw) z.2.1) nc) mg pt bd (z.1 + 1) j y).2.2.2.2.2.2.1) ((fts on dm rm nc nw (fqu cx cy ch on wx wy (fil nc (fus rm z.2.2.1 dm nw) z.2.1) nc) mg pt bd (z.1 + 1) j y).2.2.2.2.2.2.2) (fil nc (fus rm z.2.2.1 dm nw) z.2.1) gv bs ld qs mS mD 0)) rfl ?_
          refine g_iinc C (nI (j + 1)) [some (.ref (q 0)), some (.int (nI T)), some (.int ho), some (.int (nI i)), some (.int (nI (j + 1)))] dX3_tick_69 rfl (nI_1 j) (by decide) rfl rfl ?_
          refine g_goto C 54 dX3_tick_72 (by decide) ?_
          exact ih2 (j + 1) (fts on dm rm nc nw (fqu cx cy ch on wx wy (fil nc (fus rm z.2.2.1 dm nw) z.2.1) nc) mg pt bd (z.1 + 1) j y) ⟨by omega, by rw [ftw, ← g2], fts_sv g3⟩ (by omega)
