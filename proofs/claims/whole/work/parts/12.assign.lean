/-! the reference, its assignments -/
/-! the reference's assignments: g says of each walker its cell, nc being none -/
def fgl (g : Nat → Nat) (dm : Nat → Int32) (c : Nat) : Nat → Int32
  | 0 => 0
  | n + 1 => if g n = c then fgl g dm c n + dm n else fgl g dm c n
def fok (on rm dm : Nat → Int32) (bd : Int32) (Q : Nat → Nat → Int32) (g : Nat → Nat) (nc : Nat) : Nat → Bool
  | 0 => true
  | n + 1 => if fok on rm dm bd Q g nc n = true then (if nc ≤ g n then true else if on (g n) = 0 then false else if Q n (g n) < bd then false else if fgl g dm (g n) (n + 1) ≤ rm (g n) then true else false) else false
theorem fok_false {on rm dm : Nat → Int32} {bd : Int32} {Q : Nat → Nat → Int32} {g : Nat → Nat} {nc i : Nat} : ∀ {n : Nat}, i ≤ n → fok on rm dm bd Q g nc i = false → fok on rm dm bd Q g nc n = false
  | 0, h, h2 => by rw [show (0 : Nat) = i by omega]; exact h2
  | n + 1, h, h2 => by
    by_cases q : i = n + 1
    · rw [← q]; exact h2
    · unfold fok
      rw [if_neg (by rw [fok_false (by omega) h2]; decide)]
/-- how many are served, the sum of their qualities, their demands -/
def fsv (g : Nat → Nat) (nc : Nat) : Nat → Int32
  | 0 => 0
  | n + 1 => if nc ≤ g n then fsv g nc n else fsv g nc n + 1
def fsu (Q : Nat → Nat → Int32) (g : Nat → Nat) (nc : Nat) : Nat → Int32
  | 0 => 0
  | n + 1 => if nc ≤ g n then fsu Q g nc n else fsu Q g nc n + Q n (g n)
def fsd (dm : Nat → Int32) (g : Nat → Nat) (nc : Nat) : Nat → Int32
  | 0 => 0
  | n + 1 => if nc ≤ g n then fsd dm g nc n else fsd dm g nc n + dm n
/-- the digits of an assignment's number: walker 0's is the first -/
def dg (nc nw N j : Nat) : Nat := N / (nc + 1) ^ (nw - 1 - j) % (nc + 1)
theorem dg_le {nc nw N j : Nat} : dg nc nw N j ≤ nc := Nat.lt_succ_iff.mp (Nat.mod_lt _ (Nat.succ_pos nc))
/-- most served, greatest sum, most demand, the best -/
abbrev AS : Type := Int32 × Int32 × Int32 × (Nat → Int32)
def fst (on rm dm : Nat → Int32) (bd : Int32) (Q : Nat → Nat → Int32) (nc nw : Nat) (g : Nat → Nat) (x : AS) : AS :=
  if fok on rm dm bd Q g nc nw = true then
    (if x.1 < fsv g nc nw then (fsv g nc nw, fsu Q g nc nw, (if fsd dm g nc nw ≤ x.2.2.1 then x.2.2.1 else fsd dm g nc nw), fil nw (fun j => nI (g j)) x.2.2.2)
     else if fsv g nc nw = x.1 then
       (if fsu Q g nc nw ≤ x.2.1 then (x.1, x.2.1, (if fsd dm g nc nw ≤ x.2.2.1 then x.2.2.1 else fsd dm g nc nw), x.2.2.2)
        else (fsv g nc nw, fsu Q g nc nw, (if fsd dm g nc nw ≤ x.2.2.1 then x.2.2.1 else fsd dm g nc nw), fil nw (fun j => nI (g j)) x.2.2.2))
     else (x.1, x.2.1, (if fsd dm g nc nw ≤ x.2.2.1 then x.2.2.1 else fsd dm g nc nw), x.2.2.2))
  else x
def fas (on rm dm : Nat → Int32) (bd : Int32) (Q : Nat → Nat → Int32) (nc nw : Nat) (b0 : Nat → Int32) : Nat → AS
  | 0 => (0, -1, 0, b0)
  | N + 1 => fst on rm dm bd Q nc nw (dg nc nw N) (fas on rm dm bd Q nc nw b0 N)
theorem fil_all {n : Nat} {f g M : Nat → Int32} {i : Nat} (h : ∀ j, M j = if j < i then f j else g j) (hi : i = n) : M = fil n f g := funext fun j => by rw [h, hi]; rfl
theorem fil_congr {n : Nat} {f f2 g : Nat → Int32} (h : ∀ j, j < n → f j = f2 j) : fil n f g = fil n f2 g := funext fun j => by
  show (if j < n then f j else g j) = if j < n then f2 j else g j
  by_cases q : j < n
  · rw [if_pos q, if_pos q, h j q]
  · rw [if_neg q, if_neg q]
/-- what goOnGiven does: the last t walkers begin anew, the one before them goes on -/
def GO (nc nw : Nat) (gv gw : Nat → Int32) (r : Int32) : Prop := ∃ t, t ≤ nw ∧ (∀ j, t ≤ j → j < nw → gv j = nI nc ∧ gw j = 0) ∧ ((t = 0 ∧ r = 0) ∨ (0 < t ∧ ¬ gv (t - 1) = nI nc ∧ r = 1 ∧ gw (t - 1) = gv (t - 1) + 1 ∧ ∀ j, j < t - 1 → gw j = gv j))
theorem upd_ne {f : Nat → Int32} {i j : Nat} {x : Int32} (h : j ≠ i) : upd f i x j = f j := by simp [upd, h]
/-- how a step of the count ends: the next number's digits -/
def NXT (nc nw : Nat) : Prop := ∀ (N : Nat) (gv gw : Nat → Int32) (r : Int32), N < (nc + 1) ^ nw → (∀ j, j < nw → gv j = nI (dg nc nw N j)) → GO nc nw gv gw r → (r = bz (decide (N + 1 < (nc + 1) ^ nw)) ∧ (N + 1 < (nc + 1) ^ nw → ∀ j, j < nw → gw j = nI (dg nc nw (N + 1) j)))
theorem dg0 {nc nw j : Nat} : dg nc nw 0 j = 0 := by unfold dg; rw [Nat.zero_div, Nat.zero_mod]
theorem iX3_canBe_X3 : ∀ w ∈ u_ws RX3 TX3 30, w ∈ wsX3_canBe := by decide +kernel
set_option maxHeartbeats 1000000 in
set_option maxRecDepth 100000 in
theorem t_X3_canBe {l : Launch} {D : va_G} {cI cZ cJ cG cW : ClassId} {q : Nat → Nat} {nc nw : Nat} {cx cy ch rm on wx wy dm sv fv hd lf la : Nat → Int32} {mg pt bd tk ho ri lo : Int32} {us gv bs ld qs : Nat → Int32} {mS mD th : Int32} {g : Nat → Nat} {Q : Nat → Nat → Int32} (h5 : nc ≤ 5) (h6 : nw ≤ 6) (hgv : ∀ j, j < nw → gv j = nI (g j) ∧ g j ≤ nc) (hqs : ∀ w c, w < nw → c < nc → qs (6 * c + w) = Q w c) : CtI l yX3_canBe wsX3_canBe 0 0 0 0 D (T5 cI cZ cJ cG cW) [.ref (q 0)] (wM cI cZ q nc nw cx cy ch rm on wx wy dm sv fv hd lf la mg pt bd tk ho ri lo us gv bs ld qs mS mD th) (fun rv wv => ∃ L : Nat → Int32, rv = bz (fok on rm dm bd Q g nc nw) ∧ wv = (wM cI cZ q nc nw cx cy ch rm on wx wy dm sv fv hd lf la mg pt bd tk ho ri lo us gv bs L qs mS mD th)) := by
  refine ctI_of (cc := cX3_canBe) (maxL := 3) RX3 2 [some (.ref (q 0)), none, none] (by decide +kernel) rfl rfl (Nat.le_of_ble_eq_true rfl) rfl (fun p_ e_ s_ m_ as_ bl_ me_ co_ C hret => ?_)
  have f19 := C.ts (.fieldLink RX3 19 "CellPlannerModel" "room" "[I") (by decide +kernel)
  have f22 := C.ts (.fieldLink RX3 22 "CellPlannerModel" "on" "[Z") (by decide +kernel)
  have f32 := C.ts (.fieldLink RX3 32 "CellPlannerModel" "demand" "[I") (by decide +kernel)
  have f57 := C.ts (.fieldLink RX3 57 "CellPlannerModel" "bound" "I") (by decide +kernel)
  have f63 := C.ts (.fieldLink RX3 63 "CellPlannerModel" "given" "[I") (by decide +kernel)
  have f69 := C.ts (.fieldLink RX3 69 "CellPlannerModel" "loads" "[I") (by decide +kernel)
  have f72 := C.ts (.fieldLink RX3 72 "CellPlannerModel" "qualities" "[I") (by decide +kernel)
  have f78 := C.ts (.fieldLink RX3 78 "CellPlannerModel" "cells" "I") (by decide +kernel)
  have f81 := C.ts (.fieldLink RX3 81 "CellPlannerModel" "walkers" "I") (by decide +kernel)
  refine g_iconst C 0 dX3_canBe_0 (by decide +kernel) ?_
  refine g_istore_n C [some (.ref (q 0)), some (.int 0), none] dX3_canBe_1 (by decide) rfl rfl ?_
  refine g_loop2 0 ld (fun (i : Nat) (L : Nat → Int32) => i ≤ nc ∧ ∀ c, c < i → L c = 0) (fun (i : Nat) (L : Nat → Int32) => (wM cI cZ q nc nw cx cy ch rm on wx wy dm sv fv hd lf la mg pt bd tk ho ri lo us gv bs L qs mS mD th)) (fun (i : Nat) (L : Nat → Int32) => [some (.ref (q 0)), some (.int (nI i)), none]) (fun (i : Nat) (L : Nat → Int32) => nc - i) ⟨Nat.zero_le _, fun c h => absurd h (Nat.not_lt_zero c)⟩ rfl rfl (fun i L hI ih => ?_)
  obtain ⟨h1, h2⟩ := hI
  refine g_iload_n C dX3_canBe_2 rfl ?_
  refine g_aload_n C dX3_canBe_3 rfl ?_
  refine g_get C 0 iX3_canBe_X3 rfl rfl 0 (by decide) f78 rfl dX3_canBe_4 ?_
  refine g_icmp_ge C 23 dX3_canBe_7 (by decide) (fun c_7 => ?_) (fun c_7 => ?_)
  · skip
    have c_7 : nc ≤ i := (nI_leI (by omega) (by omega)).mp c_7
    refine g_iconst C 0 dX3_canBe_23 (by decide +kernel) ?_
    refine g_istore_n C [some (.ref (q 0)), some (.int 0), none] dX3_canBe_24 (by decide) rfl rfl ?_
    refine g_loop2 0 L (fun (i2 : Nat) (L2 : Nat → Int32) => i2 ≤ nw ∧ (∀ c, c < nc → L2 c = fgl g dm c i2) ∧ fok on rm dm bd Q g nc i2 = true) (fun (i2 : Nat) (L2 : Nat → Int32) => (wM cI cZ q nc nw cx cy ch rm on wx wy dm sv fv hd lf la mg pt bd tk ho ri lo us gv bs L2 qs mS mD th)) (fun (i2 : Nat) (L2 : Nat → Int32) => [some (.ref (q 0)), some (.int (nI i2)), none]) (fun (i2 : Nat) (L2 : Nat → Int32) => nw - i2) ⟨Nat.zero_le _, fun c hc => h2 c (by omega), rfl⟩ rfl rfl (fun i2 L2 hI2 ih2 => ?_)
    obtain ⟨g1, g2, g3⟩ := hI2
    refine g_iload_n C dX3_canBe_25 rfl ?_
    refine g_aload_n C dX3_canBe_26 rfl ?_
    refine g_get C 0 iX3_canBe_X3 rfl rfl 6 (by decide) f81 rfl dX3_canBe_27 ?_
    refine g_icmp_ge C 113 dX3_canBe_30 (by decide) (fun c_30 => ?_) (fun c_30 => ?_)
    · skip
      have c_30 : nw ≤ i2 := (nI_leI (by omega) (by omega)).mp c_30
      refine g_iconst C 1 dX3_canBe_113 (by decide +kernel) ?_
      exact g_zret C hret rfl dX3_canBe_114 (Nat.le_of_ble_eq_true rfl) (Nat.le_of_ble_eq_true rfl) ⟨_, (by rw [show nw = i2 by omega, g3] <;> rfl), rfl⟩
    · skip
      have c_30 : ¬ (nw ≤ i2) := fun h9 => c_30 ((nI_leI (by omega) (by omega)).mpr h9)
      refine g_aload_n C dX3_canBe_33 rfl ?_
      refine g_get C 0 iX3_canBe_X3 rfl rfl 23 (by decide) f63 rfl dX3_canBe_34 ?_
      refine g_iload_n C dX3_canBe_37 rfl ?_
      refine g_iald C 15 0 rfl rfl i2 rfl (by omega) (by decide) (nI (g i2)) (hgv i2 (by omega)).1 dX3_canBe_38 ?_
      refine g_istore_n C [some (.ref (q 0)), some (.int (nI i2)), some (.int (nI (g i2)))] dX3_canBe_39 (by decide) rfl rfl ?_
      have hgi := (hgv i2 (by omega)).2
      refine g_iload_n C dX3_canBe_40 rfl ?_
      refine g_aload_n C dX3_canBe_41 rfl ?_
      refine g_get C 0 iX3_canBe_X3 rfl rfl 0 (by decide) f78 rfl dX3_canBe_42 ?_
      refine g_icmp_ge C 107 dX3_canBe_45 (by decide) (fun c_45 => ?_) (fun c_45 => ?_)
      · skip
        have c_45 : nc ≤ (g i2) := (nI_leI (by omega) (by omega)).mp c_45
        refine g_iinc C (nI (i2 + 1)) [some (.ref (q 0)), some (.int (nI (i2 + 1))), some (.int (nI (g i2)))] dX3_canBe_107 rfl (nI_1 i2) (by decide) rfl rfl ?_
        refine g_goto C 25 dX3_canBe_110 (by decide) ?_
        refine g_mask [true, true, false] rfl ?_
        exact ih2 (i2 + 1) L2 ⟨by omega, fun c hc => by rw [fgl, if_neg (by omega), g2 c hc], by unfold fok; rw [if_pos g3, if_pos c_45]⟩ (by omega)
      · skip
        have c_45 : ¬ (nc ≤ (g i2)) := fun h9 => c_45 ((nI_leI (by omega) (by omega)).mpr h9)
        refine g_aload_n C dX3_canBe_48 rfl ?_
        refine g_get C 0 iX3_canBe_X3 rfl rfl 25 (by decide) f69 rfl dX3_canBe_49 ?_
        refine g_iload_n C dX3_canBe_52 rfl ?_
        refine g_dup2 C dX3_canBe_53 rfl rfl ?_
        refine g_iald C 17 0 rfl rfl (g i2) rfl (by omega) (by decide) (L2 (g i2)) rfl dX3_canBe_54 ?_
        refine g_aload_n C dX3_canBe_55 rfl ?_
        refine g_get C 0 iX3_canBe_X3 rfl rfl 9 (by decide) f32 rfl dX3_canBe_56 ?_
        refine g_iload_n C dX3_canBe_59 rfl ?_
        refine g_iald C 8 0 rfl rfl i2 rfl (by omega) (by decide) (dm i2) rfl dX3_canBe_60 ?_
        refine g_iadd C ((L2 (g i2)) + (dm i2)) dX3_canBe_61 rfl ?_
        refine g_iast C 17 0 rfl rfl (g i2) rfl (by omega) (by decide) (wM cI cZ q nc nw cx cy ch rm on wx wy dm sv fv hd lf la mg pt bd tk ho ri lo us gv bs (upd L2 (g i2) ((L2 (g i2)) + (dm i2))) qs mS mD th) rfl dX3_canBe_62 ?_
        refine g_aload_n C dX3_canBe_63 rfl ?_
        refine g_get C 0 iX3_canBe_X3 rfl rfl 5 (by decide) f22 rfl dX3_canBe_64 ?_
        refine g_iload_n C dX3_canBe_67 rfl ?_
        refine g_zald C 5 1 rfl rfl (g i2) rfl (by omega) (by decide) (on (g i2)) rfl dX3_canBe_68 ?_
        refine g_if_eq C 105 dX3_canBe_69 (by decide) (fun c_69 => ?_) (fun c_69 => ?_)
        · skip
          refine g_iconst C 0 dX3_canBe_105 (by decide +kernel) ?_
          exact g_zret C hret rfl dX3_canBe_106 (Nat.le_of_ble_eq_true rfl) (Nat.le_of_ble_eq_true rfl) ⟨_, (by rw [fok_false (i := i2 + 1) (by omega) (by unfold fok; rw [if_pos g3, if_neg c_45]; first | rw [if_pos c_69] | rw [if_neg c_69, if_pos c_87] | rw [if_neg c_69, if_neg c_87, if_neg hle])] <;> rfl), rfl⟩
        · skip
          refine g_aload_n C dX3_canBe_72 rfl ?_
          refine g_get C 0 iX3_canBe_X3 rfl rfl 26 (by decide) f72 rfl dX3_canBe_73 ?_
          refine g_bipush C 6 dX3_canBe_76 (by decide +kernel) ?_
          refine g_iload_n C dX3_canBe_78 rfl ?_
          refine g_imul C (nI (6 * g i2)) dX3_canBe_79 (pk_mul 6 _) ?_
          refine g_iload_n C dX3_canBe_80 rfl ?_
          refine g_iadd C (nI (6 * g i2 + i2)) dX3_canBe_81 (nI_add _ _) ?_
          refine g_iald C 18 0 rfl rfl (6 * g i2 + i2) rfl (by omega) (by decide) (Q i2 (g i2)) (hqs i2 (g i2) (by omega) (by omega)) dX3_canBe_82 ?_
          refine g_aload_n C dX3_canBe_83 rfl ?_
          refine g_get C 0 iX3_canBe_X3 rfl rfl 17 (by decide) f57 rfl dX3_canBe_84 ?_
          refine g_icmp_lt C 105 dX3_canBe_87 (by decide) (fun c_87 => ?_) (fun c_87 => ?_)
          · skip
            refine g_iconst C 0 dX3_canBe_105 (by decide +kernel) ?_
            exact g_zret C hret rfl dX3_canBe_106 (Nat.le_of_ble_eq_true rfl) (Nat.le_of_ble_eq_true rfl) ⟨_, (by rw [fok_false (i := i2 + 1) (by omega) (by unfold fok; rw [if_pos g3, if_neg c_45]; first | rw [if_pos c_69] | rw [if_neg c_69, if_pos c_87] | rw [if_neg c_69, if_neg c_87, if_neg hle])] <;> rfl), rfl⟩
          · skip
            refine g_aload_n C dX3_canBe_90 rfl ?_
            refine g_get C 0 iX3_canBe_X3 rfl rfl 25 (by decide) f69 rfl dX3_canBe_91 ?_
            refine g_iload_n C dX3_canBe_94 rfl ?_
            refine g_iald C 17 0 rfl rfl (g i2) rfl (by omega) (by decide) (L2 (g i2) + dm i2) upd_at dX3_canBe_95 ?_
            refine g_aload_n C dX3_canBe_96 rfl ?_
            refine g_get C 0 iX3_canBe_X3 rfl rfl 4 (by decide) f19 rfl dX3_canBe_97 ?_
            refine g_iload_n C dX3_canBe_100 rfl ?_
            refine g_iald C 4 0 rfl rfl (g i2) rfl (by omega) (by decide) (rm (g i2)) rfl dX3_canBe_101 ?_
            refine g_icmp_le C 107 dX3_canBe_102 (by decide) (fun c_102 => ?_) (fun c_102 => ?_)
            · skip
              have hle : fgl g dm (g i2) (i2 + 1) ≤ rm (g i2) := by rw [fgl, if_pos rfl, ← g2 (g i2) (by omega)]; exact c_102
              refine g_iinc C (nI (i2 + 1)) [some (.ref (q 0)), some (.int (nI (i2 + 1))), some (.int (nI (g i2)))] dX3_canBe_107 rfl (nI_1 i2) (by decide) rfl rfl ?_
              refine g_goto C 25 dX3_canBe_110 (by decide) ?_
              refine g_mask [true, true, false] rfl ?_
              exact ih2 (i2 + 1) (upd L2 (g i2) ((L2 (g i2)) + (dm i2))) ⟨by omega, fun c hc => (Decidable.em (g i2 = c)).elim (fun q9 => by rw [fgl, if_pos q9, ← g2 c hc, ← q9]; exact upd_at) (fun q9 => by rw [fgl, if_neg q9, upd_ne (fun h => q9 h.symm), g2 c hc]), by unfold fok; rw [if_pos g3, if_neg c_45, if_neg c_69, if_neg c_87, if_pos hle]⟩ (by omega)
            · skip
              have hle : ¬ fgl g dm (g i2) (i2 + 1) ≤ rm (g i2) := by rw [fgl, if_pos rfl, ← g2 (g i2) (by omega)]; exact c_102
              refine g_iconst C 0 dX3_canBe_105 (by decide +kernel) ?_
              exact g_zret C hret rfl dX3_canBe_106 (Nat.le_of_ble_eq_true rfl) (Nat.le_of_ble_eq_true rfl) ⟨_, (by rw [fok_false (i := i2 + 1) (by omega) (by unfold fok; rw [if_pos g3, if_neg c_45]; first | rw [if_pos c_69] | rw [if_neg c_69, if_pos c_87] | rw [if_neg c_69, if_neg c_87, if_neg hle])] <;> rfl), rfl⟩
  · skip
    have c_7 : ¬ (nc ≤ i) := fun h9 => c_7 ((nI_leI (by omega) (by omega)).mpr h9)
    refine g_aload_n C dX3_canBe_10 rfl ?_
    refine g_get C 0 iX3_canBe_X3 rfl rfl 25 (by decide) f69 rfl dX3_canBe_11 ?_
    refine g_iload_n C dX3_canBe_14 rfl ?_
    refine g_iconst C 0 dX3_canBe_15 (by decide +kernel) ?_
    refine g_iast C 17 0 rfl rfl i rfl (by omega) (by decide) (wM cI cZ q nc nw cx cy ch rm on wx wy dm sv fv hd lf la mg pt bd tk ho ri lo us gv bs (upd L i 0) qs mS mD th) rfl dX3_canBe_16 ?_
    refine g_iinc C (nI (i + 1)) [some (.ref (q 0)), some (.int (nI (i + 1))), none] dX3_canBe_17 rfl (nI_1 i) (by decide) rfl rfl ?_
    refine g_goto C 2 dX3_canBe_20 (by decide) ?_
    exact ih (i + 1) (upd L i 0) ⟨by omega, fun c hc => (Decidable.em (c = i)).elim (fun q9 => by rw [q9]; exact upd_at) (fun q9 => by rw [upd_ne q9]; exact h2 c (by omega))⟩ (by omega)
theorem iX3_goOnGiven_X3 : ∀ w ∈ u_ws RX3 TX3 30, w ∈ wsX3_goOnGiven := by decide +kernel
set_option maxHeartbeats 1000000 in
set_option maxRecDepth 100000 in
theorem t_X3_goOnGiven {l : Launch} {D : va_G} {cI cZ cJ cG cW : ClassId} {q : Nat → Nat} {nc nw : Nat} {cx cy ch rm on wx wy dm sv fv hd lf la : Nat → Int32} {mg pt bd tk ho ri lo : Int32} {us gv bs ld qs : Nat → Int32} {mS mD th : Int32}  (h5 : nc ≤ 5) (h6 : nw ≤ 6) : CtI l yX3_goOnGiven wsX3_goOnGiven 0 0 0 0 D (T5 cI cZ cJ cG cW) [.ref (q 0)] (wM cI cZ q nc nw cx cy ch rm on wx wy dm sv fv hd lf la mg pt bd tk ho ri lo us gv bs ld qs mS mD th) (fun rv wv => ∃ gw : Nat → Int32, GO nc nw gv gw rv ∧ wv = (wM cI cZ q nc nw cx cy ch rm on wx wy dm sv fv hd lf la mg pt bd tk ho ri lo us gw bs ld qs mS mD th)) := by
  refine ctI_of (cc := cX3_goOnGiven) (maxL := 2) RX3 1 [some (.ref (q 0)), none] (by decide +kernel) rfl rfl (Nat.le_of_ble_eq_true rfl) rfl (fun p_ e_ s_ m_ as_ bl_ me_ co_ C hret => ?_)
  have f63 := C.ts (.fieldLink RX3 63 "CellPlannerModel" "given" "[I") (by decide +kernel)
  have f78 := C.ts (.fieldLink RX3 78 "CellPlannerModel" "cells" "I") (by decide +kernel)
  have f81 := C.ts (.fieldLink RX3 81 "CellPlannerModel" "walkers" "I") (by decide +kernel)
  refine g_aload_n C dX3_goOnGiven_0 rfl ?_
  refine g_get C 0 iX3_goOnGiven_X3 rfl rfl 6 (by decide) f81 rfl dX3_goOnGiven_1 ?_
  refine g_iconst C 1 dX3_goOnGiven_4 (by decide +kernel) ?_
  refine g_isub C ((nI nw) - 1) dX3_goOnGiven_5 rfl ?_
  refine g_istore_n C [some (.ref (q 0)), some (.int ((nI nw) - 1))] dX3_goOnGiven_6 (by decide) rfl rfl ?_
  refine g_loop2 nw gv (fun (t : Nat) (Y : Nat → Int32) => t ≤ nw ∧ (∀ j, t ≤ j → j < nw → gv j = nI nc ∧ Y j = 0) ∧ ∀ j, j < t → Y j = gv j) (fun (t : Nat) (Y : Nat → Int32) => (wM cI cZ q nc nw cx cy ch rm on wx wy dm sv fv hd lf la mg pt bd tk ho ri lo us Y bs ld qs mS mD th)) (fun (t : Nat) (Y : Nat → Int32) => [some (.ref (q 0)), some (.int (nI t - 1))]) (fun (t : Nat) (Y : Nat → Int32) => t) ⟨Nat.le_refl _, fun j h1 h2 => absurd h1 (by omega), fun _ _ => rfl⟩ rfl rfl (fun t Y hI ih => ?_)
  obtain ⟨h1, h2, h3⟩ := hI
  refine g_iload_n C dX3_goOnGiven_7 rfl ?_
  refine g_if_lt C 37 dX3_goOnGiven_8 (by decide) (fun c_8 => ?_) (fun c_8 => ?_)
  · skip
    have e0 : t = 0 := by
      rcases Nat.eq_zero_or_pos t with q9 | q9
      · exact q9
      · exfalso
        obtain ⟨t2, rfl⟩ : ∃ t2, t = t2 + 1 := ⟨t - 1, by omega⟩
        rw [nI_pred] at c_8
        exact nI_pos (by omega) c_8
    refine g_iload_n C dX3_goOnGiven_37 rfl ?_
    refine g_if_lt C 51 dX3_goOnGiven_38 (by decide) (fun _ => ?_) (fun c9 => absurd c_8 c9)
    refine g_iload_n C dX3_goOnGiven_51 rfl ?_
    refine g_if_lt C 59 dX3_goOnGiven_52 (by decide) (fun _ => ?_) (fun c9 => absurd c_8 c9)
    refine g_iconst C 0 dX3_goOnGiven_59 (by decide +kernel) ?_
    exact g_zret C hret rfl dX3_goOnGiven_60 (Nat.le_of_ble_eq_true rfl) (Nat.le_of_ble_eq_true rfl) ⟨_, ⟨0, Nat.zero_le _, fun j hj hj2 => h2 j (by omega) hj2, Or.inl ⟨rfl, rfl⟩⟩, rfl⟩
  · skip
    have e0 : 0 < t := by
      rcases Nat.eq_zero_or_pos t with q9 | q9
      · exfalso
        subst q9
        exact c_8 (by decide)
      · exact q9
    obtain ⟨t2, rfl⟩ : ∃ t2, t = t2 + 1 := ⟨t - 1, by omega⟩
    refine g_lv (lv' := [some (.ref (q 0)), some (.int (nI t2))]) (by rw [nI_pred]) ?_
    refine g_aload_n C dX3_goOnGiven_11 rfl ?_
    refine g_get C 0 iX3_goOnGiven_X3 rfl rfl 23 (by decide) f63 rfl dX3_goOnGiven_12 ?_
    refine g_iload_n C dX3_goOnGiven_15 rfl ?_
    refine g_iald C 15 0 rfl rfl t2 rfl (by omega) (by decide) (Y t2) rfl dX3_goOnGiven_16 ?_
    refine g_aload_n C dX3_goOnGiven_17 rfl ?_
    refine g_get C 0 iX3_goOnGiven_X3 rfl rfl 0 (by decide) f78 rfl dX3_goOnGiven_18 ?_
    refine g_icmp_ne C 37 dX3_goOnGiven_21 (by decide) (fun c_21 => ?_) (fun c_21 => ?_)
    · skip
      refine g_iload_n C dX3_goOnGiven_37 rfl ?_
      refine g_if_lt C 51 dX3_goOnGiven_38 (by decide) (fun c9 => absurd c9 (nI_pos (by omega))) (fun _ => ?_)
      refine g_aload_n C dX3_goOnGiven_41 rfl ?_
      refine g_get C 0 iX3_goOnGiven_X3 rfl rfl 23 (by decide) f63 rfl dX3_goOnGiven_42 ?_
      refine g_iload_n C dX3_goOnGiven_45 rfl ?_
      refine g_dup2 C dX3_goOnGiven_46 rfl rfl ?_
      refine g_iald C 15 0 rfl rfl t2 rfl (by omega) (by decide) (Y t2) rfl dX3_goOnGiven_47 ?_
      refine g_iconst C 1 dX3_goOnGiven_48 (by decide +kernel) ?_
      refine g_iadd C ((Y t2) + 1) dX3_goOnGiven_49 rfl ?_
      refine g_iast C 15 0 rfl rfl t2 rfl (by omega) (by decide) (wM cI cZ q nc nw cx cy ch rm on wx wy dm sv fv hd lf la mg pt bd tk ho ri lo us (upd Y t2 ((Y t2) + 1)) bs ld qs mS mD th) rfl dX3_goOnGiven_50 ?_
      refine g_iload_n C dX3_goOnGiven_51 rfl ?_
      refine g_if_lt C 59 dX3_goOnGiven_52 (by decide) (fun c9 => absurd c9 (nI_pos (by omega))) (fun _ => ?_)
      refine g_iconst C 1 dX3_goOnGiven_55 (by decide +kernel) ?_
      refine g_goto C 60 dX3_goOnGiven_56 (by decide) ?_
      exact g_zret C hret rfl dX3_goOnGiven_60 (Nat.le_of_ble_eq_true rfl) (Nat.le_of_ble_eq_true rfl) ⟨_, ⟨t2 + 1, h1, fun j hj hj2 => by rw [upd_ne (by omega)]; exact h2 j hj hj2, Or.inr ⟨Nat.succ_pos _, by rw [Nat.add_sub_cancel, ← h3 t2 (by omega)]; exact c_21, rfl, by rw [Nat.add_sub_cancel, upd_at, h3 t2 (by omega)], fun j hj => by rw [upd_ne (by omega)]; exact h3 j (by omega)⟩⟩, rfl⟩
    · skip
      refine g_aload_n C dX3_goOnGiven_24 rfl ?_
      refine g_get C 0 iX3_goOnGiven_X3 rfl rfl 23 (by decide) f63 rfl dX3_goOnGiven_25 ?_
      refine g_iload_n C dX3_goOnGiven_28 rfl ?_
      refine g_iconst C 0 dX3_goOnGiven_29 (by decide +kernel) ?_
      refine g_iast C 15 0 rfl rfl t2 rfl (by omega) (by decide) (wM cI cZ q nc nw cx cy ch rm on wx wy dm sv fv hd lf la mg pt bd tk ho ri lo us (upd Y t2 0) bs ld qs mS mD th) rfl dX3_goOnGiven_30 ?_
      refine g_iinc C (nI t2 - 1) [some (.ref (q 0)), some (.int (nI t2 - 1))] dX3_goOnGiven_31 rfl (dec1 _) (by decide) rfl rfl ?_
      refine g_goto C 7 dX3_goOnGiven_34 (by decide) ?_
      exact ih t2 (upd Y t2 0) ⟨by omega, fun j hj hj2 => (Decidable.em (j = t2)).elim (fun q9 => by rw [q9]; exact ⟨by rw [← h3 t2 (by omega)]; exact c_21, upd_at⟩) (fun q9 => by rw [upd_ne q9]; exact h2 j (by omega) hj2), fun j hj => by rw [upd_ne (by omega)]; exact h3 j (by omega)⟩ (by omega)
theorem iX3_assign_X3 : ∀ w ∈ u_ws RX3 TX3 30, w ∈ wsX3_assign := by decide +kernel
set_option maxHeartbeats 1000000 in
set_option maxRecDepth 100000 in
theorem t_X3_assign {l : Launch} {D : va_G} {cI cZ cJ cG cW : ClassId} {q : Nat → Nat} {nc nw : Nat} {cx cy ch rm on wx wy dm sv fv hd lf la : Nat → Int32} {mg pt bd tk ho ri lo : Int32} {us gv bs ld qs : Nat → Int32} {mS mD th : Int32}  (h5 : nc ≤ 5) (h6 : nw ≤ 6) (hr : ∀ c, c < nc → ¬ rm c ≤ 0) (hg : ∀ c w, c < nc → w < nw → ¬ dsq (cx c) (cy c) (wx w) (wy w) = 0) (hQ : GQ nc nw cx cy ch on wx wy rm dm) (hN9 : NXT nc nw) : CtV l yX3_assign wsX3_assign 3 65 0 0 D (T5 cI cZ cJ cG cW) [.ref (q 0)] (wM cI cZ q nc nw cx cy ch rm on wx wy dm sv fv hd lf la mg pt bd tk ho ri lo us gv bs ld qs mS mD th) (fun wv tv => ∃ (gw L Qs : Nat → Int32), wv = (wM cI cZ q nc nw cx cy ch rm on wx wy dm sv fv hd lf la mg pt bd tk ho ri lo (fil nc (fus rm sv dm nw) us) gw ((fas on rm dm bd (fqu cx cy ch on wx wy (fil nc (fus rm sv dm nw) us) nc) nc nw (fil nw (fun _ => nI nc) bs) ((nc + 1) ^ nw)).2.2.2) L Qs ((fas on rm dm bd (fqu cx cy ch on wx wy (fil nc (fus rm sv dm nw) us) nc) nc nw (fil nw (fun _ => nI nc) bs) ((nc + 1) ^ nw)).1) ((fas on rm dm bd (fqu cx cy ch on wx wy (fil nc (fus rm sv dm nw) us) nc) nc nw (fil nw (fun _ => nI nc) bs) ((nc + 1) ^ nw)).2.2.1) th) ∧ tv = (T5 cI cZ cJ cG cW)) := by
  refine ctV_of (cc := cX3_assign) (maxL := 8) RX3 7 [some (.ref (q 0)), none, none, none, none, none, none, none] (by decide +kernel) rfl rfl (Nat.le_of_ble_eq_true rfl) rfl (fun p_ e_ s_ m_ as_ bl_ me_ co_ C hret hini => ?_)
  have f32 := C.ts (.fieldLink RX3 32 "CellPlannerModel" "demand" "[I") (by decide +kernel)
  have f63 := C.ts (.fieldLink RX3 63 "CellPlannerModel" "given" "[I") (by decide +kernel)
  have f66 := C.ts (.fieldLink RX3 66 "CellPlannerModel" "best" "[I") (by decide +kernel)
  have f72 := C.ts (.fieldLink RX3 72 "CellPlannerModel" "qualities" "[I") (by decide +kernel)
  have f78 := C.ts (.fieldLink RX3 78 "CellPlannerModel" "cells" "I") (by decide +kernel)
  have f81 := C.ts (.fieldLink RX3 81 "CellPlannerModel" "walkers" "I") (by decide +kernel)
  have f148 := C.ts (.fieldLink RX3 148 "CellPlannerModel" "mostServed" "I") (by decide +kernel)
  have f151 := C.ts (.fieldLink RX3 151 "CellPlannerModel" "mostDemand" "I") (by decide +kernel)
  refine g_aload_n C dX3_assign_0 rfl ?_
  refine g_callVv C [] (wM cI cZ q nc nw cx cy ch rm on wx wy dm sv fv hd lf la mg pt bd tk ho ri lo us gv bs ld qs mS mD th) [] (t_X3_takeUses h5 h6 hr) rfl rfl (cwV 0 C.ts gX3_assign_X3_takeUses rfl rfl rfl (by decide +kernel) ⟨Nat.le_of_ble_eq_true rfl, Nat.le_of_ble_eq_true rfl⟩) rfl rfl rfl (Nat.le_of_ble_eq_true rfl) dX3_assign_1 ⟨Nat.le_of_ble_eq_true rfl, Nat.le_of_ble_eq_true rfl⟩ (fun wv1 tv1 hp1 => ?_)
  obtain ⟨rfl, rfl⟩ := hp1
  refine g_w (ws' := (wM cI cZ q nc nw cx cy ch rm on wx wy dm sv fv hd lf la mg pt bd tk ho ri lo (fil nc (fus rm sv dm nw) us) gv bs ld qs mS mD th)) rfl ?_
  refine g_iconst C 0 dX3_assign_4 (by decide +kernel) ?_
  refine g_istore_n C [some (.ref (q 0)), some (.int 0), none, none, none, none, none, none] dX3_assign_5 (by decide) rfl rfl ?_
  refine g_loop4 0 gv bs qs (fun (i : Nat) (P : Nat → Int32) (Bs : Nat → Int32) (Qs : Nat → Int32) => i ≤ nw ∧ (∀ j, j < i → P j = 0) ∧ (∀ j, Bs j = if j < i then nI nc else bs j) ∧ ∀ w c, w < i → c < nc → Qs (6 * c + w) = (fqu cx cy ch on wx wy (fil nc (fus rm sv dm nw) us) nc) w c) (fun (i : Nat) (P : Nat → Int32) (Bs : Nat → Int32) (Qs : Nat → Int32) => (wM cI cZ q nc nw cx cy ch rm on wx wy dm sv fv hd lf la mg pt bd tk ho ri lo (fil nc (fus rm sv dm nw) us) P Bs ld Qs mS mD th)) (fun (i : Nat) (P : Nat → Int32) (Bs : Nat → Int32) (Qs : Nat → Int32) => [some (.ref (q 0)), some (.int (nI i)), none, none, none, none, none, none]) (fun (i : Nat) (P : Nat → Int32) (Bs : Nat → Int32) (Qs : Nat → Int32) => nw - i) ⟨Nat.zero_le _, fun j h => absurd h (Nat.not_lt_zero j), fun j => (if_neg (Nat.not_lt_zero j)).symm, fun w c h _ => absurd h (Nat.not_lt_zero w)⟩ rfl rfl (fun i P Bs Qs hI ih => ?_)
  obtain ⟨h1, h2, h3, h4⟩ := hI
  refine g_iload_n C dX3_assign_6 rfl ?_
  refine g_aload_n C dX3_assign_7 rfl ?_
  refine g_get C 0 iX3_assign_X3 rfl rfl 6 (by decide) f81 rfl dX3_assign_8 ?_
  refine g_icmp_ge C 70 dX3_assign_11 (by decide) (fun c_11 => ?_) (fun c_11 => ?_)
  · skip
    have c_11 : nw ≤ i := (nI_leI (by omega) (by omega)).mp c_11
    have hBs : Bs = (fil nw (fun _ => nI nc) bs) := fil_all h3 (by omega)
    refine g_w (ws' := (wM cI cZ q nc nw cx cy ch rm on wx wy dm sv fv hd lf la mg pt bd tk ho ri lo (fil nc (fus rm sv dm nw) us) P ((fil nw (fun _ => nI nc) bs)) ld Qs mS mD th)) (by rw [hBs]) ?_
    refine g_aload_n C dX3_assign_70 rfl ?_
    refine g_iconst C 0 dX3_assign_71 (by decide +kernel) ?_
    refine g_put C 0 iX3_assign_X3 rfl rfl 27 (by decide) f148 rfl tyX3 tyX3_ok nmX3 (ty := .int) (by decide +kernel) rfl rfl (Nat.le_of_ble_eq_true rfl) (wM cI cZ q nc nw cx cy ch rm on wx wy dm sv fv hd lf la mg pt bd tk ho ri lo (fil nc (fus rm sv dm nw) us) P ((fil nw (fun _ => nI nc) bs)) ld Qs 0 mD th) rfl dX3_assign_72 ?_
    refine g_aload_n C dX3_assign_75 rfl ?_
    refine g_iconst C 0 dX3_assign_76 (by decide +kernel) ?_
    refine g_put C 0 iX3_assign_X3 rfl rfl 28 (by decide) f151 rfl tyX3 tyX3_ok nmX3 (ty := .int) (by decide +kernel) rfl rfl (Nat.le_of_ble_eq_true rfl) (wM cI cZ q nc nw cx cy ch rm on wx wy dm sv fv hd lf la mg pt bd tk ho ri lo (fil nc (fus rm sv dm nw) us) P ((fil nw (fun _ => nI nc) bs)) ld Qs 0 0 th) rfl dX3_assign_77 ?_
    refine g_iconst C (-1) dX3_assign_80 (by decide +kernel) ?_
    refine g_istore_n C [some (.ref (q 0)), some (.int ((-1))), none, none, none, none, none, none] dX3_assign_81 (by decide) rfl rfl ?_
    refine g_iconst C 1 dX3_assign_82 (by decide +kernel) ?_
    refine g_istore_n C [some (.ref (q 0)), some (.int ((-1))), some (.int 1), none, none, none, none, none] dX3_assign_83 (by decide) rfl rfl ?_
    refine g_loop4 0 P ((0, -1, 0, (fil nw (fun _ => nI nc) bs))) ld (fun (N : Nat) (Y : Nat → Int32) (z : AS) (Ld : Nat → Int32) => N ≤ ((nc + 1) ^ nw) ∧ z = fas on rm dm bd (fqu cx cy ch on wx wy (fil nc (fus rm sv dm nw) us) nc) nc nw (fil nw (fun _ => nI nc) bs) N ∧ (N < ((nc + 1) ^ nw) → ∀ j, j < nw → Y j = nI (dg nc nw N j))) (fun (N : Nat) (Y : Nat → Int32) (z : AS) (Ld : Nat → Int32) => (wM cI cZ q nc nw cx cy ch rm on wx wy dm sv fv hd lf la mg pt bd tk ho ri lo (fil nc (fus rm sv dm nw) us) Y z.2.2.2 Ld Qs z.1 z.2.2.1 th)) (fun (N : Nat) (Y : Nat → Int32) (z : AS) (Ld : Nat → Int32) => [some (.ref (q 0)), some (.int z.2.1), some (.int (bz (decide (N < ((nc + 1) ^ nw))))), none, none, none, none, none]) (fun (N : Nat) (Y : Nat → Int32) (z : AS) (Ld : Nat → Int32) => ((nc + 1) ^ nw) - N) ⟨Nat.zero_le _, rfl, fun _ j hj => by rw [h2 j (by omega), dg0]; rfl⟩ rfl (by rw [decide_eq_true (show 0 < ((nc + 1) ^ nw) from Nat.pow_pos (Nat.succ_pos nc))] <;> rfl) (fun N Y z Ld hI6 ih6 => ?_)
    obtain ⟨m1, m2, m3⟩ := hI6
    refine g_iload_n C dX3_assign_84 rfl ?_
    refine g_if_eq C 300 dX3_assign_85 (by decide) (fun c_85 => ?_) (fun c_85 => ?_)
    · skip
      have hN : N = ((nc + 1) ^ nw) := by have h9 := of_decide_eq_false (bz_0 c_85); omega
      exact g_vret C hret dX3_assign_300 (Nat.le_of_ble_eq_true rfl) (Nat.le_of_ble_eq_true rfl) ⟨_, _, _, by rw [← hN, ← m2], rfl⟩
    · skip
      have hlt : N < ((nc + 1) ^ nw) := of_decide_eq_true (bz_1 c_85)
      refine g_aload_n C dX3_assign_88 rfl ?_
      refine g_callVi C [] (wM cI cZ q nc nw cx cy ch rm on wx wy dm sv fv hd lf la mg pt bd tk ho ri lo (fil nc (fus rm sv dm nw) us) Y z.2.2.2 Ld Qs z.1 z.2.2.1 th) [] (t_X3_canBe (Q := (fqu cx cy ch on wx wy (fil nc (fus rm sv dm nw) us) nc)) (g := (dg nc nw N)) h5 h6 (fun j hj => ⟨m3 hlt j hj, dg_le⟩) (fun w c hw hc => h4 w c (by omega) hc)) rfl rfl (cwV 0 C.ts gX3_assign_X3_canBe rfl rfl rfl (by decide +kernel) ⟨Nat.le_of_ble_eq_true rfl, Nat.le_of_ble_eq_true rfl⟩) rfl rfl rfl (Nat.le_of_ble_eq_true rfl) dX3_assign_89 ⟨Nat.le_of_ble_eq_true rfl, Nat.le_of_ble_eq_true rfl⟩ (fun rv2 wv2 hp2 => ?_)
      obtain ⟨L, rfl, rfl⟩ := hp2
      refine g_w (ws' := (wM cI cZ q nc nw cx cy ch rm on wx wy dm sv fv hd lf la mg pt bd tk ho ri lo (fil nc (fus rm sv dm nw) us) Y z.2.2.2 L Qs z.1 z.2.2.1 th)) rfl ?_
      refine g_if_eq C 292 dX3_assign_92 (by decide) (fun c_92 => ?_) (fun c_92 => ?_)
      · skip
        refine g_lv (lv' := [some (.ref (q 0)), some (.int ((fst on rm dm bd (fqu cx cy ch on wx wy (fil nc (fus rm sv dm nw) us) nc) nc nw (dg nc nw N) z).2.1)), some (.int (bz (decide (N < ((nc + 1) ^ nw))))), none, none, none, none, none]) (by rw [(show fst on rm dm bd (fqu cx cy ch on wx wy (fil nc (fus rm sv dm nw) us) nc) nc nw (dg nc nw N) z = z from (by unfold fst; rw [if_neg (by rw [bz_0 c_92]; decide)]))] <;> rfl) ?_
        refine g_w (ws' := (wM cI cZ q nc nw cx cy ch rm on wx wy dm sv fv hd lf la mg pt bd tk ho ri lo (fil nc (fus rm sv dm nw) us) Y ((fst on rm dm bd (fqu cx cy ch on wx wy (fil nc (fus rm sv dm nw) us) nc) nc nw (dg nc nw N) z).2.2.2) L Qs ((fst on rm dm bd (fqu cx cy ch on wx wy (fil nc (fus rm sv dm nw) us) nc) nc nw (dg nc nw N) z).1) ((fst on rm dm bd (fqu cx cy ch on wx wy (fil nc (fus rm sv dm nw) us) nc) nc nw (dg nc nw N) z).2.2.1) th)) (by rw [(show fst on rm dm bd (fqu cx cy ch on wx wy (fil nc (fus rm sv dm nw) us) nc) nc nw (dg nc nw N) z = z from (by unfold fst; rw [if_neg (by rw [bz_0 c_92]; decide)]))] <;> rfl) ?_
        refine g_aload_n C dX3_assign_292 rfl ?_
        refine g_callVi C [] (wM cI cZ q nc nw cx cy ch rm on wx wy dm sv fv hd lf la mg pt bd tk ho ri lo (fil nc (fus rm sv dm nw) us) Y ((fst on rm dm bd (fqu cx cy ch on wx wy (fil nc (fus rm sv dm nw) us) nc) nc nw (dg nc nw N) z).2.2.2) L Qs ((fst on rm dm bd (fqu cx cy ch on wx wy (fil nc (fus rm sv dm nw) us) nc) nc nw (dg nc nw N) z).1) ((fst on rm dm bd (fqu cx cy ch on wx wy (fil nc (fus rm sv dm nw) us) nc) nc nw (dg nc nw N) z).2.2.1) th) [] (t_X3_goOnGiven h5 h6) rfl rfl (cwV 0 C.ts gX3_assign_X3_goOnGiven rfl rfl rfl (by decide +kernel) ⟨Nat.le_of_ble_eq_true rfl, Nat.le_of_ble_eq_true rfl⟩) rfl rfl rfl (Nat.le_of_ble_eq_true rfl) dX3_assign_293 ⟨Nat.le_of_ble_eq_true rfl, Nat.le_of_ble_eq_true rfl⟩ (fun rv3 wv3 hp3 => ?_)
        obtain ⟨gw, hgo, rfl⟩ := hp3
        obtain ⟨hrv, hnx⟩ := hN9 N _ _ _ hlt (m3 hlt) hgo
        subst hrv
        refine g_w (ws' := (wM cI cZ q nc nw cx cy ch rm on wx wy dm sv fv hd lf la mg pt bd tk ho ri lo (fil nc (fus rm sv dm nw) us) gw ((fst on rm dm bd (fqu cx cy ch on wx wy (fil nc (fus rm sv dm nw) us) nc) nc nw (dg nc nw N) z).2.2.2) L Qs ((fst on rm dm bd (fqu cx cy ch on wx wy (fil nc (fus rm sv dm nw) us) nc) nc nw (dg nc nw N) z).1) ((fst on rm dm bd (fqu cx cy ch on wx wy (fil nc (fus rm sv dm nw) us) nc) nc nw (dg nc nw N) z).2.2.1) th)) rfl ?_
        refine g_istore_n C [some (.ref (q 0)), some (.int ((fst on rm dm bd (fqu cx cy ch on wx wy (fil nc (fus rm sv dm nw) us) nc) nc nw (dg nc nw N) z).2.1)), some (.int (bz (decide (N + 1 < ((nc + 1) ^ nw))))), none, none, none, none, none] dX3_assign_296 (by decide) rfl rfl ?_
        refine g_goto C 84 dX3_assign_297 (by decide) ?_
        exact ih6 (N + 1) gw (fst on rm dm bd (fqu cx cy ch on wx wy (fil nc (fus rm sv dm nw) us) nc) nc nw (dg nc nw N) z) L ⟨hlt, by rw [fas, ← m2], hnx⟩ (by omega)
      · skip
        refine g_iconst C 0 dX3_assign_95 (by decide +kernel) ?_
        refine g_istore_n C [some (.ref (q 0)), some (.int z.2.1), some (.int (bz (decide (N < ((nc + 1) ^ nw))))), some (.int 0), none, none, none, none] dX3_assign_96 (by decide) rfl rfl ?_
        refine g_iconst C 0 dX3_assign_97 (by decide +kernel) ?_
        refine g_istore C [some (.ref (q 0)), some (.int z.2.1), some (.int (bz (decide (N < ((nc + 1) ^ nw))))), some (.int 0), some (.int 0), none, none, none] dX3_assign_98 (by decide) rfl rfl ?_
        refine g_iconst C 0 dX3_assign_100 (by decide +kernel) ?_
        refine g_istore C [some (.ref (q 0)), some (.int z.2.1), some (.int (bz (decide (N < ((nc + 1) ^ nw))))), some (.int 0), some (.int 0), some (.int 0), none, none] dX3_assign_101 (by decide) rfl rfl ?_
        refine g_iconst C 0 dX3_assign_103 (by decide +kernel) ?_
        refine g_istore C [some (.ref (q 0)), some (.int z.2.1), some (.int (bz (decide (N < ((nc + 1) ^ nw))))), some (.int 0), some (.int 0), some (.int 0), some (.int 0), none] dX3_assign_104 (by decide) rfl rfl ?_
        refine g_loop4 0 0 0 0 (fun (j : Nat) (s : Int32) (u : Int32) (x : Int32) => j ≤ nw ∧ s = fsv (dg nc nw N) nc j ∧ u = fsu (fqu cx cy ch on wx wy (fil nc (fus rm sv dm nw) us) nc) (dg nc nw N) nc j ∧ x = fsd dm (dg nc nw N) nc j) (fun (j : Nat) (s : Int32) (u : Int32) (x : Int32) => (wM cI cZ q nc nw cx cy ch rm on wx wy dm sv fv hd lf la mg pt bd tk ho ri lo (fil nc (fus rm sv dm nw) us) Y z.2.2.2 L Qs z.1 z.2.2.1 th)) (fun (j : Nat) (s : Int32) (u : Int32) (x : Int32) => [some (.ref (q 0)), some (.int z.2.1), some (.int (bz (decide (N < ((nc + 1) ^ nw))))), some (.int s), some (.int u), some (.int x), some (.int (nI j)), none]) (fun (j : Nat) (s : Int32) (u : Int32) (x : Int32) => nw - j) ⟨Nat.zero_le _, rfl, rfl, rfl⟩ rfl rfl (fun j s u x hI4 ih4 => ?_)
        obtain ⟨e1, e2, e3, e4⟩ := hI4
        have hdj : dg nc nw N j ≤ nc := dg_le
        refine g_iload C dX3_assign_106 rfl ?_
        refine g_aload_n C dX3_assign_108 rfl ?_
        refine g_get C 0 iX3_assign_X3 rfl rfl 6 (by decide) f81 rfl dX3_assign_109 ?_
        refine g_icmp_ge C 208 dX3_assign_112 (by decide) (fun c_112 => ?_) (fun c_112 => ?_)
        · skip
          have c_112 : nw ≤ j := (nI_leI (by omega) (by omega)).mp c_112
          have e2n : s = fsv (dg nc nw N) nc nw := by rw [e2, show j = nw by omega]
          have e3n : u = fsu (fqu cx cy ch on wx wy (fil nc (fus rm sv dm nw) us) nc) (dg nc nw N) nc nw := by rw [e3, show j = nw by omega]
          have e4n : x = fsd dm (dg nc nw N) nc nw := by rw [e4, show j = nw by omega]
          refine g_aload_n C dX3_assign_208 rfl ?_
          refine g_iload C dX3_assign_209 rfl ?_
          refine g_aload_n C dX3_assign_211 rfl ?_
          refine g_get C 0 iX3_assign_X3 rfl rfl 28 (by decide) f151 rfl dX3_assign_212 ?_
          refine g_icmp_le C 223 dX3_assign_215 (by decide) (fun c_215 => ?_) (fun c_215 => ?_)
          · skip
            refine g_aload_n C dX3_assign_223 rfl ?_
            refine g_get C 0 iX3_assign_X3 rfl rfl 28 (by decide) f151 rfl dX3_assign_224 ?_
            refine g_put C 0 iX3_assign_X3 rfl rfl 28 (by decide) f151 rfl tyX3 tyX3_ok nmX3 (ty := .int) (by decide +kernel) rfl rfl (Nat.le_of_ble_eq_true rfl) (wM cI cZ q nc nw cx cy ch rm on wx wy dm sv fv hd lf la mg pt bd tk ho ri lo (fil nc (fus rm sv dm nw) us) Y z.2.2.2 L Qs z.1 z.2.2.1 th) rfl dX3_assign_227 ?_
            refine g_iload_n C dX3_assign_230 rfl ?_
            refine g_aload_n C dX3_assign_231 rfl ?_
            refine g_get C 0 iX3_assign_X3 rfl rfl 27 (by decide) f148 rfl dX3_assign_232 ?_
            refine g_icmp_gt C 252 dX3_assign_235 (by decide) (fun c_235 => ?_) (fun c_235 => ?_)
            · skip
              refine g_aload_n C dX3_assign_252 rfl ?_
              refine g_iload_n C dX3_assign_253 rfl ?_
              refine g_put C 0 iX3_assign_X3 rfl rfl 27 (by decide) f148 rfl tyX3 tyX3_ok nmX3 (ty := .int) (by decide +kernel) rfl rfl (Nat.le_of_ble_eq_true rfl) (wM cI cZ q nc nw cx cy ch rm on wx wy dm sv fv hd lf la mg pt bd tk ho ri lo (fil nc (fus rm sv dm nw) us) Y z.2.2.2 L Qs s z.2.2.1 th) rfl dX3_assign_254 ?_
              refine g_iload C dX3_assign_257 rfl ?_
              refine g_istore_n C [some (.ref (q 0)), some (.int u), some (.int (bz (decide (N < ((nc + 1) ^ nw))))), some (.int s), some (.int u), some (.int x), some (.int (nI j)), none] dX3_assign_259 (by decide) rfl rfl ?_
              refine g_iconst C 0 dX3_assign_260 (by decide +kernel) ?_
              refine g_istore C [some (.ref (q 0)), some (.int u), some (.int (bz (decide (N < ((nc + 1) ^ nw))))), some (.int s), some (.int u), some (.int x), some (.int 0), none] dX3_assign_261 (by decide) rfl rfl ?_
              refine g_loop2 0 z.2.2.2 (fun (k : Nat) (Z : Nat → Int32) => k ≤ nw ∧ ∀ j2, Z j2 = if j2 < k then nI (dg nc nw N j2) else z.2.2.2 j2) (fun (k : Nat) (Z : Nat → Int32) => (wM cI cZ q nc nw cx cy ch rm on wx wy dm sv fv hd lf la mg pt bd tk ho ri lo (fil nc (fus rm sv dm nw) us) Y Z L Qs s z.2.2.1 th)) (fun (k : Nat) (Z : Nat → Int32) => [some (.ref (q 0)), some (.int u), some (.int (bz (decide (N < ((nc + 1) ^ nw))))), some (.int s), some (.int u), some (.int x), some (.int (nI k)), none]) (fun (k : Nat) (Z : Nat → Int32) => nw - k) ⟨Nat.zero_le _, fun j2 => (if_neg (Nat.not_lt_zero j2)).symm⟩ rfl rfl (fun k Z hI5 ih5 => ?_)
              obtain ⟨f1, f2⟩ := hI5
              refine g_iload C dX3_assign_263 rfl ?_
              refine g_aload_n C dX3_assign_265 rfl ?_
              refine g_get C 0 iX3_assign_X3 rfl rfl 6 (by decide) f81 rfl dX3_assign_266 ?_
              refine g_icmp_ge C 292 dX3_assign_269 (by decide) (fun c_269 => ?_) (fun c_269 => ?_)
              · skip
                have c_269 : nw ≤ k := (nI_leI (by omega) (by omega)).mp c_269
                have hB : Z = fil nw (fun j2 => nI ((dg nc nw N) j2)) z.2.2.2 := fil_all f2 (by omega)
                refine g_lv (lv' := [some (.ref (q 0)), some (.int ((fst on rm dm bd (fqu cx cy ch on wx wy (fil nc (fus rm sv dm nw) us) nc) nc nw (dg nc nw N) z).2.1)), some (.int (bz (decide (N < ((nc + 1) ^ nw))))), some (.int s), some (.int u), some (.int x), some (.int (nI k)), none]) (by rw [(show fst on rm dm bd (fqu cx cy ch on wx wy (fil nc (fus rm sv dm nw) us) nc) nc nw (dg nc nw N) z = (s, u, z.2.2.1, Z) from (by unfold fst; rw [if_pos (bz_1 c_92), ← e2n, ← e3n, ← e4n]; first | (rw [if_pos c_235, ← hB]; first | rw [if_pos c_215] | rw [if_neg c_215]) | (rw [if_neg c_235, if_pos c_243, if_neg c_249, ← hB]; first | rw [if_pos c_215] | rw [if_neg c_215])))] <;> rfl) ?_
                refine g_w (ws' := (wM cI cZ q nc nw cx cy ch rm on wx wy dm sv fv hd lf la mg pt bd tk ho ri lo (fil nc (fus rm sv dm nw) us) Y ((fst on rm dm bd (fqu cx cy ch on wx wy (fil nc (fus rm sv dm nw) us) nc) nc nw (dg nc nw N) z).2.2.2) L Qs ((fst on rm dm bd (fqu cx cy ch on wx wy (fil nc (fus rm sv dm nw) us) nc) nc nw (dg nc nw N) z).1) ((fst on rm dm bd (fqu cx cy ch on wx wy (fil nc (fus rm sv dm nw) us) nc) nc nw (dg nc nw N) z).2.2.1) th)) (by rw [(show fst on rm dm bd (fqu cx cy ch on wx wy (fil nc (fus rm sv dm nw) us) nc) nc nw (dg nc nw N) z = (s, u, z.2.2.1, Z) from (by unfold fst; rw [if_pos (bz_1 c_92), ← e2n, ← e3n, ← e4n]; first | (rw [if_pos c_235, ← hB]; first | rw [if_pos c_215] | rw [if_neg c_215]) | (rw [if_neg c_235, if_pos c_243, if_neg c_249, ← hB]; first | rw [if_pos c_215] | rw [if_neg c_215])))] <;> rfl) ?_
                refine g_aload_n C dX3_assign_292 rfl ?_
                refine g_callVi C [] (wM cI cZ q nc nw cx cy ch rm on wx wy dm sv fv hd lf la mg pt bd tk ho ri lo (fil nc (fus rm sv dm nw) us) Y ((fst on rm dm bd (fqu cx cy ch on wx wy (fil nc (fus rm sv dm nw) us) nc) nc nw (dg nc nw N) z).2.2.2) L Qs ((fst on rm dm bd (fqu cx cy ch on wx wy (fil nc (fus rm sv dm nw) us) nc) nc nw (dg nc nw N) z).1) ((fst on rm dm bd (fqu cx cy ch on wx wy (fil nc (fus rm sv dm nw) us) nc) nc nw (dg nc nw N) z).2.2.1) th) [] (t_X3_goOnGiven h5 h6) rfl rfl (cwV 0 C.ts gX3_assign_X3_goOnGiven rfl rfl rfl (by decide +kernel) ⟨Nat.le_of_ble_eq_true rfl, Nat.le_of_ble_eq_true rfl⟩) rfl rfl rfl (Nat.le_of_ble_eq_true rfl) dX3_assign_293 ⟨Nat.le_of_ble_eq_true rfl, Nat.le_of_ble_eq_true rfl⟩ (fun rv4 wv4 hp4 => ?_)
                obtain ⟨gw, hgo, rfl⟩ := hp4
                obtain ⟨hrv, hnx⟩ := hN9 N _ _ _ hlt (m3 hlt) hgo
                subst hrv
                refine g_w (ws' := (wM cI cZ q nc nw cx cy ch rm on wx wy dm sv fv hd lf la mg pt bd tk ho ri lo (fil nc (fus rm sv dm nw) us) gw ((fst on rm dm bd (fqu cx cy ch on wx wy (fil nc (fus rm sv dm nw) us) nc) nc nw (dg nc nw N) z).2.2.2) L Qs ((fst on rm dm bd (fqu cx cy ch on wx wy (fil nc (fus rm sv dm nw) us) nc) nc nw (dg nc nw N) z).1) ((fst on rm dm bd (fqu cx cy ch on wx wy (fil nc (fus rm sv dm nw) us) nc) nc nw (dg nc nw N) z).2.2.1) th)) rfl ?_
                refine g_istore_n C [some (.ref (q 0)), some (.int ((fst on rm dm bd (fqu cx cy ch on wx wy (fil nc (fus rm sv dm nw) us) nc) nc nw (dg nc nw N) z).2.1)), some (.int (bz (decide (N + 1 < ((nc + 1) ^ nw))))), some (.int s), some (.int u), some (.int x), some (.int (nI k)), none] dX3_assign_296 (by decide) rfl rfl ?_
                refine g_goto C 84 dX3_assign_297 (by decide) ?_
                refine g_mask [true, true, true, false, false, false, false, false] rfl ?_
                exact ih6 (N + 1) gw (fst on rm dm bd (fqu cx cy ch on wx wy (fil nc (fus rm sv dm nw) us) nc) nc nw (dg nc nw N) z) L ⟨hlt, by rw [fas, ← m2], hnx⟩ (by omega)
              · skip
                have c_269 : ¬ (nw ≤ k) := fun h9 => c_269 ((nI_leI (by omega) (by omega)).mpr h9)
                refine g_aload_n C dX3_assign_272 rfl ?_
                refine g_get C 0 iX3_assign_X3 rfl rfl 24 (by decide) f66 rfl dX3_assign_273 ?_
                refine g_iload C dX3_assign_276 rfl ?_
                refine g_aload_n C dX3_assign_278 rfl ?_
                refine g_get C 0 iX3_assign_X3 rfl rfl 23 (by decide) f63 rfl dX3_assign_279 ?_
                refine g_iload C dX3_assign_282 rfl ?_
                refine g_iald C 15 0 rfl rfl k rfl (by omega) (by decide) (nI (dg nc nw N k)) (m3 hlt k (by omega)) dX3_assign_284 ?_
                refine g_iast C 16 0 rfl rfl k rfl (by omega) (by decide) (wM cI cZ q nc nw cx cy ch rm on wx wy dm sv fv hd lf la mg pt bd tk ho ri lo (fil nc (fus rm sv dm nw) us) Y (upd Z k (nI (dg nc nw N k))) L Qs s z.2.2.1 th) rfl dX3_assign_285 ?_
                refine g_iinc C (nI (k + 1)) [some (.ref (q 0)), some (.int u), some (.int (bz (decide (N < ((nc + 1) ^ nw))))), some (.int s), some (.int u), some (.int x), some (.int (nI (k + 1))), none] dX3_assign_286 rfl (nI_1 k) (by decide) rfl rfl ?_
                refine g_goto C 263 dX3_assign_289 (by decide) ?_
                exact ih5 (k + 1) (upd Z k (nI (dg nc nw N k))) ⟨by omega, fil_step f2 rfl⟩ (by omega)
            · skip
              refine g_iload_n C dX3_assign_238 rfl ?_
              refine g_aload_n C dX3_assign_239 rfl ?_
              refine g_get C 0 iX3_assign_X3 rfl rfl 27 (by decide) f148 rfl dX3_assign_240 ?_
              refine g_icmp_ne C 292 dX3_assign_243 (by decide) (fun c_243 => ?_) (fun c_243 => ?_)
              · skip
                refine g_lv (lv' := [some (.ref (q 0)), some (.int ((fst on rm dm bd (fqu cx cy ch on wx wy (fil nc (fus rm sv dm nw) us) nc) nc nw (dg nc nw N) z).2.1)), some (.int (bz (decide (N < ((nc + 1) ^ nw))))), some (.int s), some (.int u), some (.int x), some (.int (nI j)), none]) (by rw [(show fst on rm dm bd (fqu cx cy ch on wx wy (fil nc (fus rm sv dm nw) us) nc) nc nw (dg nc nw N) z = (z.1, z.2.1, z.2.2.1, z.2.2.2) from (by unfold fst; rw [if_pos (bz_1 c_92), ← e2n, ← e3n, ← e4n]; first | (rw [if_neg c_235, if_pos c_243, if_pos c_249]; first | rw [if_pos c_215] | rw [if_neg c_215]) | (rw [if_neg c_235, if_neg c_243]; first | rw [if_pos c_215] | rw [if_neg c_215])))] <;> rfl) ?_
                refine g_w (ws' := (wM cI cZ q nc nw cx cy ch rm on wx wy dm sv fv hd lf la mg pt bd tk ho ri lo (fil nc (fus rm sv dm nw) us) Y ((fst on rm dm bd (fqu cx cy ch on wx wy (fil nc (fus rm sv dm nw) us) nc) nc nw (dg nc nw N) z).2.2.2) L Qs ((fst on rm dm bd (fqu cx cy ch on wx wy (fil nc (fus rm sv dm nw) us) nc) nc nw (dg nc nw N) z).1) ((fst on rm dm bd (fqu cx cy ch on wx wy (fil nc (fus rm sv dm nw) us) nc) nc nw (dg nc nw N) z).2.2.1) th)) (by rw [(show fst on rm dm bd (fqu cx cy ch on wx wy (fil nc (fus rm sv dm nw) us) nc) nc nw (dg nc nw N) z = (z.1, z.2.1, z.2.2.1, z.2.2.2) from (by unfold fst; rw [if_pos (bz_1 c_92), ← e2n, ← e3n, ← e4n]; first | (rw [if_neg c_235, if_pos c_243, if_pos c_249]; first | rw [if_pos c_215] | rw [if_neg c_215]) | (rw [if_neg c_235, if_neg c_243]; first | rw [if_pos c_215] | rw [if_neg c_215])))] <;> rfl) ?_
                refine g_aload_n C dX3_assign_292 rfl ?_
                refine g_callVi C [] (wM cI cZ q nc nw cx cy ch rm on wx wy dm sv fv hd lf la mg pt bd tk ho ri lo (fil nc (fus rm sv dm nw) us) Y ((fst on rm dm bd (fqu cx cy ch on wx wy (fil nc (fus rm sv dm nw) us) nc) nc nw (dg nc nw N) z).2.2.2) L Qs ((fst on rm dm bd (fqu cx cy ch on wx wy (fil nc (fus rm sv dm nw) us) nc) nc nw (dg nc nw N) z).1) ((fst on rm dm bd (fqu cx cy ch on wx wy (fil nc (fus rm sv dm nw) us) nc) nc nw (dg nc nw N) z).2.2.1) th) [] (t_X3_goOnGiven h5 h6) rfl rfl (cwV 0 C.ts gX3_assign_X3_goOnGiven rfl rfl rfl (by decide +kernel) ⟨Nat.le_of_ble_eq_true rfl, Nat.le_of_ble_eq_true rfl⟩) rfl rfl rfl (Nat.le_of_ble_eq_true rfl) dX3_assign_293 ⟨Nat.le_of_ble_eq_true rfl, Nat.le_of_ble_eq_true rfl⟩ (fun rv5 wv5 hp5 => ?_)
                obtain ⟨gw, hgo, rfl⟩ := hp5
                obtain ⟨hrv, hnx⟩ := hN9 N _ _ _ hlt (m3 hlt) hgo
                subst hrv
                refine g_w (ws' := (wM cI cZ q nc nw cx cy ch rm on wx wy dm sv fv hd lf la mg pt bd tk ho ri lo (fil nc (fus rm sv dm nw) us) gw ((fst on rm dm bd (fqu cx cy ch on wx wy (fil nc (fus rm sv dm nw) us) nc) nc nw (dg nc nw N) z).2.2.2) L Qs ((fst on rm dm bd (fqu cx cy ch on wx wy (fil nc (fus rm sv dm nw) us) nc) nc nw (dg nc nw N) z).1) ((fst on rm dm bd (fqu cx cy ch on wx wy (fil nc (fus rm sv dm nw) us) nc) nc nw (dg nc nw N) z).2.2.1) th)) rfl ?_
                refine g_istore_n C [some (.ref (q 0)), some (.int ((fst on rm dm bd (fqu cx cy ch on wx wy (fil nc (fus rm sv dm nw) us) nc) nc nw (dg nc nw N) z).2.1)), some (.int (bz (decide (N + 1 < ((nc + 1) ^ nw))))), some (.int s), some (.int u), some (.int x), some (.int (nI j)), none] dX3_assign_296 (by decide) rfl rfl ?_
                refine g_goto C 84 dX3_assign_297 (by decide) ?_
                refine g_mask [true, true, true, false, false, false, false, false] rfl ?_
                exact ih6 (N + 1) gw (fst on rm dm bd (fqu cx cy ch on wx wy (fil nc (fus rm sv dm nw) us) nc) nc nw (dg nc nw N) z) L ⟨hlt, by rw [fas, ← m2], hnx⟩ (by omega)
              · skip
                refine g_iload C dX3_assign_246 rfl ?_
                refine g_iload_n C dX3_assign_248 rfl ?_
                refine g_icmp_le C 292 dX3_assign_249 (by decide) (fun c_249 => ?_) (fun c_249 => ?_)
                · skip
                  refine g_lv (lv' := [some (.ref (q 0)), some (.int ((fst on rm dm bd (fqu cx cy ch on wx wy (fil nc (fus rm sv dm nw) us) nc) nc nw (dg nc nw N) z).2.1)), some (.int (bz (decide (N < ((nc + 1) ^ nw))))), some (.int s), some (.int u), some (.int x), some (.int (nI j)), none]) (by rw [(show fst on rm dm bd (fqu cx cy ch on wx wy (fil nc (fus rm sv dm nw) us) nc) nc nw (dg nc nw N) z = (z.1, z.2.1, z.2.2.1, z.2.2.2) from (by unfold fst; rw [if_pos (bz_1 c_92), ← e2n, ← e3n, ← e4n]; first | (rw [if_neg c_235, if_pos c_243, if_pos c_249]; first | rw [if_pos c_215] | rw [if_neg c_215]) | (rw [if_neg c_235, if_neg c_243]; first | rw [if_pos c_215] | rw [if_neg c_215])))] <;> rfl) ?_
                  refine g_w (ws' := (wM cI cZ q nc nw cx cy ch rm on wx wy dm sv fv hd lf la mg pt bd tk ho ri lo (fil nc (fus rm sv dm nw) us) Y ((fst on rm dm bd (fqu cx cy ch on wx wy (fil nc (fus rm sv dm nw) us) nc) nc nw (dg nc nw N) z).2.2.2) L Qs ((fst on rm dm bd (fqu cx cy ch on wx wy (fil nc (fus rm sv dm nw) us) nc) nc nw (dg nc nw N) z).1) ((fst on rm dm bd (fqu cx cy ch on wx wy (fil nc (fus rm sv dm nw) us) nc) nc nw (dg nc nw N) z).2.2.1) th)) (by rw [(show fst on rm dm bd (fqu cx cy ch on wx wy (fil nc (fus rm sv dm nw) us) nc) nc nw (dg nc nw N) z = (z.1, z.2.1, z.2.2.1, z.2.2.2) from (by unfold fst; rw [if_pos (bz_1 c_92), ← e2n, ← e3n, ← e4n]; first | (rw [if_neg c_235, if_pos c_243, if_pos c_249]; first | rw [if_pos c_215] | rw [if_neg c_215]) | (rw [if_neg c_235, if_neg c_243]; first | rw [if_pos c_215] | rw [if_neg c_215])))] <;> rfl) ?_
                  refine g_aload_n C dX3_assign_292 rfl ?_
                  refine g_callVi C [] (wM cI cZ q nc nw cx cy ch rm on wx wy dm sv fv hd lf la mg pt bd tk ho ri lo (fil nc (fus rm sv dm nw) us) Y ((fst on rm dm bd (fqu cx cy ch on wx wy (fil nc (fus rm sv dm nw) us) nc) nc nw (dg nc nw N) z).2.2.2) L Qs ((fst on rm dm bd (fqu cx cy ch on wx wy (fil nc (fus rm sv dm nw) us) nc) nc nw (dg nc nw N) z).1) ((fst on rm dm bd (fqu cx cy ch on wx wy (fil nc (fus rm sv dm nw) us) nc) nc nw (dg nc nw N) z).2.2.1) th) [] (t_X3_goOnGiven h5 h6) rfl rfl (cwV 0 C.ts gX3_assign_X3_goOnGiven rfl rfl rfl (by decide +kernel) ⟨Nat.le_of_ble_eq_true rfl, Nat.le_of_ble_eq_true rfl⟩) rfl rfl rfl (Nat.le_of_ble_eq_true rfl) dX3_assign_293 ⟨Nat.le_of_ble_eq_true rfl, Nat.le_of_ble_eq_true rfl⟩ (fun rv6 wv6 hp6 => ?_)
                  obtain ⟨gw, hgo, rfl⟩ := hp6
                  obtain ⟨hrv, hnx⟩ := hN9 N _ _ _ hlt (m3 hlt) hgo
                  subst hrv
                  refine g_w (ws' := (wM cI cZ q nc nw cx cy ch rm on wx wy dm sv fv hd lf la mg pt bd tk ho ri lo (fil nc (fus rm sv dm nw) us) gw ((fst on rm dm bd (fqu cx cy ch on wx wy (fil nc (fus rm sv dm nw) us) nc) nc nw (dg nc nw N) z).2.2.2) L Qs ((fst on rm dm bd (fqu cx cy ch on wx wy (fil nc (fus rm sv dm nw) us) nc) nc nw (dg nc nw N) z).1) ((fst on rm dm bd (fqu cx cy ch on wx wy (fil nc (fus rm sv dm nw) us) nc) nc nw (dg nc nw N) z).2.2.1) th)) rfl ?_
                  refine g_istore_n C [some (.ref (q 0)), some (.int ((fst on rm dm bd (fqu cx cy ch on wx wy (fil nc (fus rm sv dm nw) us) nc) nc nw (dg nc nw N) z).2.1)), some (.int (bz (decide (N + 1 < ((nc + 1) ^ nw))))), some (.int s), some (.int u), some (.int x), some (.int (nI j)), none] dX3_assign_296 (by decide) rfl rfl ?_
                  refine g_goto C 84 dX3_assign_297 (by decide) ?_
                  refine g_mask [true, true, true, false, false, false, false, false] rfl ?_
                  exact ih6 (N + 1) gw (fst on rm dm bd (fqu cx cy ch on wx wy (fil nc (fus rm sv dm nw) us) nc) nc nw (dg nc nw N) z) L ⟨hlt, by rw [fas, ← m2], hnx⟩ (by omega)
                · skip
                  refine g_aload_n C dX3_assign_252 rfl ?_
                  refine g_iload_n C dX3_assign_253 rfl ?_
                  refine g_put C 0 iX3_assign_X3 rfl rfl 27 (by decide) f148 rfl tyX3 tyX3_ok nmX3 (ty := .int) (by decide +kernel) rfl rfl (Nat.le_of_ble_eq_true rfl) (wM cI cZ q nc nw cx cy ch rm on wx wy dm sv fv hd lf la mg pt bd tk ho ri lo (fil nc (fus rm sv dm nw) us) Y z.2.2.2 L Qs s z.2.2.1 th) rfl dX3_assign_254 ?_
                  refine g_iload C dX3_assign_257 rfl ?_
                  refine g_istore_n C [some (.ref (q 0)), some (.int u), some (.int (bz (decide (N < ((nc + 1) ^ nw))))), some (.int s), some (.int u), some (.int x), some (.int (nI j)), none] dX3_assign_259 (by decide) rfl rfl ?_
                  refine g_iconst C 0 dX3_assign_260 (by decide +kernel) ?_
                  refine g_istore C [some (.ref (q 0)), some (.int u), some (.int (bz (decide (N < ((nc + 1) ^ nw))))), some (.int s), some (.int u), some (.int x), some (.int 0), none] dX3_assign_261 (by decide) rfl rfl ?_
                  refine g_loop2 0 z.2.2.2 (fun (k : Nat) (Z : Nat → Int32) => k ≤ nw ∧ ∀ j2, Z j2 = if j2 < k then nI (dg nc nw N j2) else z.2.2.2 j2) (fun (k : Nat) (Z : Nat → Int32) => (wM cI cZ q nc nw cx cy ch rm on wx wy dm sv fv hd lf la mg pt bd tk ho ri lo (fil nc (fus rm sv dm nw) us) Y Z L Qs s z.2.2.1 th)) (fun (k : Nat) (Z : Nat → Int32) => [some (.ref (q 0)), some (.int u), some (.int (bz (decide (N < ((nc + 1) ^ nw))))), some (.int s), some (.int u), some (.int x), some (.int (nI k)), none]) (fun (k : Nat) (Z : Nat → Int32) => nw - k) ⟨Nat.zero_le _, fun j2 => (if_neg (Nat.not_lt_zero j2)).symm⟩ rfl rfl (fun k Z hI5 ih5 => ?_)
                  obtain ⟨f1, f2⟩ := hI5
                  refine g_iload C dX3_assign_263 rfl ?_
                  refine g_aload_n C dX3_assign_265 rfl ?_
                  refine g_get C 0 iX3_assign_X3 rfl rfl 6 (by decide) f81 rfl dX3_assign_266 ?_
                  refine g_icmp_ge C 292 dX3_assign_269 (by decide) (fun c_269 => ?_) (fun c_269 => ?_)
                  · skip
                    have c_269 : nw ≤ k := (nI_leI (by omega) (by omega)).mp c_269
                    have hB : Z = fil nw (fun j2 => nI ((dg nc nw N) j2)) z.2.2.2 := fil_all f2 (by omega)
                    refine g_lv (lv' := [some (.ref (q 0)), some (.int ((fst on rm dm bd (fqu cx cy ch on wx wy (fil nc (fus rm sv dm nw) us) nc) nc nw (dg nc nw N) z).2.1)), some (.int (bz (decide (N < ((nc + 1) ^ nw))))), some (.int s), some (.int u), some (.int x), some (.int (nI k)), none]) (by rw [(show fst on rm dm bd (fqu cx cy ch on wx wy (fil nc (fus rm sv dm nw) us) nc) nc nw (dg nc nw N) z = (s, u, z.2.2.1, Z) from (by unfold fst; rw [if_pos (bz_1 c_92), ← e2n, ← e3n, ← e4n]; first | (rw [if_pos c_235, ← hB]; first | rw [if_pos c_215] | rw [if_neg c_215]) | (rw [if_neg c_235, if_pos c_243, if_neg c_249, ← hB]; first | rw [if_pos c_215] | rw [if_neg c_215])))] <;> rfl) ?_
                    refine g_w (ws' := (wM cI cZ q nc nw cx cy ch rm on wx wy dm sv fv hd lf la mg pt bd tk ho ri lo (fil nc (fus rm sv dm nw) us) Y ((fst on rm dm bd (fqu cx cy ch on wx wy (fil nc (fus rm sv dm nw) us) nc) nc nw (dg nc nw N) z).2.2.2) L Qs ((fst on rm dm bd (fqu cx cy ch on wx wy (fil nc (fus rm sv dm nw) us) nc) nc nw (dg nc nw N) z).1) ((fst on rm dm bd (fqu cx cy ch on wx wy (fil nc (fus rm sv dm nw) us) nc) nc nw (dg nc nw N) z).2.2.1) th)) (by rw [(show fst on rm dm bd (fqu cx cy ch on wx wy (fil nc (fus rm sv dm nw) us) nc) nc nw (dg nc nw N) z = (s, u, z.2.2.1, Z) from (by unfold fst; rw [if_pos (bz_1 c_92), ← e2n, ← e3n, ← e4n]; first | (rw [if_pos c_235, ← hB]; first | rw [if_pos c_215] | rw [if_neg c_215]) | (rw [if_neg c_235, if_pos c_243, if_neg c_249, ← hB]; first | rw [if_pos c_215] | rw [if_neg c_215])))] <;> rfl) ?_
                    refine g_aload_n C dX3_assign_292 rfl ?_
                    refine g_callVi C [] (wM cI cZ q nc nw cx cy ch rm on wx wy dm sv fv hd lf la mg pt bd tk ho ri lo (fil nc (fus rm sv dm nw) us) Y ((fst on rm dm bd (fqu cx cy ch on wx wy (fil nc (fus rm sv dm nw) us) nc) nc nw (dg nc nw N) z).2.2.2) L Qs ((fst on rm dm bd (fqu cx cy ch on wx wy (fil nc (fus rm sv dm nw) us) nc) nc nw (dg nc nw N) z).1) ((fst on rm dm bd (fqu cx cy ch on wx wy (fil nc (fus rm sv dm nw) us) nc) nc nw (dg nc nw N) z).2.2.1) th) [] (t_X3_goOnGiven h5 h6) rfl rfl (cwV 0 C.ts gX3_assign_X3_goOnGiven rfl rfl rfl (by decide +kernel) ⟨Nat.le_of_ble_eq_true rfl, Nat.le_of_ble_eq_true rfl⟩) rfl rfl rfl (Nat.le_of_ble_eq_true rfl) dX3_assign_293 ⟨Nat.le_of_ble_eq_true rfl, Nat.le_of_ble_eq_true rfl⟩ (fun rv7 wv7 hp7 => ?_)
                    obtain ⟨gw, hgo, rfl⟩ := hp7
                    obtain ⟨hrv, hnx⟩ := hN9 N _ _ _ hlt (m3 hlt) hgo
                    subst hrv
                    refine g_w (ws' := (wM cI cZ q nc nw cx cy ch rm on wx wy dm sv fv hd lf la mg pt bd tk ho ri lo (fil nc (fus rm sv dm nw) us) gw ((fst on rm dm bd (fqu cx cy ch on wx wy (fil nc (fus rm sv dm nw) us) nc) nc nw (dg nc nw N) z).2.2.2) L Qs ((fst on rm dm bd (fqu cx cy ch on wx wy (fil nc (fus rm sv dm nw) us) nc) nc nw (dg nc nw N) z).1) ((fst on rm dm bd (fqu cx cy ch on wx wy (fil nc (fus rm sv dm nw) us) nc) nc nw (dg nc nw N) z).2.2.1) th)) rfl ?_
                    refine g_istore_n C [some (.ref (q 0)), some (.int ((fst on rm dm bd (fqu cx cy ch on wx wy (fil nc (fus rm sv dm nw) us) nc) nc nw (dg nc nw N) z).2.1)), some (.int (bz (decide (N + 1 < ((nc + 1) ^ nw))))), some (.int s), some (.int u), some (.int x), some (.int (nI k)), none] dX3_assign_296 (by decide) rfl rfl ?_
                    refine g_goto C 84 dX3_assign_297 (by decide) ?_
                    refine g_mask [true, true, true, false, false, false, false, false] rfl ?_
                    exact ih6 (N + 1) gw (fst on rm dm bd (fqu cx cy ch on wx wy (fil nc (fus rm sv dm nw) us) nc) nc nw (dg nc nw N) z) L ⟨hlt, by rw [fas, ← m2], hnx⟩ (by omega)
                  · skip
                    have c_269 : ¬ (nw ≤ k) := fun h9 => c_269 ((nI_leI (by omega) (by omega)).mpr h9)
                    refine g_aload_n C dX3_assign_272 rfl ?_
                    refine g_get C 0 iX3_assign_X3 rfl rfl 24 (by decide) f66 rfl dX3_assign_273 ?_
                    refine g_iload C dX3_assign_276 rfl ?_
                    refine g_aload_n C dX3_assign_278 rfl ?_
                    refine g_get C 0 iX3_assign_X3 rfl rfl 23 (by decide) f63 rfl dX3_assign_279 ?_
                    refine g_iload C dX3_assign_282 rfl ?_
                    refine g_iald C 15 0 rfl rfl k rfl (by omega) (by decide) (nI (dg nc nw N k)) (m3 hlt k (by omega)) dX3_assign_284 ?_
                    refine g_iast C 16 0 rfl rfl k rfl (by omega) (by decide) (wM cI cZ q nc nw cx cy ch rm on wx wy dm sv fv hd lf la mg pt bd tk ho ri lo (fil nc (fus rm sv dm nw) us) Y (upd Z k (nI (dg nc nw N k))) L Qs s z.2.2.1 th) rfl dX3_assign_285 ?_
                    refine g_iinc C (nI (k + 1)) [some (.ref (q 0)), some (.int u), some (.int (bz (decide (N < ((nc + 1) ^ nw))))), some (.int s), some (.int u), some (.int x), some (.int (nI (k + 1))), none] dX3_assign_286 rfl (nI_1 k) (by decide) rfl rfl ?_
                    refine g_goto C 263 dX3_assign_289 (by decide) ?_
                    exact ih5 (k + 1) (upd Z k (nI (dg nc nw N k))) ⟨by omega, fil_step f2 rfl⟩ (by omega)
          · skip
            refine g_iload C dX3_assign_218 rfl ?_
            refine g_goto C 227 dX3_assign_220 (by decide) ?_
            refine g_put C 0 iX3_assign_X3 rfl rfl 28 (by decide) f151 rfl tyX3 tyX3_ok nmX3 (ty := .int) (by decide +kernel) rfl rfl (Nat.le_of_ble_eq_true rfl) (wM cI cZ q nc nw cx cy ch rm on wx wy dm sv fv hd lf la mg pt bd tk ho ri lo (fil nc (fus rm sv dm nw) us) Y z.2.2.2 L Qs z.1 x th) rfl dX3_assign_227 ?_
            refine g_iload_n C dX3_assign_230 rfl ?_
            refine g_aload_n C dX3_assign_231 rfl ?_
            refine g_get C 0 iX3_assign_X3 rfl rfl 27 (by decide) f148 rfl dX3_assign_232 ?_
            refine g_icmp_gt C 252 dX3_assign_235 (by decide) (fun c_235 => ?_) (fun c_235 => ?_)
            · skip
              refine g_aload_n C dX3_assign_252 rfl ?_
              refine g_iload_n C dX3_assign_253 rfl ?_
              refine g_put C 0 iX3_assign_X3 rfl rfl 27 (by decide) f148 rfl tyX3 tyX3_ok nmX3 (ty := .int) (by decide +kernel) rfl rfl (Nat.le_of_ble_eq_true rfl) (wM cI cZ q nc nw cx cy ch rm on wx wy dm sv fv hd lf la mg pt bd tk ho ri lo (fil nc (fus rm sv dm nw) us) Y z.2.2.2 L Qs s x th) rfl dX3_assign_254 ?_
              refine g_iload C dX3_assign_257 rfl ?_
              refine g_istore_n C [some (.ref (q 0)), some (.int u), some (.int (bz (decide (N < ((nc + 1) ^ nw))))), some (.int s), some (.int u), some (.int x), some (.int (nI j)), none] dX3_assign_259 (by decide) rfl rfl ?_
              refine g_iconst C 0 dX3_assign_260 (by decide +kernel) ?_
              refine g_istore C [some (.ref (q 0)), some (.int u), some (.int (bz (decide (N < ((nc + 1) ^ nw))))), some (.int s), some (.int u), some (.int x), some (.int 0), none] dX3_assign_261 (by decide) rfl rfl ?_
              refine g_loop2 0 z.2.2.2 (fun (k : Nat) (Z : Nat → Int32) => k ≤ nw ∧ ∀ j2, Z j2 = if j2 < k then nI (dg nc nw N j2) else z.2.2.2 j2) (fun (k : Nat) (Z : Nat → Int32) => (wM cI cZ q nc nw cx cy ch rm on wx wy dm sv fv hd lf la mg pt bd tk ho ri lo (fil nc (fus rm sv dm nw) us) Y Z L Qs s x th)) (fun (k : Nat) (Z : Nat → Int32) => [some (.ref (q 0)), some (.int u), some (.int (bz (decide (N < ((nc + 1) ^ nw))))), some (.int s), some (.int u), some (.int x), some (.int (nI k)), none]) (fun (k : Nat) (Z : Nat → Int32) => nw - k) ⟨Nat.zero_le _, fun j2 => (if_neg (Nat.not_lt_zero j2)).symm⟩ rfl rfl (fun k Z hI5 ih5 => ?_)
              obtain ⟨f1, f2⟩ := hI5
              refine g_iload C dX3_assign_263 rfl ?_
              refine g_aload_n C dX3_assign_265 rfl ?_
              refine g_get C 0 iX3_assign_X3 rfl rfl 6 (by decide) f81 rfl dX3_assign_266 ?_
              refine g_icmp_ge C 292 dX3_assign_269 (by decide) (fun c_269 => ?_) (fun c_269 => ?_)
              · skip
                have c_269 : nw ≤ k := (nI_leI (by omega) (by omega)).mp c_269
                have hB : Z = fil nw (fun j2 => nI ((dg nc nw N) j2)) z.2.2.2 := fil_all f2 (by omega)
                refine g_lv (lv' := [some (.ref (q 0)), some (.int ((fst on rm dm bd (fqu cx cy ch on wx wy (fil nc (fus rm sv dm nw) us) nc) nc nw (dg nc nw N) z).2.1)), some (.int (bz (decide (N < ((nc + 1) ^ nw))))), some (.int s), some (.int u), some (.int x), some (.int (nI k)), none]) (by rw [(show fst on rm dm bd (fqu cx cy ch on wx wy (fil nc (fus rm sv dm nw) us) nc) nc nw (dg nc nw N) z = (s, u, x, Z) from (by unfold fst; rw [if_pos (bz_1 c_92), ← e2n, ← e3n, ← e4n]; first | (rw [if_pos c_235, ← hB]; first | rw [if_pos c_215] | rw [if_neg c_215]) | (rw [if_neg c_235, if_pos c_243, if_neg c_249, ← hB]; first | rw [if_pos c_215] | rw [if_neg c_215])))] <;> rfl) ?_
                refine g_w (ws' := (wM cI cZ q nc nw cx cy ch rm on wx wy dm sv fv hd lf la mg pt bd tk ho ri lo (fil nc (fus rm sv dm nw) us) Y ((fst on rm dm bd (fqu cx cy ch on wx wy (fil nc (fus rm sv dm nw) us) nc) nc nw (dg nc nw N) z).2.2.2) L Qs ((fst on rm dm bd (fqu cx cy ch on wx wy (fil nc (fus rm sv dm nw) us) nc) nc nw (dg nc nw N) z).1) ((fst on rm dm bd (fqu cx cy ch on wx wy (fil nc (fus rm sv dm nw) us) nc) nc nw (dg nc nw N) z).2.2.1) th)) (by rw [(show fst on rm dm bd (fqu cx cy ch on wx wy (fil nc (fus rm sv dm nw) us) nc) nc nw (dg nc nw N) z = (s, u, x, Z) from (by unfold fst; rw [if_pos (bz_1 c_92), ← e2n, ← e3n, ← e4n]; first | (rw [if_pos c_235, ← hB]; first | rw [if_pos c_215] | rw [if_neg c_215]) | (rw [if_neg c_235, if_pos c_243, if_neg c_249, ← hB]; first | rw [if_pos c_215] | rw [if_neg c_215])))] <;> rfl) ?_
                refine g_aload_n C dX3_assign_292 rfl ?_
                refine g_callVi C [] (wM cI cZ q nc nw cx cy ch rm on wx wy dm sv fv hd lf la mg pt bd tk ho ri lo (fil nc (fus rm sv dm nw) us) Y ((fst on rm dm bd (fqu cx cy ch on wx wy (fil nc (fus rm sv dm nw) us) nc) nc nw (dg nc nw N) z).2.2.2) L Qs ((fst on rm dm bd (fqu cx cy ch on wx wy (fil nc (fus rm sv dm nw) us) nc) nc nw (dg nc nw N) z).1) ((fst on rm dm bd (fqu cx cy ch on wx wy (fil nc (fus rm sv dm nw) us) nc) nc nw (dg nc nw N) z).2.2.1) th) [] (t_X3_goOnGiven h5 h6) rfl rfl (cwV 0 C.ts gX3_assign_X3_goOnGiven rfl rfl rfl (by decide +kernel) ⟨Nat.le_of_ble_eq_true rfl, Nat.le_of_ble_eq_true rfl⟩) rfl rfl rfl (Nat.le_of_ble_eq_true rfl) dX3_assign_293 ⟨Nat.le_of_ble_eq_true rfl, Nat.le_of_ble_eq_true rfl⟩ (fun rv8 wv8 hp8 => ?_)
                obtain ⟨gw, hgo, rfl⟩ := hp8
                obtain ⟨hrv, hnx⟩ := hN9 N _ _ _ hlt (m3 hlt) hgo
                subst hrv
                refine g_w (ws' := (wM cI cZ q nc nw cx cy ch rm on wx wy dm sv fv hd lf la mg pt bd tk ho ri lo (fil nc (fus rm sv dm nw) us) gw ((fst on rm dm bd (fqu cx cy ch on wx wy (fil nc (fus rm sv dm nw) us) nc) nc nw (dg nc nw N) z).2.2.2) L Qs ((fst on rm dm bd (fqu cx cy ch on wx wy (fil nc (fus rm sv dm nw) us) nc) nc nw (dg nc nw N) z).1) ((fst on rm dm bd (fqu cx cy ch on wx wy (fil nc (fus rm sv dm nw) us) nc) nc nw (dg nc nw N) z).2.2.1) th)) rfl ?_
                refine g_istore_n C [some (.ref (q 0)), some (.int ((fst on rm dm bd (fqu cx cy ch on wx wy (fil nc (fus rm sv dm nw) us) nc) nc nw (dg nc nw N) z).2.1)), some (.int (bz (decide (N + 1 < ((nc + 1) ^ nw))))), some (.int s), some (.int u), some (.int x), some (.int (nI k)), none] dX3_assign_296 (by decide) rfl rfl ?_
                refine g_goto C 84 dX3_assign_297 (by decide) ?_
                refine g_mask [true, true, true, false, false, false, false, false] rfl ?_
                exact ih6 (N + 1) gw (fst on rm dm bd (fqu cx cy ch on wx wy (fil nc (fus rm sv dm nw) us) nc) nc nw (dg nc nw N) z) L ⟨hlt, by rw [fas, ← m2], hnx⟩ (by omega)
              · skip
                have c_269 : ¬ (nw ≤ k) := fun h9 => c_269 ((nI_leI (by omega) (by omega)).mpr h9)
                refine g_aload_n C dX3_assign_272 rfl ?_
                refine g_get C 0 iX3_assign_X3 rfl rfl 24 (by decide) f66 rfl dX3_assign_273 ?_
                refine g_iload C dX3_assign_276 rfl ?_
                refine g_aload_n C dX3_assign_278 rfl ?_
                refine g_get C 0 iX3_assign_X3 rfl rfl 23 (by decide) f63 rfl dX3_assign_279 ?_
                refine g_iload C dX3_assign_282 rfl ?_
                refine g_iald C 15 0 rfl rfl k rfl (by omega) (by decide) (nI (dg nc nw N k)) (m3 hlt k (by omega)) dX3_assign_284 ?_
                refine g_iast C 16 0 rfl rfl k rfl (by omega) (by decide) (wM cI cZ q nc nw cx cy ch rm on wx wy dm sv fv hd lf la mg pt bd tk ho ri lo (fil nc (fus rm sv dm nw) us) Y (upd Z k (nI (dg nc nw N k))) L Qs s x th) rfl dX3_assign_285 ?_
                refine g_iinc C (nI (k + 1)) [some (.ref (q 0)), some (.int u), some (.int (bz (decide (N < ((nc + 1) ^ nw))))), some (.int s), some (.int u), some (.int x), some (.int (nI (k + 1))), none] dX3_assign_286 rfl (nI_1 k) (by decide) rfl rfl ?_
                refine g_goto C 263 dX3_assign_289 (by decide) ?_
                exact ih5 (k + 1) (upd Z k (nI (dg nc nw N k))) ⟨by omega, fil_step f2 rfl⟩ (by omega)
            · skip
              refine g_iload_n C dX3_assign_238 rfl ?_
              refine g_aload_n C dX3_assign_239 rfl ?_
              refine g_get C 0 iX3_assign_X3 rfl rfl 27 (by decide) f148 rfl dX3_assign_240 ?_
              refine g_icmp_ne C 292 dX3_assign_243 (by decide) (fun c_243 => ?_) (fun c_243 => ?_)
              · skip
                refine g_lv (lv' := [some (.ref (q 0)), some (.int ((fst on rm dm bd (fqu cx cy ch on wx wy (fil nc (fus rm sv dm nw) us) nc) nc nw (dg nc nw N) z).2.1)), some (.int (bz (decide (N < ((nc + 1) ^ nw))))), some (.int s), some (.int u), some (.int x), some (.int (nI j)), none]) (by rw [(show fst on rm dm bd (fqu cx cy ch on wx wy (fil nc (fus rm sv dm nw) us) nc) nc nw (dg nc nw N) z = (z.1, z.2.1, x, z.2.2.2) from (by unfold fst; rw [if_pos (bz_1 c_92), ← e2n, ← e3n, ← e4n]; first | (rw [if_neg c_235, if_pos c_243, if_pos c_249]; first | rw [if_pos c_215] | rw [if_neg c_215]) | (rw [if_neg c_235, if_neg c_243]; first | rw [if_pos c_215] | rw [if_neg c_215])))] <;> rfl) ?_
                refine g_w (ws' := (wM cI cZ q nc nw cx cy ch rm on wx wy dm sv fv hd lf la mg pt bd tk ho ri lo (fil nc (fus rm sv dm nw) us) Y ((fst on rm dm bd (fqu cx cy ch on wx wy (fil nc (fus rm sv dm nw) us) nc) nc nw (dg nc nw N) z).2.2.2) L Qs ((fst on rm dm bd (fqu cx cy ch on wx wy (fil nc (fus rm sv dm nw) us) nc) nc nw (dg nc nw N) z).1) ((fst on rm dm bd (fqu cx cy ch on wx wy (fil nc (fus rm sv dm nw) us) nc) nc nw (dg nc nw N) z).2.2.1) th)) (by rw [(show fst on rm dm bd (fqu cx cy ch on wx wy (fil nc (fus rm sv dm nw) us) nc) nc nw (dg nc nw N) z = (z.1, z.2.1, x, z.2.2.2) from (by unfold fst; rw [if_pos (bz_1 c_92), ← e2n, ← e3n, ← e4n]; first | (rw [if_neg c_235, if_pos c_243, if_pos c_249]; first | rw [if_pos c_215] | rw [if_neg c_215]) | (rw [if_neg c_235, if_neg c_243]; first | rw [if_pos c_215] | rw [if_neg c_215])))] <;> rfl) ?_
                refine g_aload_n C dX3_assign_292 rfl ?_
                refine g_callVi C [] (wM cI cZ q nc nw cx cy ch rm on wx wy dm sv fv hd lf la mg pt bd tk ho ri lo (fil nc (fus rm sv dm nw) us) Y ((fst on rm dm bd (fqu cx cy ch on wx wy (fil nc (fus rm sv dm nw) us) nc) nc nw (dg nc nw N) z).2.2.2) L Qs ((fst on rm dm bd (fqu cx cy ch on wx wy (fil nc (fus rm sv dm nw) us) nc) nc nw (dg nc nw N) z).1) ((fst on rm dm bd (fqu cx cy ch on wx wy (fil nc (fus rm sv dm nw) us) nc) nc nw (dg nc nw N) z).2.2.1) th) [] (t_X3_goOnGiven h5 h6) rfl rfl (cwV 0 C.ts gX3_assign_X3_goOnGiven rfl rfl rfl (by decide +kernel) ⟨Nat.le_of_ble_eq_true rfl, Nat.le_of_ble_eq_true rfl⟩) rfl rfl rfl (Nat.le_of_ble_eq_true rfl) dX3_assign_293 ⟨Nat.le_of_ble_eq_true rfl, Nat.le_of_ble_eq_true rfl⟩ (fun rv9 wv9 hp9 => ?_)
                obtain ⟨gw, hgo, rfl⟩ := hp9
                obtain ⟨hrv, hnx⟩ := hN9 N _ _ _ hlt (m3 hlt) hgo
                subst hrv
                refine g_w (ws' := (wM cI cZ q nc nw cx cy ch rm on wx wy dm sv fv hd lf la mg pt bd tk ho ri lo (fil nc (fus rm sv dm nw) us) gw ((fst on rm dm bd (fqu cx cy ch on wx wy (fil nc (fus rm sv dm nw) us) nc) nc nw (dg nc nw N) z).2.2.2) L Qs ((fst on rm dm bd (fqu cx cy ch on wx wy (fil nc (fus rm sv dm nw) us) nc) nc nw (dg nc nw N) z).1) ((fst on rm dm bd (fqu cx cy ch on wx wy (fil nc (fus rm sv dm nw) us) nc) nc nw (dg nc nw N) z).2.2.1) th)) rfl ?_
                refine g_istore_n C [some (.ref (q 0)), some (.int ((fst on rm dm bd (fqu cx cy ch on wx wy (fil nc (fus rm sv dm nw) us) nc) nc nw (dg nc nw N) z).2.1)), some (.int (bz (decide (N + 1 < ((nc + 1) ^ nw))))), some (.int s), some (.int u), some (.int x), some (.int (nI j)), none] dX3_assign_296 (by decide) rfl rfl ?_
                refine g_goto C 84 dX3_assign_297 (by decide) ?_
                refine g_mask [true, true, true, false, false, false, false, false] rfl ?_
                exact ih6 (N + 1) gw (fst on rm dm bd (fqu cx cy ch on wx wy (fil nc (fus rm sv dm nw) us) nc) nc nw (dg nc nw N) z) L ⟨hlt, by rw [fas, ← m2], hnx⟩ (by omega)
              · skip
                refine g_iload C dX3_assign_246 rfl ?_
                refine g_iload_n C dX3_assign_248 rfl ?_
                refine g_icmp_le C 292 dX3_assign_249 (by decide) (fun c_249 => ?_) (fun c_249 => ?_)
                · skip
                  refine g_lv (lv' := [some (.ref (q 0)), some (.int ((fst on rm dm bd (fqu cx cy ch on wx wy (fil nc (fus rm sv dm nw) us) nc) nc nw (dg nc nw N) z).2.1)), some (.int (bz (decide (N < ((nc + 1) ^ nw))))), some (.int s), some (.int u), some (.int x), some (.int (nI j)), none]) (by rw [(show fst on rm dm bd (fqu cx cy ch on wx wy (fil nc (fus rm sv dm nw) us) nc) nc nw (dg nc nw N) z = (z.1, z.2.1, x, z.2.2.2) from (by unfold fst; rw [if_pos (bz_1 c_92), ← e2n, ← e3n, ← e4n]; first | (rw [if_neg c_235, if_pos c_243, if_pos c_249]; first | rw [if_pos c_215] | rw [if_neg c_215]) | (rw [if_neg c_235, if_neg c_243]; first | rw [if_pos c_215] | rw [if_neg c_215])))] <;> rfl) ?_
                  refine g_w (ws' := (wM cI cZ q nc nw cx cy ch rm on wx wy dm sv fv hd lf la mg pt bd tk ho ri lo (fil nc (fus rm sv dm nw) us) Y ((fst on rm dm bd (fqu cx cy ch on wx wy (fil nc (fus rm sv dm nw) us) nc) nc nw (dg nc nw N) z).2.2.2) L Qs ((fst on rm dm bd (fqu cx cy ch on wx wy (fil nc (fus rm sv dm nw) us) nc) nc nw (dg nc nw N) z).1) ((fst on rm dm bd (fqu cx cy ch on wx wy (fil nc (fus rm sv dm nw) us) nc) nc nw (dg nc nw N) z).2.2.1) th)) (by rw [(show fst on rm dm bd (fqu cx cy ch on wx wy (fil nc (fus rm sv dm nw) us) nc) nc nw (dg nc nw N) z = (z.1, z.2.1, x, z.2.2.2) from (by unfold fst; rw [if_pos (bz_1 c_92), ← e2n, ← e3n, ← e4n]; first | (rw [if_neg c_235, if_pos c_243, if_pos c_249]; first | rw [if_pos c_215] | rw [if_neg c_215]) | (rw [if_neg c_235, if_neg c_243]; first | rw [if_pos c_215] | rw [if_neg c_215])))] <;> rfl) ?_
                  refine g_aload_n C dX3_assign_292 rfl ?_
                  refine g_callVi C [] (wM cI cZ q nc nw cx cy ch rm on wx wy dm sv fv hd lf la mg pt bd tk ho ri lo (fil nc (fus rm sv dm nw) us) Y ((fst on rm dm bd (fqu cx cy ch on wx wy (fil nc (fus rm sv dm nw) us) nc) nc nw (dg nc nw N) z).2.2.2) L Qs ((fst on rm dm bd (fqu cx cy ch on wx wy (fil nc (fus rm sv dm nw) us) nc) nc nw (dg nc nw N) z).1) ((fst on rm dm bd (fqu cx cy ch on wx wy (fil nc (fus rm sv dm nw) us) nc) nc nw (dg nc nw N) z).2.2.1) th) [] (t_X3_goOnGiven h5 h6) rfl rfl (cwV 0 C.ts gX3_assign_X3_goOnGiven rfl rfl rfl (by decide +kernel) ⟨Nat.le_of_ble_eq_true rfl, Nat.le_of_ble_eq_true rfl⟩) rfl rfl rfl (Nat.le_of_ble_eq_true rfl) dX3_assign_293 ⟨Nat.le_of_ble_eq_true rfl, Nat.le_of_ble_eq_true rfl⟩ (fun rv10 wv10 hp10 => ?_)
                  obtain ⟨gw, hgo, rfl⟩ := hp10
                  obtain ⟨hrv, hnx⟩ := hN9 N _ _ _ hlt (m3 hlt) hgo
                  subst hrv
                  refine g_w (ws' := (wM cI cZ q nc nw cx cy ch rm on wx wy dm sv fv hd lf la mg pt bd tk ho ri lo (fil nc (fus rm sv dm nw) us) gw ((fst on rm dm bd (fqu cx cy ch on wx wy (fil nc (fus rm sv dm nw) us) nc) nc nw (dg nc nw N) z).2.2.2) L Qs ((fst on rm dm bd (fqu cx cy ch on wx wy (fil nc (fus rm sv dm nw) us) nc) nc nw (dg nc nw N) z).1) ((fst on rm dm bd (fqu cx cy ch on wx wy (fil nc (fus rm sv dm nw) us) nc) nc nw (dg nc nw N) z).2.2.1) th)) rfl ?_
                  refine g_istore_n C [some (.ref (q 0)), some (.int ((fst on rm dm bd (fqu cx cy ch on wx wy (fil nc (fus rm sv dm nw) us) nc) nc nw (dg nc nw N) z).2.1)), some (.int (bz (decide (N + 1 < ((nc + 1) ^ nw))))), some (.int s), some (.int u), some (.int x), some (.int (nI j)), none] dX3_assign_296 (by decide) rfl rfl ?_
                  refine g_goto C 84 dX3_assign_297 (by decide) ?_
                  refine g_mask [true, true, true, false, false, false, false, false] rfl ?_
                  exact ih6 (N + 1) gw (fst on rm dm bd (fqu cx cy ch on wx wy (fil nc (fus rm sv dm nw) us) nc) nc nw (dg nc nw N) z) L ⟨hlt, by rw [fas, ← m2], hnx⟩ (by omega)
                · skip
                  refine g_aload_n C dX3_assign_252 rfl ?_
                  refine g_iload_n C dX3_assign_253 rfl ?_
                  refine g_put C 0 iX3_assign_X3 rfl rfl 27 (by decide) f148 rfl tyX3 tyX3_ok nmX3 (ty := .int) (by decide +kernel) rfl rfl (Nat.le_of_ble_eq_true rfl) (wM cI cZ q nc nw cx cy ch rm on wx wy dm sv fv hd lf la mg pt bd tk ho ri lo (fil nc (fus rm sv dm nw) us) Y z.2.2.2 L Qs s x th) rfl dX3_assign_254 ?_
                  refine g_iload C dX3_assign_257 rfl ?_
                  refine g_istore_n C [some (.ref (q 0)), some (.int u), some (.int (bz (decide (N < ((nc + 1) ^ nw))))), some (.int s), some (.int u), some (.int x), some (.int (nI j)), none] dX3_assign_259 (by decide) rfl rfl ?_
                  refine g_iconst C 0 dX3_assign_260 (by decide +kernel) ?_
                  refine g_istore C [some (.ref (q 0)), some (.int u), some (.int (bz (decide (N < ((nc + 1) ^ nw))))), some (.int s), some (.int u), some (.int x), some (.int 0), none] dX3_assign_261 (by decide) rfl rfl ?_
                  refine g_loop2 0 z.2.2.2 (fun (k : Nat) (Z : Nat → Int32) => k ≤ nw ∧ ∀ j2, Z j2 = if j2 < k then nI (dg nc nw N j2) else z.2.2.2 j2) (fun (k : Nat) (Z : Nat → Int32) => (wM cI cZ q nc nw cx cy ch rm on wx wy dm sv fv hd lf la mg pt bd tk ho ri lo (fil nc (fus rm sv dm nw) us) Y Z L Qs s x th)) (fun (k : Nat) (Z : Nat → Int32) => [some (.ref (q 0)), some (.int u), some (.int (bz (decide (N < ((nc + 1) ^ nw))))), some (.int s), some (.int u), some (.int x), some (.int (nI k)), none]) (fun (k : Nat) (Z : Nat → Int32) => nw - k) ⟨Nat.zero_le _, fun j2 => (if_neg (Nat.not_lt_zero j2)).symm⟩ rfl rfl (fun k Z hI5 ih5 => ?_)
                  obtain ⟨f1, f2⟩ := hI5
                  refine g_iload C dX3_assign_263 rfl ?_
                  refine g_aload_n C dX3_assign_265 rfl ?_
                  refine g_get C 0 iX3_assign_X3 rfl rfl 6 (by decide) f81 rfl dX3_assign_266 ?_
                  refine g_icmp_ge C 292 dX3_assign_269 (by decide) (fun c_269 => ?_) (fun c_269 => ?_)
                  · skip
                    have c_269 : nw ≤ k := (nI_leI (by omega) (by omega)).mp c_269
                    have hB : Z = fil nw (fun j2 => nI ((dg nc nw N) j2)) z.2.2.2 := fil_all f2 (by omega)
                    refine g_lv (lv' := [some (.ref (q 0)), some (.int ((fst on rm dm bd (fqu cx cy ch on wx wy (fil nc (fus rm sv dm nw) us) nc) nc nw (dg nc nw N) z).2.1)), some (.int (bz (decide (N < ((nc + 1) ^ nw))))), some (.int s), some (.int u), some (.int x), some (.int (nI k)), none]) (by rw [(show fst on rm dm bd (fqu cx cy ch on wx wy (fil nc (fus rm sv dm nw) us) nc) nc nw (dg nc nw N) z = (s, u, x, Z) from (by unfold fst; rw [if_pos (bz_1 c_92), ← e2n, ← e3n, ← e4n]; first | (rw [if_pos c_235, ← hB]; first | rw [if_pos c_215] | rw [if_neg c_215]) | (rw [if_neg c_235, if_pos c_243, if_neg c_249, ← hB]; first | rw [if_pos c_215] | rw [if_neg c_215])))] <;> rfl) ?_
                    refine g_w (ws' := (wM cI cZ q nc nw cx cy ch rm on wx wy dm sv fv hd lf la mg pt bd tk ho ri lo (fil nc (fus rm sv dm nw) us) Y ((fst on rm dm bd (fqu cx cy ch on wx wy (fil nc (fus rm sv dm nw) us) nc) nc nw (dg nc nw N) z).2.2.2) L Qs ((fst on rm dm bd (fqu cx cy ch on wx wy (fil nc (fus rm sv dm nw) us) nc) nc nw (dg nc nw N) z).1) ((fst on rm dm bd (fqu cx cy ch on wx wy (fil nc (fus rm sv dm nw) us) nc) nc nw (dg nc nw N) z).2.2.1) th)) (by rw [(show fst on rm dm bd (fqu cx cy ch on wx wy (fil nc (fus rm sv dm nw) us) nc) nc nw (dg nc nw N) z = (s, u, x, Z) from (by unfold fst; rw [if_pos (bz_1 c_92), ← e2n, ← e3n, ← e4n]; first | (rw [if_pos c_235, ← hB]; first | rw [if_pos c_215] | rw [if_neg c_215]) | (rw [if_neg c_235, if_pos c_243, if_neg c_249, ← hB]; first | rw [if_pos c_215] | rw [if_neg c_215])))] <;> rfl) ?_
                    refine g_aload_n C dX3_assign_292 rfl ?_
                    refine g_callVi C [] (wM cI cZ q nc nw cx cy ch rm on wx wy dm sv fv hd lf la mg pt bd tk ho ri lo (fil nc (fus rm sv dm nw) us) Y ((fst on rm dm bd (fqu cx cy ch on wx wy (fil nc (fus rm sv dm nw) us) nc) nc nw (dg nc nw N) z).2.2.2) L Qs ((fst on rm dm bd (fqu cx cy ch on wx wy (fil nc (fus rm sv dm nw) us) nc) nc nw (dg nc nw N) z).1) ((fst on rm dm bd (fqu cx cy ch on wx wy (fil nc (fus rm sv dm nw) us) nc) nc nw (dg nc nw N) z).2.2.1) th) [] (t_X3_goOnGiven h5 h6) rfl rfl (cwV 0 C.ts gX3_assign_X3_goOnGiven rfl rfl rfl (by decide +kernel) ⟨Nat.le_of_ble_eq_true rfl, Nat.le_of_ble_eq_true rfl⟩) rfl rfl rfl (Nat.le_of_ble_eq_true rfl) dX3_assign_293 ⟨Nat.le_of_ble_eq_true rfl, Nat.le_of_ble_eq_true rfl⟩ (fun rv11 wv11 hp11 => ?_)
                    obtain ⟨gw, hgo, rfl⟩ := hp11
                    obtain ⟨hrv, hnx⟩ := hN9 N _ _ _ hlt (m3 hlt) hgo
                    subst hrv
                    refine g_w (ws' := (wM cI cZ q nc nw cx cy ch rm on wx wy dm sv fv hd lf la mg pt bd tk ho ri lo (fil nc (fus rm sv dm nw) us) gw ((fst on rm dm bd (fqu cx cy ch on wx wy (fil nc (fus rm sv dm nw) us) nc) nc nw (dg nc nw N) z).2.2.2) L Qs ((fst on rm dm bd (fqu cx cy ch on wx wy (fil nc (fus rm sv dm nw) us) nc) nc nw (dg nc nw N) z).1) ((fst on rm dm bd (fqu cx cy ch on wx wy (fil nc (fus rm sv dm nw) us) nc) nc nw (dg nc nw N) z).2.2.1) th)) rfl ?_
                    refine g_istore_n C [some (.ref (q 0)), some (.int ((fst on rm dm bd (fqu cx cy ch on wx wy (fil nc (fus rm sv dm nw) us) nc) nc nw (dg nc nw N) z).2.1)), some (.int (bz (decide (N + 1 < ((nc + 1) ^ nw))))), some (.int s), some (.int u), some (.int x), some (.int (nI k)), none] dX3_assign_296 (by decide) rfl rfl ?_
                    refine g_goto C 84 dX3_assign_297 (by decide) ?_
                    refine g_mask [true, true, true, false, false, false, false, false] rfl ?_
                    exact ih6 (N + 1) gw (fst on rm dm bd (fqu cx cy ch on wx wy (fil nc (fus rm sv dm nw) us) nc) nc nw (dg nc nw N) z) L ⟨hlt, by rw [fas, ← m2], hnx⟩ (by omega)
                  · skip
                    have c_269 : ¬ (nw ≤ k) := fun h9 => c_269 ((nI_leI (by omega) (by omega)).mpr h9)
                    refine g_aload_n C dX3_assign_272 rfl ?_
                    refine g_get C 0 iX3_assign_X3 rfl rfl 24 (by decide) f66 rfl dX3_assign_273 ?_
                    refine g_iload C dX3_assign_276 rfl ?_
                    refine g_aload_n C dX3_assign_278 rfl ?_
                    refine g_get C 0 iX3_assign_X3 rfl rfl 23 (by decide) f63 rfl dX3_assign_279 ?_
                    refine g_iload C dX3_assign_282 rfl ?_
                    refine g_iald C 15 0 rfl rfl k rfl (by omega) (by decide) (nI (dg nc nw N k)) (m3 hlt k (by omega)) dX3_assign_284 ?_
                    refine g_iast C 16 0 rfl rfl k rfl (by omega) (by decide) (wM cI cZ q nc nw cx cy ch rm on wx wy dm sv fv hd lf la mg pt bd tk ho ri lo (fil nc (fus rm sv dm nw) us) Y (upd Z k (nI (dg nc nw N k))) L Qs s x th) rfl dX3_assign_285 ?_
                    refine g_iinc C (nI (k + 1)) [some (.ref (q 0)), some (.int u), some (.int (bz (decide (N < ((nc + 1) ^ nw))))), some (.int s), some (.int u), some (.int x), some (.int (nI (k + 1))), none] dX3_assign_286 rfl (nI_1 k) (by decide) rfl rfl ?_
                    refine g_goto C 263 dX3_assign_289 (by decide) ?_
                    exact ih5 (k + 1) (upd Z k (nI (dg nc nw N k))) ⟨by omega, fil_step f2 rfl⟩ (by omega)
        · skip
          have c_112 : ¬ (nw ≤ j) := fun h9 => c_112 ((nI_leI (by omega) (by omega)).mpr h9)
          refine g_aload_n C dX3_assign_115 rfl ?_
          refine g_get C 0 iX3_assign_X3 rfl rfl 23 (by decide) f63 rfl dX3_assign_116 ?_
          refine g_iload C dX3_assign_119 rfl ?_
          refine g_iald C 15 0 rfl rfl j rfl (by omega) (by decide) (nI (dg nc nw N j)) (m3 hlt j (by omega)) dX3_assign_121 ?_
          refine g_aload_n C dX3_assign_122 rfl ?_
          refine g_get C 0 iX3_assign_X3 rfl rfl 0 (by decide) f78 rfl dX3_assign_123 ?_
          refine g_icmp_ge C 133 dX3_assign_126 (by decide) (fun c_126 => ?_) (fun c_126 => ?_)
          · skip
            have c_126 : nc ≤ (dg nc nw N j) := (nI_leI (by omega) (by omega)).mp c_126
            refine g_iconst C 0 dX3_assign_133 (by decide +kernel) ?_
            refine g_istore C [some (.ref (q 0)), some (.int z.2.1), some (.int (bz (decide (N < ((nc + 1) ^ nw))))), some (.int s), some (.int u), some (.int x), some (.int (nI j)), some (.int 0)] dX3_assign_134 (by decide) rfl rfl ?_
            refine g_iload_n C dX3_assign_136 rfl ?_
            refine g_iload C dX3_assign_137 rfl ?_
            refine g_if_eq C 146 dX3_assign_139 (by decide) (fun _ => ?_) (fun c9 => absurd rfl c9)
            refine g_iconst C 0 dX3_assign_146 (by decide +kernel) ?_
            refine g_iadd C s dX3_assign_147 (Int32_add0 _) ?_
            refine g_istore_n C [some (.ref (q 0)), some (.int z.2.1), some (.int (bz (decide (N < ((nc + 1) ^ nw))))), some (.int s), some (.int u), some (.int x), some (.int (nI j)), some (.int 0)] dX3_assign_148 (by decide) rfl rfl ?_
            refine g_iload C dX3_assign_149 rfl ?_
            refine g_iload C dX3_assign_151 rfl ?_
            refine g_if_eq C 177 dX3_assign_153 (by decide) (fun _ => ?_) (fun c9 => absurd rfl c9)
            refine g_iconst C 0 dX3_assign_177 (by decide +kernel) ?_
            refine g_iadd C u dX3_assign_178 (Int32_add0 _) ?_
            refine g_istore C [some (.ref (q 0)), some (.int z.2.1), some (.int (bz (decide (N < ((nc + 1) ^ nw))))), some (.int s), some (.int u), some (.int x), some (.int (nI j)), some (.int 0)] dX3_assign_179 (by decide) rfl rfl ?_
            refine g_iload C dX3_assign_181 rfl ?_
            refine g_iload C dX3_assign_183 rfl ?_
            refine g_if_eq C 198 dX3_assign_185 (by decide) (fun _ => ?_) (fun c9 => absurd rfl c9)
            refine g_iconst C 0 dX3_assign_198 (by decide +kernel) ?_
            refine g_iadd C x dX3_assign_199 (Int32_add0 _) ?_
            refine g_istore C [some (.ref (q 0)), some (.int z.2.1), some (.int (bz (decide (N < ((nc + 1) ^ nw))))), some (.int s), some (.int u), some (.int x), some (.int (nI j)), some (.int 0)] dX3_assign_200 (by decide) rfl rfl ?_
            refine g_iinc C (nI (j + 1)) [some (.ref (q 0)), some (.int z.2.1), some (.int (bz (decide (N < ((nc + 1) ^ nw))))), some (.int s), some (.int u), some (.int x), some (.int (nI (j + 1))), some (.int 0)] dX3_assign_202 rfl (nI_1 j) (by decide) rfl rfl ?_
            refine g_goto C 106 dX3_assign_205 (by decide) ?_
            refine g_mask [true, true, true, true, true, true, true, false] rfl ?_
            exact ih4 (j + 1) s u x ⟨by omega, by rw [fsv, if_pos c_126, e2], by rw [fsu, if_pos c_126, e3], by rw [fsd, if_pos c_126, e4]⟩ (by omega)
          · skip
            have c_126 : ¬ (nc ≤ (dg nc nw N j)) := fun h9 => c_126 ((nI_leI (by omega) (by omega)).mpr h9)
            refine g_iconst C 1 dX3_assign_129 (by decide +kernel) ?_
            refine g_goto C 134 dX3_assign_130 (by decide) ?_
            refine g_istore C [some (.ref (q 0)), some (.int z.2.1), some (.int (bz (decide (N < ((nc + 1) ^ nw))))), some (.int s), some (.int u), some (.int x), some (.int (nI j)), some (.int 1)] dX3_assign_134 (by decide) rfl rfl ?_
            refine g_iload_n C dX3_assign_136 rfl ?_
            refine g_iload C dX3_assign_137 rfl ?_
            refine g_if_eq C 146 dX3_assign_139 (by decide) (fun c9 => absurd c9 (by decide)) (fun _ => ?_)
            refine g_iconst C 1 dX3_assign_142 (by decide +kernel) ?_
            refine g_goto C 147 dX3_assign_143 (by decide) ?_
            refine g_iadd C (s + 1) dX3_assign_147 rfl ?_
            refine g_istore_n C [some (.ref (q 0)), some (.int z.2.1), some (.int (bz (decide (N < ((nc + 1) ^ nw))))), some (.int (s + 1)), some (.int u), some (.int x), some (.int (nI j)), some (.int 1)] dX3_assign_148 (by decide) rfl rfl ?_
            refine g_iload C dX3_assign_149 rfl ?_
            refine g_iload C dX3_assign_151 rfl ?_
            refine g_if_eq C 177 dX3_assign_153 (by decide) (fun c9 => absurd c9 (by decide)) (fun _ => ?_)
            refine g_aload_n C dX3_assign_156 rfl ?_
            refine g_get C 0 iX3_assign_X3 rfl rfl 26 (by decide) f72 rfl dX3_assign_157 ?_
            refine g_bipush C 6 dX3_assign_160 (by decide +kernel) ?_
            refine g_aload_n C dX3_assign_162 rfl ?_
            refine g_get C 0 iX3_assign_X3 rfl rfl 23 (by decide) f63 rfl dX3_assign_163 ?_
            refine g_iload C dX3_assign_166 rfl ?_
            refine g_iald C 15 0 rfl rfl j rfl (by omega) (by decide) (nI (dg nc nw N j)) (m3 hlt j (by omega)) dX3_assign_168 ?_
            refine g_imul C (nI (6 * dg nc nw N j)) dX3_assign_169 (pk_mul 6 _) ?_
            refine g_iload C dX3_assign_170 rfl ?_
            refine g_iadd C (nI (6 * dg nc nw N j + j)) dX3_assign_172 (nI_add _ _) ?_
            refine g_iald C 18 0 rfl rfl (6 * dg nc nw N j + j) rfl (by omega) (by decide) ((fqu cx cy ch on wx wy (fil nc (fus rm sv dm nw) us) nc) j (dg nc nw N j)) (h4 j (dg nc nw N j) (by omega) (by omega)) dX3_assign_173 ?_
            refine g_goto C 178 dX3_assign_174 (by decide) ?_
            refine g_iadd C (u + ((fqu cx cy ch on wx wy (fil nc (fus rm sv dm nw) us) nc) j (dg nc nw N j))) dX3_assign_178 rfl ?_
            refine g_istore C [some (.ref (q 0)), some (.int z.2.1), some (.int (bz (decide (N < ((nc + 1) ^ nw))))), some (.int (s + 1)), some (.int (u + ((fqu cx cy ch on wx wy (fil nc (fus rm sv dm nw) us) nc) j (dg nc nw N j)))), some (.int x), some (.int (nI j)), some (.int 1)] dX3_assign_179 (by decide) rfl rfl ?_
            refine g_iload C dX3_assign_181 rfl ?_
            refine g_iload C dX3_assign_183 rfl ?_
            refine g_if_eq C 198 dX3_assign_185 (by decide) (fun c9 => absurd c9 (by decide)) (fun _ => ?_)
            refine g_aload_n C dX3_assign_188 rfl ?_
            refine g_get C 0 iX3_assign_X3 rfl rfl 9 (by decide) f32 rfl dX3_assign_189 ?_
            refine g_iload C dX3_assign_192 rfl ?_
            refine g_iald C 8 0 rfl rfl j rfl (by omega) (by decide) (dm j) rfl dX3_assign_194 ?_
            refine g_goto C 199 dX3_assign_195 (by decide) ?_
            refine g_iadd C (x + (dm j)) dX3_assign_199 rfl ?_
            refine g_istore C [some (.ref (q 0)), some (.int z.2.1), some (.int (bz (decide (N < ((nc + 1) ^ nw))))), some (.int (s + 1)), some (.int (u + ((fqu cx cy ch on wx wy (fil nc (fus rm sv dm nw) us) nc) j (dg nc nw N j)))), some (.int (x + (dm j))), some (.int (nI j)), some (.int 1)] dX3_assign_200 (by decide) rfl rfl ?_
            refine g_iinc C (nI (j + 1)) [some (.ref (q 0)), some (.int z.2.1), some (.int (bz (decide (N < ((nc + 1) ^ nw))))), some (.int (s + 1)), some (.int (u + ((fqu cx cy ch on wx wy (fil nc (fus rm sv dm nw) us) nc) j (dg nc nw N j)))), some (.int (x + (dm j))), some (.int (nI (j + 1))), some (.int 1)] dX3_assign_202 rfl (nI_1 j) (by decide) rfl rfl ?_
            refine g_goto C 106 dX3_assign_205 (by decide) ?_
            refine g_mask [true, true, true, true, true, true, true, false] rfl ?_
            exact ih4 (j + 1) (s + 1) (u + ((fqu cx cy ch on wx wy (fil nc (fus rm sv dm nw) us) nc) j (dg nc nw N j))) (x + (dm j)) ⟨by omega, by rw [fsv, if_neg c_126, e2], by rw [fsu, if_neg c_126, e3], by rw [fsd, if_neg c_126, e4]⟩ (by omega)
  · skip
    have c_11 : ¬ (nw ≤ i) := fun h9 => c_11 ((nI_leI (by omega) (by omega)).mpr h9)
    refine g_aload_n C dX3_assign_14 rfl ?_
    refine g_get C 0 iX3_assign_X3 rfl rfl 23 (by decide) f63 rfl dX3_assign_15 ?_
    refine g_iload_n C dX3_assign_18 rfl ?_
    refine g_iconst C 0 dX3_assign_19 (by decide +kernel) ?_
    refine g_iast C 15 0 rfl rfl i rfl (by omega) (by decide) (wM cI cZ q nc nw cx cy ch rm on wx wy dm sv fv hd lf la mg pt bd tk ho ri lo (fil nc (fus rm sv dm nw) us) (upd P i 0) Bs ld Qs mS mD th) rfl dX3_assign_20 ?_
    refine g_aload_n C dX3_assign_21 rfl ?_
    refine g_get C 0 iX3_assign_X3 rfl rfl 24 (by decide) f66 rfl dX3_assign_22 ?_
    refine g_iload_n C dX3_assign_25 rfl ?_
    refine g_aload_n C dX3_assign_26 rfl ?_
    refine g_get C 0 iX3_assign_X3 rfl rfl 0 (by decide) f78 rfl dX3_assign_27 ?_
    refine g_iast C 16 0 rfl rfl i rfl (by omega) (by decide) (wM cI cZ q nc nw cx cy ch rm on wx wy dm sv fv hd lf la mg pt bd tk ho ri lo (fil nc (fus rm sv dm nw) us) (upd P i 0) (upd Bs i (nI nc)) ld Qs mS mD th) rfl dX3_assign_30 ?_
    refine g_iconst C 0 dX3_assign_31 (by decide +kernel) ?_
    refine g_istore_n C [some (.ref (q 0)), some (.int (nI i)), some (.int 0), none, none, none, none, none] dX3_assign_32 (by decide) rfl rfl ?_
    refine g_loop2 0 Qs (fun (v : Nat) (R2 : Nat → Int32) => v ≤ nc ∧ (∀ w c, w < i → R2 (6 * c + w) = Qs (6 * c + w)) ∧ ∀ c, c < v → R2 (6 * c + i) = (fqu cx cy ch on wx wy (fil nc (fus rm sv dm nw) us) nc) i c) (fun (v : Nat) (R2 : Nat → Int32) => (wM cI cZ q nc nw cx cy ch rm on wx wy dm sv fv hd lf la mg pt bd tk ho ri lo (fil nc (fus rm sv dm nw) us) (upd P i 0) (upd Bs i (nI nc)) ld R2 mS mD th)) (fun (v : Nat) (R2 : Nat → Int32) => [some (.ref (q 0)), some (.int (nI i)), some (.int (nI v)), none, none, none, none, none]) (fun (v : Nat) (R2 : Nat → Int32) => nc - v) ⟨Nat.zero_le _, fun _ _ _ => rfl, fun c h => absurd h (Nat.not_lt_zero c)⟩ rfl rfl (fun v R2 hI3 ih3 => ?_)
    obtain ⟨k1, k2, k3⟩ := hI3
    refine g_iload_n C dX3_assign_33 rfl ?_
    refine g_aload_n C dX3_assign_34 rfl ?_
    refine g_get C 0 iX3_assign_X3 rfl rfl 0 (by decide) f78 rfl dX3_assign_35 ?_
    refine g_icmp_ge C 64 dX3_assign_38 (by decide) (fun c_38 => ?_) (fun c_38 => ?_)
    · skip
      have c_38 : nc ≤ v := (nI_leI (by omega) (by omega)).mp c_38
      refine g_iinc C (nI (i + 1)) [some (.ref (q 0)), some (.int (nI (i + 1))), some (.int (nI v)), none, none, none, none, none] dX3_assign_64 rfl (nI_1 i) (by decide) rfl rfl ?_
      refine g_goto C 6 dX3_assign_67 (by decide) ?_
      refine g_mask [true, true, false, false, false, false, false, false] rfl ?_
      exact ih (i + 1) (upd P i 0) (upd Bs i (nI nc)) R2 ⟨by omega, fun j hj => (Decidable.em (j = i)).elim (fun q9 => by rw [q9]; exact upd_at) (fun q9 => by rw [upd_ne q9]; exact h2 j (by omega)), fil_step (f := fun _ => nI nc) h3 rfl, fun w c hw hc => (Decidable.em (w = i)).elim (fun q9 => by rw [q9]; exact k3 c (by omega)) (fun q9 => by rw [k2 w c (by omega)]; exact h4 w c (by omega) hc)⟩ (by omega)
    · skip
      have c_38 : ¬ (nc ≤ v) := fun h9 => c_38 ((nI_leI (by omega) (by omega)).mpr h9)
      refine g_aload_n C dX3_assign_41 rfl ?_
      refine g_get C 0 iX3_assign_X3 rfl rfl 26 (by decide) f72 rfl dX3_assign_42 ?_
      refine g_bipush C 6 dX3_assign_45 (by decide +kernel) ?_
      refine g_iload_n C dX3_assign_47 rfl ?_
      refine g_imul C (nI (6 * v)) dX3_assign_48 (pk_mul 6 _) ?_
      refine g_iload_n C dX3_assign_49 rfl ?_
      refine g_iadd C (nI (6 * v + i)) dX3_assign_50 (nI_add _ _) ?_
      refine g_aload_n C dX3_assign_51 rfl ?_
      refine g_iload_n C dX3_assign_52 rfl ?_
      refine g_iload_n C dX3_assign_53 rfl ?_
      refine g_callVi C [] (wM cI cZ q nc nw cx cy ch rm on wx wy dm sv fv hd lf la mg pt bd tk ho ri lo (fil nc (fus rm sv dm nw) us) (upd P i 0) (upd Bs i (nI nc)) ld R2 mS mD th) [.int (nI v), .int (nI i)] (t_X3_qualityOf h5 (by omega) (by omega) (fun u hu => hg u i hu (by omega)) (hQ sv us v i (by omega) (by omega))) rfl rfl (cwV 2 C.ts gX3_assign_X3_qualityOf rfl rfl rfl (by decide +kernel) ⟨Nat.le_of_ble_eq_true rfl, Nat.le_of_ble_eq_true rfl⟩) rfl rfl rfl (Nat.le_of_ble_eq_true rfl) dX3_assign_54 ⟨Nat.le_of_ble_eq_true rfl, Nat.le_of_ble_eq_true rfl⟩ (fun rv12 wv12 hp12 => ?_)
      obtain ⟨rfl, rfl⟩ := hp12
      refine g_w (ws' := (wM cI cZ q nc nw cx cy ch rm on wx wy dm sv fv hd lf la mg pt bd tk ho ri lo (fil nc (fus rm sv dm nw) us) (upd P i 0) (upd Bs i (nI nc)) ld R2 mS mD th)) rfl ?_
      refine g_iast C 18 0 rfl rfl (6 * v + i) rfl (by omega) (by decide) (wM cI cZ q nc nw cx cy ch rm on wx wy dm sv fv hd lf la mg pt bd tk ho ri lo (fil nc (fus rm sv dm nw) us) (upd P i 0) (upd Bs i (nI nc)) ld (upd R2 (6 * v + i) (fqu cx cy ch on wx wy (fil nc (fus rm sv dm nw) us) nc i v)) mS mD th) rfl dX3_assign_57 ?_
      refine g_iinc C (nI (v + 1)) [some (.ref (q 0)), some (.int (nI i)), some (.int (nI (v + 1))), none, none, none, none, none] dX3_assign_58 rfl (nI_1 v) (by decide) rfl rfl ?_
      refine g_goto C 33 dX3_assign_61 (by decide) ?_
      exact ih3 (v + 1) (upd R2 (6 * v + i) (fqu cx cy ch on wx wy (fil nc (fus rm sv dm nw) us) nc i v)) ⟨by omega, fun w c hw => by rw [upd_ne (by omega)]; exact k2 w c hw, fun c hc => (Decidable.em (c = v)).elim (fun q9 => by rw [q9]; exact upd_at) (fun q9 => by rw [upd_ne (by omega)]; exact k3 c (by omega))⟩ (by omega)
theorem iX3_mostServed_X3 : ∀ w ∈ u_ws RX3 TX3 30, w ∈ wsX3_mostServed := by decide +kernel
set_option maxHeartbeats 1000000 in
set_option maxRecDepth 100000 in
theorem t_X3_mostServed {l : Launch} {D : va_G} {cI cZ cJ cG cW : ClassId} {q : Nat → Nat} {nc nw : Nat} {cx cy ch rm on wx wy dm sv fv hd lf la : Nat → Int32} {mg pt bd tk ho ri lo : Int32} {us gv bs ld qs : Nat → Int32} {mS mD th : Int32}  (h5 : nc ≤ 5) (h6 : nw ≤ 6) (hr : ∀ c, c < nc → ¬ rm c ≤ 0) (hg : ∀ c w, c < nc → w < nw → ¬ dsq (cx c) (cy c) (wx w) (wy w) = 0) (hQ : GQ nc nw cx cy ch on wx wy rm dm) (hN9 : NXT nc nw) : CtI l yX3_mostServed wsX3_mostServed 4 92 0 0 D (T5 cI cZ cJ cG cW) [.ref (q 0)] (wM cI cZ q nc nw cx cy ch rm on wx wy dm sv fv hd lf la mg pt bd tk ho ri lo us gv bs ld qs mS mD th) (fun rv wv => ∃ (gw L Qs : Nat → Int32), rv = (fas on rm dm bd (fqu cx cy ch on wx wy (fil nc (fus rm sv dm nw) us) nc) nc nw (fil nw (fun _ => nI nc) bs) ((nc + 1) ^ nw)).1 ∧ wv = (wM cI cZ q nc nw cx cy ch rm on wx wy dm sv fv hd lf la mg pt bd tk ho ri lo (fil nc (fus rm sv dm nw) us) gw ((fas on rm dm bd (fqu cx cy ch on wx wy (fil nc (fus rm sv dm nw) us) nc) nc nw (fil nw (fun _ => nI nc) bs) ((nc + 1) ^ nw)).2.2.2) L Qs ((fas on rm dm bd (fqu cx cy ch on wx wy (fil nc (fus rm sv dm nw) us) nc) nc nw (fil nw (fun _ => nI nc) bs) ((nc + 1) ^ nw)).1) ((fas on rm dm bd (fqu cx cy ch on wx wy (fil nc (fus rm sv dm nw) us) nc) nc nw (fil nw (fun _ => nI nc) bs) ((nc + 1) ^ nw)).2.2.1) 0)) := by
  refine ctI_of (cc := cX3_mostServed) (maxL := 1) RX3 0 [some (.ref (q 0))] (by decide +kernel) rfl rfl (Nat.le_of_ble_eq_true rfl) rfl (fun p_ e_ s_ m_ as_ bl_ me_ co_ C hret => ?_)
  have f75 := C.ts (.fieldLink RX3 75 "CellPlannerModel" "thrown" "I") (by decide +kernel)
  have f148 := C.ts (.fieldLink RX3 148 "CellPlannerModel" "mostServed" "I") (by decide +kernel)
  refine g_aload_n C dX3_mostServed_0 rfl ?_
  refine g_iconst C 0 dX3_mostServed_1 (by decide +kernel) ?_
  refine g_put C 0 iX3_mostServed_X3 rfl rfl 29 (by decide) f75 rfl tyX3 tyX3_ok nmX3 (ty := .int) (by decide +kernel) rfl rfl (Nat.le_of_ble_eq_true rfl) (wM cI cZ q nc nw cx cy ch rm on wx wy dm sv fv hd lf la mg pt bd tk ho ri lo us gv bs ld qs mS mD 0) rfl dX3_mostServed_2 ?_
  refine g_aload_n C dX3_mostServed_5 rfl ?_
  refine g_callVv C [] (wM cI cZ q nc nw cx cy ch rm on wx wy dm sv fv hd lf la mg pt bd tk ho ri lo us gv bs ld qs mS mD 0) [] (t_X3_assign h5 h6 hr hg hQ hN9) rfl rfl (cwV 0 C.ts gX3_mostServed_X3_assign rfl rfl rfl (by decide +kernel) ⟨Nat.le_of_ble_eq_true rfl, Nat.le_of_ble_eq_true rfl⟩) rfl rfl rfl (Nat.le_of_ble_eq_true rfl) dX3_mostServed_6 ⟨Nat.le_of_ble_eq_true rfl, Nat.le_of_ble_eq_true rfl⟩ (fun wv1 tv1 hp1 => ?_)
  obtain ⟨gw, L, Qs, rfl, rfl⟩ := hp1
  refine g_w (ws' := (wM cI cZ q nc nw cx cy ch rm on wx wy dm sv fv hd lf la mg pt bd tk ho ri lo (fil nc (fus rm sv dm nw) us) gw ((fas on rm dm bd (fqu cx cy ch on wx wy (fil nc (fus rm sv dm nw) us) nc) nc nw (fil nw (fun _ => nI nc) bs) ((nc + 1) ^ nw)).2.2.2) L Qs ((fas on rm dm bd (fqu cx cy ch on wx wy (fil nc (fus rm sv dm nw) us) nc) nc nw (fil nw (fun _ => nI nc) bs) ((nc + 1) ^ nw)).1) ((fas on rm dm bd (fqu cx cy ch on wx wy (fil nc (fus rm sv dm nw) us) nc) nc nw (fil nw (fun _ => nI nc) bs) ((nc + 1) ^ nw)).2.2.1) 0)) rfl ?_
  refine g_aload_n C dX3_mostServed_9 rfl ?_
  refine g_get C 0 iX3_mostServed_X3 rfl rfl 27 (by decide) f148 rfl dX3_mostServed_10 ?_
  exact g_iret C hret dX3_mostServed_13 (Nat.le_of_ble_eq_true rfl) (Nat.le_of_ble_eq_true rfl) ⟨_, _, _, rfl, rfl⟩
theorem iX3_mostDemand_X3 : ∀ w ∈ u_ws RX3 TX3 30, w ∈ wsX3_mostDemand := by decide +kernel
set_option maxHeartbeats 1000000 in
set_option maxRecDepth 100000 in
theorem t_X3_mostDemand {l : Launch} {D : va_G} {cI cZ cJ cG cW : ClassId} {q : Nat → Nat} {nc nw : Nat} {cx cy ch rm on wx wy dm sv fv hd lf la : Nat → Int32} {mg pt bd tk ho ri lo : Int32} {us gv bs ld qs : Nat → Int32} {mS mD th : Int32}  (h5 : nc ≤ 5) (h6 : nw ≤ 6) (hr : ∀ c, c < nc → ¬ rm c ≤ 0) (hg : ∀ c w, c < nc → w < nw → ¬ dsq (cx c) (cy c) (wx w) (wy w) = 0) (hQ : GQ nc nw cx cy ch on wx wy rm dm) (hN9 : NXT nc nw) : CtI l yX3_mostDemand wsX3_mostDemand 4 92 0 0 D (T5 cI cZ cJ cG cW) [.ref (q 0)] (wM cI cZ q nc nw cx cy ch rm on wx wy dm sv fv hd lf la mg pt bd tk ho ri lo us gv bs ld qs mS mD th) (fun rv wv => ∃ (gw L Qs : Nat → Int32), rv = (fas on rm dm bd (fqu cx cy ch on wx wy (fil nc (fus rm sv dm nw) us) nc) nc nw (fil nw (fun _ => nI nc) bs) ((nc + 1) ^ nw)).2.2.1 ∧ wv = (wM cI cZ q nc nw cx cy ch rm on wx wy dm sv fv hd lf la mg pt bd tk ho ri lo (fil nc (fus rm sv dm nw) us) gw ((fas on rm dm bd (fqu cx cy ch on wx wy (fil nc (fus rm sv dm nw) us) nc) nc nw (fil nw (fun _ => nI nc) bs) ((nc + 1) ^ nw)).2.2.2) L Qs ((fas on rm dm bd (fqu cx cy ch on wx wy (fil nc (fus rm sv dm nw) us) nc) nc nw (fil nw (fun _ => nI nc) bs) ((nc + 1) ^ nw)).1) ((fas on rm dm bd (fqu cx cy ch on wx wy (fil nc (fus rm sv dm nw) us) nc) nc nw (fil nw (fun _ => nI nc) bs) ((nc + 1) ^ nw)).2.2.1) 0)) := by
  refine ctI_of (cc := cX3_mostDemand) (maxL := 1) RX3 0 [some (.ref (q 0))] (by decide +kernel) rfl rfl (Nat.le_of_ble_eq_true rfl) rfl (fun p_ e_ s_ m_ as_ bl_ me_ co_ C hret => ?_)
  have f75 := C.ts (.fieldLink RX3 75 "CellPlannerModel" "thrown" "I") (by decide +kernel)
  have f151 := C.ts (.fieldLink RX3 151 "CellPlannerModel" "mostDemand" "I") (by decide +kernel)
  refine g_aload_n C dX3_mostDemand_0 rfl ?_
  refine g_iconst C 0 dX3_mostDemand_1 (by decide +kernel) ?_
  refine g_put C 0 iX3_mostDemand_X3 rfl rfl 29 (by decide) f75 rfl tyX3 tyX3_ok nmX3 (ty := .int) (by decide +kernel) rfl rfl (Nat.le_of_ble_eq_true rfl) (wM cI cZ q nc nw cx cy ch rm on wx wy dm sv fv hd lf la mg pt bd tk ho ri lo us gv bs ld qs mS mD 0) rfl dX3_mostDemand_2 ?_
  refine g_aload_n C dX3_mostDemand_5 rfl ?_
  refine g_callVv C [] (wM cI cZ q nc nw cx cy ch rm on wx wy dm sv fv hd lf la mg pt bd tk ho ri lo us gv bs ld qs mS mD 0) [] (t_X3_assign h5 h6 hr hg hQ hN9) rfl rfl (cwV 0 C.ts gX3_mostDemand_X3_assign rfl rfl rfl (by decide +kernel) ⟨Nat.le_of_ble_eq_true rfl, Nat.le_of_ble_eq_true rfl⟩) rfl rfl rfl (Nat.le_of_ble_eq_true rfl) dX3_mostDemand_6 ⟨Nat.le_of_ble_eq_true rfl, Nat.le_of_ble_eq_true rfl⟩ (fun wv1 tv1 hp1 => ?_)
  obtain ⟨gw, L, Qs, rfl, rfl⟩ := hp1
  refine g_w (ws' := (wM cI cZ q nc nw cx cy ch rm on wx wy dm sv fv hd lf la mg pt bd tk ho ri lo (fil nc (fus rm sv dm nw) us) gw ((fas on rm dm bd (fqu cx cy ch on wx wy (fil nc (fus rm sv dm nw) us) nc) nc nw (fil nw (fun _ => nI nc) bs) ((nc + 1) ^ nw)).2.2.2) L Qs ((fas on rm dm bd (fqu cx cy ch on wx wy (fil nc (fus rm sv dm nw) us) nc) nc nw (fil nw (fun _ => nI nc) bs) ((nc + 1) ^ nw)).1) ((fas on rm dm bd (fqu cx cy ch on wx wy (fil nc (fus rm sv dm nw) us) nc) nc nw (fil nw (fun _ => nI nc) bs) ((nc + 1) ^ nw)).2.2.1) 0)) rfl ?_
  refine g_aload_n C dX3_mostDemand_9 rfl ?_
  refine g_get C 0 iX3_mostDemand_X3 rfl rfl 28 (by decide) f151 rfl dX3_mostDemand_10 ?_
  exact g_iret C hret dX3_mostDemand_13 (Nat.le_of_ble_eq_true rfl) (Nat.le_of_ble_eq_true rfl) ⟨_, _, _, rfl, rfl⟩
theorem iX3_bestCell_X3 : ∀ w ∈ u_ws RX3 TX3 30, w ∈ wsX3_bestCell := by decide +kernel
set_option maxHeartbeats 1000000 in
set_option maxRecDepth 100000 in
theorem t_X3_bestCell {l : Launch} {D : va_G} {cI cZ cJ cG cW : ClassId} {q : Nat → Nat} {nc nw : Nat} {cx cy ch rm on wx wy dm sv fv hd lf la : Nat → Int32} {mg pt bd tk ho ri lo : Int32} {us gv bs ld qs : Nat → Int32} {mS mD th : Int32} {p1 : Int32} (h5 : nc ≤ 5) (h6 : nw ≤ 6) (hr : ∀ c, c < nc → ¬ rm c ≤ 0) (hg : ∀ c w, c < nc → w < nw → ¬ dsq (cx c) (cy c) (wx w) (wy w) = 0) (hQ : GQ nc nw cx cy ch on wx wy rm dm) (hN9 : NXT nc nw) : CtI l yX3_bestCell wsX3_bestCell 4 92 0 0 D (T5 cI cZ cJ cG cW) [.ref (q 0), .int p1] (wM cI cZ q nc nw cx cy ch rm on wx wy dm sv fv hd lf la mg pt bd tk ho ri lo us gv bs ld qs mS mD th) (fun rv wv => (IC nw p1 ∧ ∃ (gw L Qs : Nat → Int32), rv = (if nI nc ≤ (fas on rm dm bd (fqu cx cy ch on wx wy (fil nc (fus rm sv dm nw) us) nc) nc nw (fil nw (fun _ => nI nc) bs) ((nc + 1) ^ nw)).2.2.2 p1.toNatClampNeg then -1 else (fas on rm dm bd (fqu cx cy ch on wx wy (fil nc (fus rm sv dm nw) us) nc) nc nw (fil nw (fun _ => nI nc) bs) ((nc + 1) ^ nw)).2.2.2 p1.toNatClampNeg) ∧ wv = (wM cI cZ q nc nw cx cy ch rm on wx wy dm sv fv hd lf la mg pt bd tk ho ri lo (fil nc (fus rm sv dm nw) us) gw ((fas on rm dm bd (fqu cx cy ch on wx wy (fil nc (fus rm sv dm nw) us) nc) nc nw (fil nw (fun _ => nI nc) bs) ((nc + 1) ^ nw)).2.2.2) L Qs ((fas on rm dm bd (fqu cx cy ch on wx wy (fil nc (fus rm sv dm nw) us) nc) nc nw (fil nw (fun _ => nI nc) bs) ((nc + 1) ^ nw)).1) ((fas on rm dm bd (fqu cx cy ch on wx wy (fil nc (fus rm sv dm nw) us) nc) nc nw (fil nw (fun _ => nI nc) bs) ((nc + 1) ^ nw)).2.2.1) 0)) ∨ (¬ IC nw p1 ∧ wv = (wM cI cZ q nc nw cx cy ch rm on wx wy dm sv fv hd lf la mg pt bd tk ho ri lo us gv bs ld qs mS mD 1))) := by
  refine ctI_of (cc := cX3_bestCell) (maxL := 2) RX3 0 [some (.ref (q 0)), some (.int p1)] (by decide +kernel) rfl rfl (Nat.le_of_ble_eq_true rfl) rfl (fun p_ e_ s_ m_ as_ bl_ me_ co_ C hret => ?_)
  have f66 := C.ts (.fieldLink RX3 66 "CellPlannerModel" "best" "[I") (by decide +kernel)
  have f78 := C.ts (.fieldLink RX3 78 "CellPlannerModel" "cells" "I") (by decide +kernel)
  refine g_aload_n C dX3_bestCell_0 rfl ?_
  refine g_aload_n C dX3_bestCell_1 rfl ?_
  refine g_iload_n C dX3_bestCell_2 rfl ?_
  refine g_callVi C [] (wM cI cZ q nc nw cx cy ch rm on wx wy dm sv fv hd lf la mg pt bd tk ho ri lo us gv bs ld qs mS mD th) [.int p1] t_X3_isWalker rfl rfl (cwV 1 C.ts gX3_bestCell_X3_isWalker rfl rfl rfl (by decide +kernel) ⟨Nat.le_of_ble_eq_true rfl, Nat.le_of_ble_eq_true rfl⟩) rfl rfl rfl (Nat.le_of_ble_eq_true rfl) dX3_bestCell_3 ⟨Nat.le_of_ble_eq_true rfl, Nat.le_of_ble_eq_true rfl⟩ (fun rv1 wv1 hp1 => ?_)
  obtain ⟨rfl, rfl⟩ := hp1
  refine g_w (ws' := (wM cI cZ q nc nw cx cy ch rm on wx wy dm sv fv hd lf la mg pt bd tk ho ri lo us gv bs ld qs mS mD th)) rfl ?_
  refine g_callVi C [] (wM cI cZ q nc nw cx cy ch rm on wx wy dm sv fv hd lf la mg pt bd tk ho ri lo us gv bs ld qs mS mD th) [.int (bz (icb nw p1))] t_X3_may rfl rfl (cwV 1 C.ts gX3_bestCell_X3_may rfl rfl rfl (by decide +kernel) ⟨Nat.le_of_ble_eq_true rfl, Nat.le_of_ble_eq_true rfl⟩) rfl rfl rfl (Nat.le_of_ble_eq_true rfl) dX3_bestCell_6 ⟨Nat.le_of_ble_eq_true rfl, Nat.le_of_ble_eq_true rfl⟩ (fun rv2 wv2 hp2 => ?_)
  obtain ⟨rfl, rfl⟩ := hp2
  refine g_w (ws' := (wM cI cZ q nc nw cx cy ch rm on wx wy dm sv fv hd lf la mg pt bd tk ho ri lo us gv bs ld qs mS mD (mth (icb nw p1)))) rfl ?_
  refine g_if_ne C 14 dX3_bestCell_9 (by decide) (fun c_9 => ?_) (fun c_9 => ?_)
  · skip
    have hth : mth (icb nw p1) = 0 := mth_0 c_9
    obtain ⟨kc, hlkc, rfl⟩ := icb_yes (by omega) (bz_1 c_9)
    have hkl : (nI kc).toNatClampNeg = kc := nI_clamp (by omega)
    refine g_w (ws' := (wM cI cZ q nc nw cx cy ch rm on wx wy dm sv fv hd lf la mg pt bd tk ho ri lo us gv bs ld qs mS mD 0)) (by rw [hth]) ?_
    refine g_aload_n C dX3_bestCell_14 rfl ?_
    refine g_callVv C [] (wM cI cZ q nc nw cx cy ch rm on wx wy dm sv fv hd lf la mg pt bd tk ho ri lo us gv bs ld qs mS mD 0) [] (t_X3_assign h5 h6 hr hg hQ hN9) rfl rfl (cwV 0 C.ts gX3_bestCell_X3_assign rfl rfl rfl (by decide +kernel) ⟨Nat.le_of_ble_eq_true rfl, Nat.le_of_ble_eq_true rfl⟩) rfl rfl rfl (Nat.le_of_ble_eq_true rfl) dX3_bestCell_15 ⟨Nat.le_of_ble_eq_true rfl, Nat.le_of_ble_eq_true rfl⟩ (fun wv3 tv3 hp3 => ?_)
    obtain ⟨gw, L, Qs, rfl, rfl⟩ := hp3
    refine g_w (ws' := (wM cI cZ q nc nw cx cy ch rm on wx wy dm sv fv hd lf la mg pt bd tk ho ri lo (fil nc (fus rm sv dm nw) us) gw ((fas on rm dm bd (fqu cx cy ch on wx wy (fil nc (fus rm sv dm nw) us) nc) nc nw (fil nw (fun _ => nI nc) bs) ((nc + 1) ^ nw)).2.2.2) L Qs ((fas on rm dm bd (fqu cx cy ch on wx wy (fil nc (fus rm sv dm nw) us) nc) nc nw (fil nw (fun _ => nI nc) bs) ((nc + 1) ^ nw)).1) ((fas on rm dm bd (fqu cx cy ch on wx wy (fil nc (fus rm sv dm nw) us) nc) nc nw (fil nw (fun _ => nI nc) bs) ((nc + 1) ^ nw)).2.2.1) 0)) rfl ?_
    refine g_aload_n C dX3_bestCell_18 rfl ?_
    refine g_get C 0 iX3_bestCell_X3 rfl rfl 24 (by decide) f66 rfl dX3_bestCell_19 ?_
    refine g_iload_n C dX3_bestCell_22 rfl ?_
    refine g_iald C 16 0 rfl rfl kc rfl (by omega) (by decide) (((fas on rm dm bd (fqu cx cy ch on wx wy (fil nc (fus rm sv dm nw) us) nc) nc nw (fil nw (fun _ => nI nc) bs) ((nc + 1) ^ nw)).2.2.2) kc) rfl dX3_bestCell_23 ?_
    refine g_aload_n C dX3_bestCell_24 rfl ?_
    refine g_get C 0 iX3_bestCell_X3 rfl rfl 0 (by decide) f78 rfl dX3_bestCell_25 ?_
    refine g_icmp_ge C 40 dX3_bestCell_28 (by decide) (fun c_28 => ?_) (fun c_28 => ?_)
    · skip
      refine g_iconst C (-1) dX3_bestCell_40 (by decide +kernel) ?_
      exact g_iret C hret dX3_bestCell_41 (Nat.le_of_ble_eq_true rfl) (Nat.le_of_ble_eq_true rfl) (Or.inl ⟨⟨kc, hlkc, rfl⟩, _, _, _, by rw [hkl]; first | exact (if_pos c_28).symm | exact (if_neg c_28).symm, rfl⟩)
    · skip
      refine g_aload_n C dX3_bestCell_31 rfl ?_
      refine g_get C 0 iX3_bestCell_X3 rfl rfl 24 (by decide) f66 rfl dX3_bestCell_32 ?_
      refine g_iload_n C dX3_bestCell_35 rfl ?_
      refine g_iald C 16 0 rfl rfl kc rfl (by omega) (by decide) (((fas on rm dm bd (fqu cx cy ch on wx wy (fil nc (fus rm sv dm nw) us) nc) nc nw (fil nw (fun _ => nI nc) bs) ((nc + 1) ^ nw)).2.2.2) kc) rfl dX3_bestCell_36 ?_
      refine g_goto C 41 dX3_bestCell_37 (by decide) ?_
      exact g_iret C hret dX3_bestCell_41 (Nat.le_of_ble_eq_true rfl) (Nat.le_of_ble_eq_true rfl) (Or.inl ⟨⟨kc, hlkc, rfl⟩, _, _, _, by rw [hkl]; first | exact (if_pos c_28).symm | exact (if_neg c_28).symm, rfl⟩)
  · skip
    have hno : ¬ IC nw p1 := icb_no (by omega) (bz_0 c_9)
    refine g_w (ws' := (wM cI cZ q nc nw cx cy ch rm on wx wy dm sv fv hd lf la mg pt bd tk ho ri lo us gv bs ld qs mS mD 1)) (by rw [mth_1 c_9]) ?_
    refine g_iconst C 0 dX3_bestCell_12 (by decide +kernel) ?_
    exact g_iret C hret dX3_bestCell_13 (Nat.le_of_ble_eq_true rfl) (Nat.le_of_ble_eq_true rfl) (Or.inr ⟨hno, rfl⟩)
