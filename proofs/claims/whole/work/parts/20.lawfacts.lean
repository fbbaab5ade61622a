/-! the law: its own rows, and what holds between its calls -/
section LR
variable {p : Program} {l : Launch} {e : Env} {R : Room} {s : State} {m : MethodId} {args : Array Value} {below : List Frame} {meth : Method} {c : Code} {Q : State → Prop} {k n : Nat}
variable {cc : ByteArray} {own : String} {Ts : List Cond} {D : va_G} {tys : List (ClassId × FieldType)} {A : Nat → Prop} {nL : Nat} {ws : va_W} {lv : List (Option Value)} {pc : Nat} {st : List Value}
def SCR (A : Nat → Prop) (s : State) (b L : Nat) (xs : Nat → Int32) : Prop := va_X b L xs s s.heap ∧ b < s.heap.size ∧ ¬ A b ∧ L ≤ 2560
theorem g_sld (C : CX p s m args meth c cc own Ts D tys A nL) {b L : Nat} {xs : Nat → Int32} (hX : SCR A s b L xs) {i : Int32} (j : Nat) (hi : i = nI j) (hj : j < L) (hdg : decode cc pc = .ok (.iaload, 1)) (kk : G p l e R s m args below meth c D A nL Q k n ws lv (pc + 1) (.int (xs j) :: st)) : G p l e R s m args below meth c D A nL Q k n ws lv pc (.int i :: .ref b :: st) :=
  fun H locs ls hP hD hS hl => va_sld C.1 C.2.1 hX.1 hX.2.1 hX.2.2.1 hS (vin hi hj (Nat.lt_of_le_of_lt hX.2.2.2 (by decide))) hdg (by rw [vcl hi hj (Nat.lt_of_le_of_lt hX.2.2.2 (by decide))]; exact kk H locs ls hP hD hS hl)
theorem g_slen (C : CX p s m args meth c cc own Ts D tys A nL) {b L : Nat} {xs : Nat → Int32} (hX : SCR A s b L xs) (hdg : decode cc pc = .ok (.arraylength, 1)) (kk : G p l e R s m args below meth c D A nL Q k n ws lv (pc + 1) (.int (nI L) :: st)) : G p l e R s m args below meth c D A nL Q k n ws lv pc (.ref b :: st) :=
  fun H locs ls hP hD hS hl => va_slen C.1 C.2.1 hX.1 hX.2.1 hX.2.2.1 hS hdg (kk H locs ls hP hD hS hl)
theorem g_tabI (C : CX p s m args meth c cc own Ts D tys A nL) {dflt lo hi : Int} {offs : Array Int} {len : Nat} {x : Int32} {off : Int} (tgt : Nat) (hdg : decode cc pc = .ok (.tableswitch dflt lo hi offs, len)) (h1 : ¬ x.toInt < lo) (h2 : ¬ hi < x.toInt) (ho : offs[(x.toInt - lo).toNat]? = some off) (ht : (pc : Int) + off = (tgt : Int)) (kk : G p l e R s m args below meth c D A nL Q k n ws lv tgt st) : G p l e R s m args below meth c D A nL Q k n ws lv pc (.int x :: st) :=
  fun H locs ls hP hD hS hl => lv_tableIn C.1 C.2.1 hdg h1 h2 ho ht (kk H locs ls hP hD hS hl)
theorem g_tabO (C : CX p s m args meth c cc own Ts D tys A nL) {dflt lo hi : Int} {offs : Array Int} {len : Nat} {x : Int32} (tgt : Nat) (hdg : decode cc pc = .ok (.tableswitch dflt lo hi offs, len)) (h : x.toInt < lo ∨ hi < x.toInt) (ht : (pc : Int) + dflt = (tgt : Int)) (kk : G p l e R s m args below meth c D A nL Q k n ws lv tgt st) : G p l e R s m args below meth c D A nL Q k n ws lv pc (.int x :: st) :=
  fun H locs ls hP hD hS hl => lv_tableOut C.1 C.2.1 hdg h ht (kk H locs ls hP hD hS hl)
end LR
theorem lc_eq {x y : Int32} (h : x = y) : lg_cmp (Int32.toInt64 x) (Int32.toInt64 y) = 0 := by
  subst h
  exact (lg_cmp_eq _ _).mpr rfl
theorem rm_ok {k n a b : Nat} (h : k + 10 ≤ 669564 ∧ n + 60 ≤ 7087412) (ha : a ≤ 10) (hb : b ≤ 60) : k + a ≤ room_1.cells ∧ n + b ≤ room_1.slots := ⟨by show k + a ≤ 669564; omega, by show n + b ≤ 7087412; omega⟩
theorem rm_0 {k n : Nat} (h : k + 10 ≤ 669564 ∧ n + 60 ≤ 7087412) : k + 10 + 0 ≤ room_1.cells ∧ n + 60 + 0 ≤ room_1.slots := h
theorem IC_lt {n : Nat} {x : Int32} (hn : n < 2 ^ 31) (h : IC n x) : x.toNatClampNeg < n := by
  obtain ⟨k, hk, rfl⟩ := h
  rw [nI_clamp (by omega)]
  exact hk
section IN
variable {nc nw : Nat} {cx cy ch rm wx wy dm sv : Nat → Int32}
theorem SV_mono {a b : Nat} {x : Int32} (h : a ≤ b) (q : SV a x) : SV b x := q.imp id (fun ⟨k, hk, e⟩ => ⟨k, by omega, e⟩)
theorem INV_cell (h : INV nc nw cx cy ch rm wx wy dm sv) {p1 p2 p3 p4 : Int32} (hp : inC p1 p2 p3 p4 ∧ nc < 5) : INV (nc + 1) nw (upd cx nc p1) (upd cy nc p2) (upd ch nc p3) (upd rm nc p4) wx wy dm sv := by
  refine ⟨by omega, h.2.1, fun c hc => ?_, h.2.2.2.1, fun j hj => SV_mono (by omega) (h.2.2.2.2 j hj)⟩
  by_cases q : c = nc
  · subst q
    rw [upd_at, upd_at, upd_at, upd_at]
    exact hp.1
  · rw [upd_ne q, upd_ne q, upd_ne q, upd_ne q]
    exact h.2.2.1 c (by omega)
theorem INV_walker (h : INV nc nw cx cy ch rm wx wy dm sv) {p1 p2 p3 : Int32} (hp : inW p1 p2 p3 ∧ nw < 6) : INV nc (nw + 1) cx cy ch rm (upd wx nw p1) (upd wy nw p2) (upd dm nw p3) (upd sv nw (-1)) := by
  refine ⟨h.1, by omega, h.2.2.1, fun w hw => ?_, fun j hj => ?_⟩
  · by_cases q : w = nw
    · subst q
      rw [upd_at, upd_at, upd_at]
      exact hp.1
    · rw [upd_ne q, upd_ne q, upd_ne q]
      exact h.2.2.2.1 w (by omega)
  · by_cases q : j = nw
    · subst q
      rw [upd_at]
      exact Or.inl rfl
    · rw [upd_ne q]
      exact h.2.2.2.2 j (by omega)
theorem INV_tune (h : INV nc nw cx cy ch rm wx wy dm sv) {p1 p2 : Int32} (hp : IC nc p1 ∧ (0 ≤ p2 ∧ p2 ≤ 2)) : INV nc nw cx cy (upd ch p1.toNatClampNeg p2) rm wx wy dm sv := by
  refine ⟨h.1, h.2.1, fun c hc => ?_, h.2.2.2.1, h.2.2.2.2⟩
  have h1 := h.2.2.1 c hc
  by_cases q : c = p1.toNatClampNeg
  · subst q
    rw [upd_at]
    exact ⟨h1.1, h1.2.1, hp.2, h1.2.2.2⟩
  · rw [upd_ne q]
    exact h1
theorem rng_32 {x : Int64} (h : rng x 0 63) : 0 ≤ x.toInt32 ∧ x.toInt32 ≤ 63 := by
  have h1 := Int64.le_iff_toInt_le.mp h.1
  have h2 := Int64.le_iff_toInt_le.mp h.2
  rw [Int32.toInt_toInt64, show (0 : Int32).toInt = 0 from rfl] at h1
  rw [Int32.toInt_toInt64, show (63 : Int32).toInt = 63 from rfl] at h2
  have h3 : x.toInt32.toInt = x.toInt := by rw [Int64.toInt_toInt32, bm_id (by omega) (by omega)]
  refine ⟨Int32.le_iff_toInt_le.mpr ?_, Int32.le_iff_toInt_le.mpr ?_⟩
  · rw [h3, show (0 : Int32).toInt = 0 from rfl]; exact h1
  · rw [h3, show (63 : Int32).toInt = 63 from rfl]; exact h2
theorem INV_move (h : INV nc nw cx cy ch rm wx wy dm sv) {p1 : Int32} {x y : Int64} (hx : rng x 0 63) (hy : rng y 0 63) : INV nc nw cx cy ch rm (upd wx p1.toNatClampNeg x.toInt32) (upd wy p1.toNatClampNeg y.toInt32) dm sv := by
  refine ⟨h.1, h.2.1, h.2.2.1, fun w hw => ?_, h.2.2.2.2⟩
  have h1 := h.2.2.2.1 w hw
  by_cases q : w = p1.toNatClampNeg
  · subst q
    rw [upd_at, upd_at]
    exact ⟨rng_32 hx, rng_32 hy, h1.2.2⟩
  · rw [upd_ne q, upd_ne q]
    exact h1
theorem INV_sv (h : INV nc nw cx cy ch rm wx wy dm sv) {sv' : Nat → Int32} (hs : ∀ j, j < nw → SV nc (sv' j)) : INV nc nw cx cy ch rm wx wy dm sv' := ⟨h.1, h.2.1, h.2.2.1, h.2.2.2.1, hs⟩
theorem frw_sv {c : Int32} {z : (Nat → Int32) × (Nat → Int32) × (Nat → Int32)} {P : Nat → Prop} (h : ∀ j, P j → SV nc (z.1 j)) : ∀ n : Nat, ∀ j, P j → SV nc ((frw c z n).1 j)
  | 0 => h
  | n + 1 => by
    have ih := frw_sv (c := c) h n
    unfold frw
    split
    · exact SV_upd ih (Or.inl rfl)
    · exact ih
theorem INV_turn (h : INV nc nw cx cy ch rm wx wy dm sv) {p1 x : Int32} {fv hd : Nat → Int32} : INV nc nw cx cy ch rm wx wy dm ((if x = 0 then (sv, fv, hd) else frw p1 (sv, fv, hd) nw).1) := by
  refine INV_sv h (fun j hj => ?_)
  split
  · exact h.2.2.2.2 j hj
  · exact frw_sv (z := (sv, fv, hd)) (P := fun j => j < nw) h.2.2.2.2 nw j hj
theorem INV.QB (h : INV nc nw cx cy ch rm wx wy dm sv) (on us : Nat → Int32) : QB nc nw rm dm (fqu cx cy ch on wx wy (fil nc (fus rm sv dm nw) us) nc) := ⟨h.1, h.2.1, fun c hc => tB_of (h.2.2.1 c hc).2.2.2, h.idm, fun _ _ hu hc => h.iqu (h.ifil sv us) hc hu⟩
theorem QF_eq {on mu us : Nat → Int32} {qq : Nat → Nat → Int32} : ∀ u c, u < nw → c < nc → fil2 nw nc (fun w c => fqu cx cy ch on wx wy (fil nc (fus rm sv dm nw) mu) nc w c) qq u c = fqu cx cy ch on wx wy (fil nc (fus rm sv dm nw) us) nc u c := fun u c hu hc => by
  show (if u < nw ∧ c < nc then _ else _) = _
  rw [if_pos ⟨hu, hc⟩]
  exact fqu_fil
end IN
/-- the law goes on from a place, whatever the state is -/
def LK (p : Program) (l : Launch) (e : Env) (s : State) (m : MethodId) (args : Array Value) (below : List Frame) (meth : Method) (c : Code) (D : va_G) (A : Nat → Prop) (Q : State → Prop) (cI : ClassId) (cZ : ClassId) (cJ : ClassId) (cG : ClassId) (cW : ClassId) (a : Nat → Nat) (b : Nat → Nat) (d : Nat → Nat) (q : Nat → Nat) (r : Nat → Nat) (r2 : Nat → Nat) (o : Nat) (k n : Nat) (lv : List (Option Value)) (pc : Nat) : Prop :=
  ∀ (nc : Nat) (nw : Nat) (cx : Nat → Int32) (cy : Nat → Int32) (ch : Nat → Int32) (rm : Nat → Int32) (on : Nat → Int32) (wx : Nat → Int32) (wy : Nat → Int32) (dm : Nat → Int32) (sv : Nat → Int32) (fv : Nat → Int32) (hd : Nat → Int32) (lf : Nat → Int32) (la : Nat → Int32) (mg : Int32) (pt : Int32) (bd : Int32) (tk : Int32) (ho : Int32) (ri : Int32) (lo : Int32) (hp : Nat → Int32) (rl : Nat → Int32) (cn : Nat → Int32) (be : Nat → Int32) (bw : Int32) (wo : Nat → Nat → Int32) (mu : Nat → Int32) (qq : Nat → Nat → Int32) (ot : Nat → Int64) (us : Nat → Int32) (gv : Nat → Int32) (bs : Nat → Int32) (ld : Nat → Int32) (qs : Nat → Int32) (mS : Int32) (mD : Int32) (th : Int32), INV nc nw cx cy ch rm wx wy dm sv → G p l e room_1 s m args below meth c D A 7 Q k n ((wM cI cZ q nc nw cx cy ch rm on wx wy dm sv fv hd lf la mg pt bd tk ho ri lo us gv bs ld qs mS mD th) ++ (wO cJ o ot ++ ((wCo cI a b d mg pt bd tk ho ri lo fv hd lf la ++ wSo cI cW a b r2 hp rl cn be bw wo) ++ wL cI cZ cG a r nc nw cx cy ch rm on wx wy dm sv mu qq))) lv pc []
