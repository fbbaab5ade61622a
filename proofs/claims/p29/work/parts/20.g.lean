/-! the law's arrays as worlds; rows that the class did not need -/
def cA (nc nw : Nat) (tk ho ri lo mg pt bd : Int32) : Nat → Int32
  | 0 => nI nc
  | 1 => nI nw
  | 2 => tk
  | 3 => ho
  | 4 => ri
  | 5 => lo
  | 6 => mg
  | 7 => pt
  | 8 => bd
  | _ => 0
section UC
variable {nc nw : Nat} {tk ho ri lo mg pt bd : Int32}
theorem uc_0 {z : Nat} : upd (cA nc nw tk ho ri lo mg pt bd) 0 (nI z) = cA z nw tk ho ri lo mg pt bd := by
  funext j
  unfold upd
  by_cases h : j = 0
  · subst h; rfl
  · rw [if_neg h]
    match j, h with
    | 0, h => exact absurd rfl h
    | 1, _ => rfl
    | 2, _ => rfl
    | 3, _ => rfl
    | 4, _ => rfl
    | 5, _ => rfl
    | 6, _ => rfl
    | 7, _ => rfl
    | 8, _ => rfl
    | k + 9, _ => rfl
theorem uc_1 {z : Nat} : upd (cA nc nw tk ho ri lo mg pt bd) 1 (nI z) = cA nc z tk ho ri lo mg pt bd := by
  funext j
  unfold upd
  by_cases h : j = 1
  · subst h; rfl
  · rw [if_neg h]
    match j, h with
    | 0, _ => rfl
    | 1, h => exact absurd rfl h
    | 2, _ => rfl
    | 3, _ => rfl
    | 4, _ => rfl
    | 5, _ => rfl
    | 6, _ => rfl
    | 7, _ => rfl
    | 8, _ => rfl
    | k + 9, _ => rfl
theorem uc_2 {z : Int32} : upd (cA nc nw tk ho ri lo mg pt bd) 2 z = cA nc nw z ho ri lo mg pt bd := by
  funext j
  unfold upd
  by_cases h : j = 2
  · subst h; rfl
  · rw [if_neg h]
    match j, h with
    | 0, _ => rfl
    | 1, _ => rfl
    | 2, h => exact absurd rfl h
    | 3, _ => rfl
    | 4, _ => rfl
    | 5, _ => rfl
    | 6, _ => rfl
    | 7, _ => rfl
    | 8, _ => rfl
    | k + 9, _ => rfl
theorem uc_3 {z : Int32} : upd (cA nc nw tk ho ri lo mg pt bd) 3 z = cA nc nw tk z ri lo mg pt bd := by
  funext j
  unfold upd
  by_cases h : j = 3
  · subst h; rfl
  · rw [if_neg h]
    match j, h with
    | 0, _ => rfl
    | 1, _ => rfl
    | 2, _ => rfl
    | 3, h => exact absurd rfl h
    | 4, _ => rfl
    | 5, _ => rfl
    | 6, _ => rfl
    | 7, _ => rfl
    | 8, _ => rfl
    | k + 9, _ => rfl
theorem uc_4 {z : Int32} : upd (cA nc nw tk ho ri lo mg pt bd) 4 z = cA nc nw tk ho z lo mg pt bd := by
  funext j
  unfold upd
  by_cases h : j = 4
  · subst h; rfl
  · rw [if_neg h]
    match j, h with
    | 0, _ => rfl
    | 1, _ => rfl
    | 2, _ => rfl
    | 3, _ => rfl
    | 4, h => exact absurd rfl h
    | 5, _ => rfl
    | 6, _ => rfl
    | 7, _ => rfl
    | 8, _ => rfl
    | k + 9, _ => rfl
theorem uc_5 {z : Int32} : upd (cA nc nw tk ho ri lo mg pt bd) 5 z = cA nc nw tk ho ri z mg pt bd := by
  funext j
  unfold upd
  by_cases h : j = 5
  · subst h; rfl
  · rw [if_neg h]
    match j, h with
    | 0, _ => rfl
    | 1, _ => rfl
    | 2, _ => rfl
    | 3, _ => rfl
    | 4, _ => rfl
    | 5, h => exact absurd rfl h
    | 6, _ => rfl
    | 7, _ => rfl
    | 8, _ => rfl
    | k + 9, _ => rfl
theorem uc_6 {z : Int32} : upd (cA nc nw tk ho ri lo mg pt bd) 6 z = cA nc nw tk ho ri lo z pt bd := by
  funext j
  unfold upd
  by_cases h : j = 6
  · subst h; rfl
  · rw [if_neg h]
    match j, h with
    | 0, _ => rfl
    | 1, _ => rfl
    | 2, _ => rfl
    | 3, _ => rfl
    | 4, _ => rfl
    | 5, _ => rfl
    | 6, h => exact absurd rfl h
    | 7, _ => rfl
    | 8, _ => rfl
    | k + 9, _ => rfl
theorem uc_7 {z : Int32} : upd (cA nc nw tk ho ri lo mg pt bd) 7 z = cA nc nw tk ho ri lo mg z bd := by
  funext j
  unfold upd
  by_cases h : j = 7
  · subst h; rfl
  · rw [if_neg h]
    match j, h with
    | 0, _ => rfl
    | 1, _ => rfl
    | 2, _ => rfl
    | 3, _ => rfl
    | 4, _ => rfl
    | 5, _ => rfl
    | 6, _ => rfl
    | 7, h => exact absurd rfl h
    | 8, _ => rfl
    | k + 9, _ => rfl
theorem uc_8 {z : Int32} : upd (cA nc nw tk ho ri lo mg pt bd) 8 z = cA nc nw tk ho ri lo mg pt z := by
  funext j
  unfold upd
  by_cases h : j = 8
  · subst h; rfl
  · rw [if_neg h]
    match j, h with
    | 0, _ => rfl
    | 1, _ => rfl
    | 2, _ => rfl
    | 3, _ => rfl
    | 4, _ => rfl
    | 5, _ => rfl
    | 6, _ => rfl
    | 7, _ => rfl
    | 8, h => exact absurd rfl h
    | k + 9, _ => rfl
end UC
theorem cA_0 : (fun _ => 0 : Nat → Int32) = cA 0 0 0 0 0 0 0 0 0 := by
  funext j
  match j with
  | 0 => rfl
  | 1 => rfl
  | 2 => rfl
  | 3 => rfl
  | 4 => rfl
  | 5 => rfl
  | 6 => rfl
  | 7 => rfl
  | 8 => rfl
  | k + 9 => rfl
def gA (cx cy ch rm on : Nat → Int32) : Nat → Int32 := fun i => if i < 4 then cx i else if i < 8 then cy (i - 4) else if i < 12 then ch (i - 8) else if i < 16 then rm (i - 12) else on (i - 16)
section S_gA
variable {cx cy ch rm on : Nat → Int32} {j : Nat} {z : Int32}
theorem gA_0 (h : j < 4) : gA cx cy ch rm on j = cx j := by
  unfold gA
  rw [if_pos (by omega)]
theorem ugA_0 (h : j < 4) : upd (gA cx cy ch rm on) j z = gA (upd cx j z) cy ch rm on := by
  funext i
  simp only [upd, gA]
  by_cases e : i = j
  · subst e
    rw [if_pos rfl]
    repeat' split
    all_goals first | rfl | omega
  · rw [if_neg e]
    repeat' split
    all_goals first | rfl | omega
theorem gA_1 (h : j < 4) : gA cx cy ch rm on (4 + j) = cy j := by
  unfold gA
  rw [if_neg (by omega), if_pos (by omega), show 4 + j - 4 = j by omega]
theorem ugA_1 (h : j < 4) : upd (gA cx cy ch rm on) (4 + j) z = gA cx (upd cy j z) ch rm on := by
  funext i
  simp only [upd, gA]
  by_cases e : i = 4 + j
  · subst e
    rw [if_pos rfl]
    repeat' split
    all_goals first | rfl | omega
  · rw [if_neg e]
    repeat' split
    all_goals first | rfl | omega
theorem gA_2 (h : j < 4) : gA cx cy ch rm on (8 + j) = ch j := by
  unfold gA
  rw [if_neg (by omega), if_neg (by omega), if_pos (by omega), show 8 + j - 8 = j by omega]
theorem ugA_2 (h : j < 4) : upd (gA cx cy ch rm on) (8 + j) z = gA cx cy (upd ch j z) rm on := by
  funext i
  simp only [upd, gA]
  by_cases e : i = 8 + j
  · subst e
    rw [if_pos rfl]
    repeat' split
    all_goals first | rfl | omega
  · rw [if_neg e]
    repeat' split
    all_goals first | rfl | omega
theorem gA_3 (h : j < 4) : gA cx cy ch rm on (12 + j) = rm j := by
  unfold gA
  rw [if_neg (by omega), if_neg (by omega), if_neg (by omega), if_pos (by omega), show 12 + j - 12 = j by omega]
theorem ugA_3 (h : j < 4) : upd (gA cx cy ch rm on) (12 + j) z = gA cx cy ch (upd rm j z) on := by
  funext i
  simp only [upd, gA]
  by_cases e : i = 12 + j
  · subst e
    rw [if_pos rfl]
    repeat' split
    all_goals first | rfl | omega
  · rw [if_neg e]
    repeat' split
    all_goals first | rfl | omega
theorem gA_4 (h : j < 4) : gA cx cy ch rm on (16 + j) = on j := by
  unfold gA
  rw [if_neg (by omega), if_neg (by omega), if_neg (by omega), if_neg (by omega), show 16 + j - 16 = j by omega]
theorem ugA_4 (h : j < 4) : upd (gA cx cy ch rm on) (16 + j) z = gA cx cy ch rm (upd on j z) := by
  funext i
  simp only [upd, gA]
  by_cases e : i = 16 + j
  · subst e
    rw [if_pos rfl]
    repeat' split
    all_goals first | rfl | omega
  · rw [if_neg e]
    repeat' split
    all_goals first | rfl | omega
theorem gA_z : (fun _ => 0 : Nat → Int32) = gA (fun _ => 0) (fun _ => 0) (fun _ => 0) (fun _ => 0) (fun _ => 0) := by
  funext i
  unfold gA
  repeat' split
  all_goals rfl
end S_gA
def hA (wx wy dm sv fv hd lf la : Nat → Int32) : Nat → Int32 := fun i => if i < 4 then wx i else if i < 8 then wy (i - 4) else if i < 12 then dm (i - 8) else if i < 16 then sv (i - 12) else if i < 20 then fv (i - 16) else if i < 24 then hd (i - 20) else if i < 28 then lf (i - 24) else la (i - 28)
section S_hA
variable {wx wy dm sv fv hd lf la : Nat → Int32} {j : Nat} {z : Int32}
theorem hA_0 (h : j < 4) : hA wx wy dm sv fv hd lf la j = wx j := by
  unfold hA
  rw [if_pos (by omega)]
theorem uhA_0 (h : j < 4) : upd (hA wx wy dm sv fv hd lf la) j z = hA (upd wx j z) wy dm sv fv hd lf la := by
  funext i
  simp only [upd, hA]
  by_cases e : i = j
  · subst e
    rw [if_pos rfl]
    repeat' split
    all_goals first | rfl | omega
  · rw [if_neg e]
    repeat' split
    all_goals first | rfl | omega
theorem hA_1 (h : j < 4) : hA wx wy dm sv fv hd lf la (4 + j) = wy j := by
  unfold hA
  rw [if_neg (by omega), if_pos (by omega), show 4 + j - 4 = j by omega]
theorem uhA_1 (h : j < 4) : upd (hA wx wy dm sv fv hd lf la) (4 + j) z = hA wx (upd wy j z) dm sv fv hd lf la := by
  funext i
  simp only [upd, hA]
  by_cases e : i = 4 + j
  · subst e
    rw [if_pos rfl]
    repeat' split
    all_goals first | rfl | omega
  · rw [if_neg e]
    repeat' split
    all_goals first | rfl | omega
theorem hA_2 (h : j < 4) : hA wx wy dm sv fv hd lf la (8 + j) = dm j := by
  unfold hA
  rw [if_neg (by omega), if_neg (by omega), if_pos (by omega), show 8 + j - 8 = j by omega]
theorem uhA_2 (h : j < 4) : upd (hA wx wy dm sv fv hd lf la) (8 + j) z = hA wx wy (upd dm j z) sv fv hd lf la := by
  funext i
  simp only [upd, hA]
  by_cases e : i = 8 + j
  · subst e
    rw [if_pos rfl]
    repeat' split
    all_goals first | rfl | omega
  · rw [if_neg e]
    repeat' split
    all_goals first | rfl | omega
theorem hA_3 (h : j < 4) : hA wx wy dm sv fv hd lf la (12 + j) = sv j := by
  unfold hA
  rw [if_neg (by omega), if_neg (by omega), if_neg (by omega), if_pos (by omega), show 12 + j - 12 = j by omega]
theorem uhA_3 (h : j < 4) : upd (hA wx wy dm sv fv hd lf la) (12 + j) z = hA wx wy dm (upd sv j z) fv hd lf la := by
  funext i
  simp only [upd, hA]
  by_cases e : i = 12 + j
  · subst e
    rw [if_pos rfl]
    repeat' split
    all_goals first | rfl | omega
  · rw [if_neg e]
    repeat' split
    all_goals first | rfl | omega
theorem hA_4 (h : j < 4) : hA wx wy dm sv fv hd lf la (16 + j) = fv j := by
  unfold hA
  rw [if_neg (by omega), if_neg (by omega), if_neg (by omega), if_neg (by omega), if_pos (by omega), show 16 + j - 16 = j by omega]
theorem uhA_4 (h : j < 4) : upd (hA wx wy dm sv fv hd lf la) (16 + j) z = hA wx wy dm sv (upd fv j z) hd lf la := by
  funext i
  simp only [upd, hA]
  by_cases e : i = 16 + j
  · subst e
    rw [if_pos rfl]
    repeat' split
    all_goals first | rfl | omega
  · rw [if_neg e]
    repeat' split
    all_goals first | rfl | omega
theorem hA_5 (h : j < 4) : hA wx wy dm sv fv hd lf la (20 + j) = hd j := by
  unfold hA
  rw [if_neg (by omega), if_neg (by omega), if_neg (by omega), if_neg (by omega), if_neg (by omega), if_pos (by omega), show 20 + j - 20 = j by omega]
theorem uhA_5 (h : j < 4) : upd (hA wx wy dm sv fv hd lf la) (20 + j) z = hA wx wy dm sv fv (upd hd j z) lf la := by
  funext i
  simp only [upd, hA]
  by_cases e : i = 20 + j
  · subst e
    rw [if_pos rfl]
    repeat' split
    all_goals first | rfl | omega
  · rw [if_neg e]
    repeat' split
    all_goals first | rfl | omega
theorem hA_6 (h : j < 4) : hA wx wy dm sv fv hd lf la (24 + j) = lf j := by
  unfold hA
  rw [if_neg (by omega), if_neg (by omega), if_neg (by omega), if_neg (by omega), if_neg (by omega), if_neg (by omega), if_pos (by omega), show 24 + j - 24 = j by omega]
theorem uhA_6 (h : j < 4) : upd (hA wx wy dm sv fv hd lf la) (24 + j) z = hA wx wy dm sv fv hd (upd lf j z) la := by
  funext i
  simp only [upd, hA]
  by_cases e : i = 24 + j
  · subst e
    rw [if_pos rfl]
    repeat' split
    all_goals first | rfl | omega
  · rw [if_neg e]
    repeat' split
    all_goals first | rfl | omega
theorem hA_7 (h : j < 4) : hA wx wy dm sv fv hd lf la (28 + j) = la j := by
  unfold hA
  rw [if_neg (by omega), if_neg (by omega), if_neg (by omega), if_neg (by omega), if_neg (by omega), if_neg (by omega), if_neg (by omega), show 28 + j - 28 = j by omega]
theorem uhA_7 (h : j < 4) : upd (hA wx wy dm sv fv hd lf la) (28 + j) z = hA wx wy dm sv fv hd lf (upd la j z) := by
  funext i
  simp only [upd, hA]
  by_cases e : i = 28 + j
  · subst e
    rw [if_pos rfl]
    repeat' split
    all_goals first | rfl | omega
  · rw [if_neg e]
    repeat' split
    all_goals first | rfl | omega
theorem hA_z : (fun _ => 0 : Nat → Int32) = hA (fun _ => 0) (fun _ => 0) (fun _ => 0) (fun _ => 0) (fun _ => 0) (fun _ => 0) (fun _ => 0) (fun _ => 0) := by
  funext i
  unfold hA
  repeat' split
  all_goals rfl
end S_hA
/-- the law's three arrays -/
def wA (cI : ClassId) (u : Nat → Nat) (nc nw : Nat) (tk ho ri lo mg pt bd : Int32) (cx cy ch rm on wx wy dm sv fv hd lf la : Nat → Int32) : va_W := [(u 0, .inl (cI, 9, .inl (cA nc nw tk ho ri lo mg pt bd))), (u 1, .inl (cI, 20, .inl (gA cx cy ch rm on))), (u 2, .inl (cI, 32, .inl (hA wx wy dm sv fv hd lf la)))]
def wQ (cI : ClassId) (uq : Nat) (qf : Nat → Int32) : va_W := [(uq, .inl (cI, 16, .inl qf))]
def wB (cI : ClassId) (ub un : Nat) (bf nf : Nat → Int32) : va_W := [(ub, .inl (cI, 4, .inl bf)), (un, .inl (cI, 4, .inl nf))]
section LR
variable {p : Program} {l : Launch} {e : Env} {R : Room} {s : State} {m : MethodId} {args : Array Value} {below : List Frame} {meth : Method} {c : Code} {Q : State → Prop} {k n : Nat}
variable {cc : ByteArray} {own : String} {Ts : List Cond} {D : va_G} {tys : List (ClassId × FieldType)} {A : Nat → Prop} {nL : Nat} {ws : va_W} {lv : List (Option Value)} {pc : Nat} {st : List Value}
theorem g_ishr (C : CX p s m args meth c cc own Ts D tys A nL) {x y : Int32} (v : Int32) (hdg : decode cc pc = .ok (.ishr, 1)) (hv : x >>> (y &&& 31) = v) (kk : G p l e R s m args below meth c D A nL Q k n ws lv (pc + 1) (.int v :: st)) : G p l e R s m args below meth c D A nL Q k n ws lv pc (.int y :: .int x :: st) :=
  fun H locs ls hP hD hS hl => lv_ishr C.1 C.2.1 hdg (hv ▸ (kk H locs ls hP hD hS hl))
theorem g_iushr (C : CX p s m args meth c cc own Ts D tys A nL) {x y : Int32} (v : Int32) (hdg : decode cc pc = .ok (.iushr, 1)) (hv : (x.toUInt32 >>> (y.toUInt32 &&& Int32.toUInt32 31)).toInt32 = v) (kk : G p l e R s m args below meth c D A nL Q k n ws lv (pc + 1) (.int v :: st)) : G p l e R s m args below meth c D A nL Q k n ws lv pc (.int y :: .int x :: st) :=
  fun H locs ls hP hD hS hl => lv_iushr C.1 C.2.1 hdg hv (kk H locs ls hP hD hS hl)
theorem g_irem (C : CX p s m args meth c cc own Ts D tys A nL) {x y : Int32} (v : Int32) (hdg : decode cc pc = .ok (.irem, 1)) (hne : ¬ y = 0) (hv : x - x / y * y = v) (kk : G p l e R s m args below meth c D A nL Q k n ws lv (pc + 1) (.int v :: st)) : G p l e R s m args below meth c D A nL Q k n ws lv pc (.int y :: .int x :: st) :=
  fun H locs ls hP hD hS hl => lv_irem C.1 C.2.1 hdg hne (hv ▸ (kk H locs ls hP hD hS hl))
theorem g_lmul (C : CX p s m args meth c cc own Ts D tys A nL) {x y : Int64} (v : Int64) (hdg : decode cc pc = .ok (.lmul, 1)) (hv : x * y = v) (kk : G p l e R s m args below meth c D A nL Q k n ws lv (pc + 1) (.long v :: st)) : G p l e R s m args below meth c D A nL Q k n ws lv pc (.long y :: .long x :: st) :=
  fun H locs ls hP hD hS hl => lv_lmul C.1 C.2.1 hdg (hv ▸ (kk H locs ls hP hD hS hl))
theorem g_lushr (C : CX p s m args meth c cc own Ts D tys A nL) {x : Int64} {y : Int32} (v : Int64) (hdg : decode cc pc = .ok (.lushr, 1)) (hv : (x.toUInt64 >>> (y.toInt64.toUInt64 &&& Int64.toUInt64 63)).toInt64 = v) (kk : G p l e R s m args below meth c D A nL Q k n ws lv (pc + 1) (.long v :: st)) : G p l e R s m args below meth c D A nL Q k n ws lv pc (.int y :: .long x :: st) :=
  fun H locs ls hP hD hS hl => lv_lushr C.1 C.2.1 hdg hv (kk H locs ls hP hD hS hl)
def SCR (A : Nat → Prop) (s : State) (b L : Nat) (xs : Nat → Int32) : Prop := va_X b L xs s s.heap ∧ b < s.heap.size ∧ ¬ A b ∧ L ≤ 260
theorem g_sld (C : CX p s m args meth c cc own Ts D tys A nL) {b L : Nat} {xs : Nat → Int32} (hX : SCR A s b L xs) {i : Int32} (j : Nat) (hi : i = nI j) (hj : j < L) (hdg : decode cc pc = .ok (.iaload, 1)) (kk : G p l e R s m args below meth c D A nL Q k n ws lv (pc + 1) (.int (xs j) :: st)) : G p l e R s m args below meth c D A nL Q k n ws lv pc (.int i :: .ref b :: st) :=
  fun H locs ls hP hD hS hl => va_sld C.1 C.2.1 hX.1 hX.2.1 hX.2.2.1 hS (vin hi hj (Nat.lt_of_le_of_lt hX.2.2.2 (by decide))) hdg (by rw [vcl hi hj (Nat.lt_of_le_of_lt hX.2.2.2 (by decide))]; exact kk H locs ls hP hD hS hl)
theorem g_slen (C : CX p s m args meth c cc own Ts D tys A nL) {b L : Nat} {xs : Nat → Int32} (hX : SCR A s b L xs) (hdg : decode cc pc = .ok (.arraylength, 1)) (kk : G p l e R s m args below meth c D A nL Q k n ws lv (pc + 1) (.int (nI L) :: st)) : G p l e R s m args below meth c D A nL Q k n ws lv pc (.ref b :: st) :=
  fun H locs ls hP hD hS hl => va_slen C.1 C.2.1 hX.1 hX.2.1 hX.2.2.1 hS hdg (kk H locs ls hP hD hS hl)
/-- some of the world forgotten -/
theorem g_drop {wr wc : va_W} (kk : G p l e R s m args below meth c D A nL Q k n wc lv pc st) : G p l e R s m args below meth c D A nL Q k n (wr ++ wc) lv pc st :=
  fun H locs ls hP hD hS hl => kk H locs ls (ap_P hP) (ap_D hD) hS hl
theorem g_swapA {w0 w1 w2 : va_W} (kk : G p l e R s m args below meth c D A nL Q k n ((w0 ++ w2) ++ w1) lv pc st) : G p l e R s m args below meth c D A nL Q k n ((w0 ++ w1) ++ w2) lv pc st :=
  fun H locs ls hP hD hS hl => kk H locs ls (va_P.swap hP) (va_D.swap hD) hS hl
/-- where the class of int arrays is known by its place -/
theorem CX.fI (C : CX p s m args meth c cc own Ts D tys A nL) {cI : ClassId} (i : Nat) (h : tys[i]? = some (cI, .int)) : s.vm.findClass ("[" ++ FieldType.int.toString) = some cI := (C.hK.2 i (cI, .int) h).2
/-- a loop whose room grows -/
theorem g_loopk {σ : Type} (x0 : σ) (I : σ → Prop) (wf : σ → va_W) (lf : σ → List (Option Value)) (kf nf : σ → Nat) (μ : σ → Nat) (hI : I x0) (hw : ws = wf x0) (hl : lv = lf x0) (hk : k ≤ kf x0) (hn : n ≤ nf x0)
    (step : ∀ x, I x → (∀ y, I y → μ y < μ x → G p l e R s m args below meth c D A nL Q (kf y) (nf y) (wf y) (lf y) pc st) → G p l e R s m args below meth c D A nL Q (kf x) (nf x) (wf x) (lf x) pc st) : G p l e R s m args below meth c D A nL Q k n ws lv pc st := by
  have key : ∀ (N : Nat) (x : σ), μ x < N → I x → G p l e R s m args below meth c D A nL Q (kf x) (nf x) (wf x) (lf x) pc st := by
    intro N
    induction N with
    | zero => intro x h; exact absurd h (Nat.not_lt_zero _)
    | succ N ih => intro x h hx; exact step x hx (fun y hy hm => ih y (by omega) hy)
  subst hw
  subst hl
  exact g_widen hk hn (key _ x0 (Nat.lt_succ_self _) hI)
theorem g_loopk1 {α1 : Type} (x1 : α1) (I : α1 → Prop) (wf : α1 → va_W) (lf : α1 → List (Option Value)) (kf nf : α1 → Nat) (μ : α1 → Nat) (hI : I x1) (hw : ws = wf x1) (hl : lv = lf x1) (hk : k ≤ kf x1) (hn : n ≤ nf x1)
    (step : ∀ x1, I x1 → (∀ y1, I y1 → μ y1 < μ x1 → G p l e R s m args below meth c D A nL Q (kf y1) (nf y1) (wf y1) (lf y1) pc st) → G p l e R s m args below meth c D A nL Q (kf x1) (nf x1) (wf x1) (lf x1) pc st) : G p l e R s m args below meth c D A nL Q k n ws lv pc st :=
  g_loopk x1 (fun z => I z) (fun z => wf z) (fun z => lf z) (fun z => kf z) (fun z => nf z) (fun z => μ z) hI hw hl hk hn (fun z hz ih => step z hz (fun y1 h1 h2 => ih y1 h1 h2))
theorem g_loopk2 {α1 α2 : Type} (x1 : α1) (x2 : α2) (I : α1 → α2 → Prop) (wf : α1 → α2 → va_W) (lf : α1 → α2 → List (Option Value)) (kf nf : α1 → α2 → Nat) (μ : α1 → α2 → Nat) (hI : I x1 x2) (hw : ws = wf x1 x2) (hl : lv = lf x1 x2) (hk : k ≤ kf x1 x2) (hn : n ≤ nf x1 x2)
    (step : ∀ x1 x2, I x1 x2 → (∀ y1 y2, I y1 y2 → μ y1 y2 < μ x1 x2 → G p l e R s m args below meth c D A nL Q (kf y1 y2) (nf y1 y2) (wf y1 y2) (lf y1 y2) pc st) → G p l e R s m args below meth c D A nL Q (kf x1 x2) (nf x1 x2) (wf x1 x2) (lf x1 x2) pc st) : G p l e R s m args below meth c D A nL Q k n ws lv pc st :=
  g_loopk (x1, x2) (fun z => I z.1 z.2) (fun z => wf z.1 z.2) (fun z => lf z.1 z.2) (fun z => kf z.1 z.2) (fun z => nf z.1 z.2) (fun z => μ z.1 z.2) hI hw hl hk hn (fun z hz ih => step z.1 z.2 hz (fun y1 y2 h1 h2 => ih (y1, y2) h1 h2))
theorem g_loopk3 {α1 α2 α3 : Type} (x1 : α1) (x2 : α2) (x3 : α3) (I : α1 → α2 → α3 → Prop) (wf : α1 → α2 → α3 → va_W) (lf : α1 → α2 → α3 → List (Option Value)) (kf nf : α1 → α2 → α3 → Nat) (μ : α1 → α2 → α3 → Nat) (hI : I x1 x2 x3) (hw : ws = wf x1 x2 x3) (hl : lv = lf x1 x2 x3) (hk : k ≤ kf x1 x2 x3) (hn : n ≤ nf x1 x2 x3)
    (step : ∀ x1 x2 x3, I x1 x2 x3 → (∀ y1 y2 y3, I y1 y2 y3 → μ y1 y2 y3 < μ x1 x2 x3 → G p l e R s m args below meth c D A nL Q (kf y1 y2 y3) (nf y1 y2 y3) (wf y1 y2 y3) (lf y1 y2 y3) pc st) → G p l e R s m args below meth c D A nL Q (kf x1 x2 x3) (nf x1 x2 x3) (wf x1 x2 x3) (lf x1 x2 x3) pc st) : G p l e R s m args below meth c D A nL Q k n ws lv pc st :=
  g_loopk (x1, x2, x3) (fun z => I z.1 z.2.1 z.2.2) (fun z => wf z.1 z.2.1 z.2.2) (fun z => lf z.1 z.2.1 z.2.2) (fun z => kf z.1 z.2.1 z.2.2) (fun z => nf z.1 z.2.1 z.2.2) (fun z => μ z.1 z.2.1 z.2.2) hI hw hl hk hn (fun z hz ih => step z.1 z.2.1 z.2.2 hz (fun y1 y2 y3 h1 h2 => ih (y1, y2, y3) h1 h2))
theorem g_loopk4 {α1 α2 α3 α4 : Type} (x1 : α1) (x2 : α2) (x3 : α3) (x4 : α4) (I : α1 → α2 → α3 → α4 → Prop) (wf : α1 → α2 → α3 → α4 → va_W) (lf : α1 → α2 → α3 → α4 → List (Option Value)) (kf nf : α1 → α2 → α3 → α4 → Nat) (μ : α1 → α2 → α3 → α4 → Nat) (hI : I x1 x2 x3 x4) (hw : ws = wf x1 x2 x3 x4) (hl : lv = lf x1 x2 x3 x4) (hk : k ≤ kf x1 x2 x3 x4) (hn : n ≤ nf x1 x2 x3 x4)
    (step : ∀ x1 x2 x3 x4, I x1 x2 x3 x4 → (∀ y1 y2 y3 y4, I y1 y2 y3 y4 → μ y1 y2 y3 y4 < μ x1 x2 x3 x4 → G p l e R s m args below meth c D A nL Q (kf y1 y2 y3 y4) (nf y1 y2 y3 y4) (wf y1 y2 y3 y4) (lf y1 y2 y3 y4) pc st) → G p l e R s m args below meth c D A nL Q (kf x1 x2 x3 x4) (nf x1 x2 x3 x4) (wf x1 x2 x3 x4) (lf x1 x2 x3 x4) pc st) : G p l e R s m args below meth c D A nL Q k n ws lv pc st :=
  g_loopk (x1, x2, x3, x4) (fun z => I z.1 z.2.1 z.2.2.1 z.2.2.2) (fun z => wf z.1 z.2.1 z.2.2.1 z.2.2.2) (fun z => lf z.1 z.2.1 z.2.2.1 z.2.2.2) (fun z => kf z.1 z.2.1 z.2.2.1 z.2.2.2) (fun z => nf z.1 z.2.1 z.2.2.1 z.2.2.2) (fun z => μ z.1 z.2.1 z.2.2.1 z.2.2.2) hI hw hl hk hn (fun z hz ih => step z.1 z.2.1 z.2.2.1 z.2.2.2 hz (fun y1 y2 y3 y4 h1 h2 => ih (y1, y2, y3, y4) h1 h2))
theorem g_loopk5 {α1 α2 α3 α4 α5 : Type} (x1 : α1) (x2 : α2) (x3 : α3) (x4 : α4) (x5 : α5) (I : α1 → α2 → α3 → α4 → α5 → Prop) (wf : α1 → α2 → α3 → α4 → α5 → va_W) (lf : α1 → α2 → α3 → α4 → α5 → List (Option Value)) (kf nf : α1 → α2 → α3 → α4 → α5 → Nat) (μ : α1 → α2 → α3 → α4 → α5 → Nat) (hI : I x1 x2 x3 x4 x5) (hw : ws = wf x1 x2 x3 x4 x5) (hl : lv = lf x1 x2 x3 x4 x5) (hk : k ≤ kf x1 x2 x3 x4 x5) (hn : n ≤ nf x1 x2 x3 x4 x5)
    (step : ∀ x1 x2 x3 x4 x5, I x1 x2 x3 x4 x5 → (∀ y1 y2 y3 y4 y5, I y1 y2 y3 y4 y5 → μ y1 y2 y3 y4 y5 < μ x1 x2 x3 x4 x5 → G p l e R s m args below meth c D A nL Q (kf y1 y2 y3 y4 y5) (nf y1 y2 y3 y4 y5) (wf y1 y2 y3 y4 y5) (lf y1 y2 y3 y4 y5) pc st) → G p l e R s m args below meth c D A nL Q (kf x1 x2 x3 x4 x5) (nf x1 x2 x3 x4 x5) (wf x1 x2 x3 x4 x5) (lf x1 x2 x3 x4 x5) pc st) : G p l e R s m args below meth c D A nL Q k n ws lv pc st :=
  g_loopk (x1, x2, x3, x4, x5) (fun z => I z.1 z.2.1 z.2.2.1 z.2.2.2.1 z.2.2.2.2) (fun z => wf z.1 z.2.1 z.2.2.1 z.2.2.2.1 z.2.2.2.2) (fun z => lf z.1 z.2.1 z.2.2.1 z.2.2.2.1 z.2.2.2.2) (fun z => kf z.1 z.2.1 z.2.2.1 z.2.2.2.1 z.2.2.2.2) (fun z => nf z.1 z.2.1 z.2.2.1 z.2.2.2.1 z.2.2.2.2) (fun z => μ z.1 z.2.1 z.2.2.1 z.2.2.2.1 z.2.2.2.2) hI hw hl hk hn (fun z hz ih => step z.1 z.2.1 z.2.2.1 z.2.2.2.1 z.2.2.2.2 hz (fun y1 y2 y3 y4 y5 h1 h2 => ih (y1, y2, y3, y4, y5) h1 h2))
/-- a static method without handlers that never throws, though it makes throwables -/
theorem gx_callN (C : CX p s m args meth c cc own Ts D tys A nL) (hX : XX A s s.heap) {y : MethodName} {wds : List Cond} {fr lo mc ms index maxL nA : Nat} {bytes : ByteArray} {ret : Option FieldType} (wr wc : va_W) (As : List Value) {stk : List Value} {post : Int32 → va_W → Prop} (hM : CxI l y wds fr lo mc ms D tys As wc post (fun _ => False)) (cw : CallB R s args own index y bytes maxL ret wds { frames := fr, cells := mc, slots := ms, locals := lo } mc ms nA ∧ (Cond.static y).before args s = true) (hnA : As.length = nA) (hws : ws = wr ++ wc) (hst : stk = As.reverse ++ st) (hcat : (st.map fun v => v.category).sum ≤ 8) (hdg : decode cc pc = .ok (.invokestatic index, 3)) (hkn : k + mc ≤ R.cells ∧ n + ms ≤ R.slots)
    (kk : ∀ (r : Int32) (w1 : va_W), post r w1 → G p l e R s m args below meth c D A nL Q (k + mc) (n + ms) (wr ++ w1) lv (pc + 3) (.int r :: st)) : G p l e R s m args below meth c D A nL Q k n ws lv pc (stk) := by
  subst hws
  subst hst
  intro H locs ls hP hD hS hl
  refine vx_calli (A1 := va_A wc H.size) (gx_runS C hX hP hD hS hl (hM H.size) cw hnA hcat hdg hkn) hS (fun q _ h => ap_F hD hS C.hA q h) (ap_F hD hS C.hA) (fun q _ h => ap_F hD hS C.hA q h) ?_ ?_
  · intro E ce q9 u t H1 locs1 ht hvm _ hB
    exact absurd hB.1 (fun h => h)
  · intro r u t H1 locs1 ht hvm hw hB hz1 hk1 hS1
    exact kk r u.1 hw.1 H1 locs1 ls (ap_join hP hD hk1 (ap_F hD hS C.hA) (ht ▸ hB.1) hB.2.2).1 (ap_join hP hD hk1 (ap_F hD hS C.hA) (ht ▸ hB.1) hB.2.2).2 hS1 hl
theorem rmL {fr lo mc ms a b : Nat} (h1 : a ≤ mc) (h2 : b ≤ ms) : a ≤ ({ frames := fr, cells := mc, slots := ms, locals := lo } : Room).cells ∧ b ≤ ({ frames := fr, cells := mc, slots := ms, locals := lo } : Room).slots := ⟨h1, h2⟩
end LR
/-! a method that reads the script alone -/
def Bs (D : va_G) (tys : List (ClassId × FieldType)) (b L : Nat) (xs : Nat → Int32) (sz : Nat) : State → Prop := fun U => Bf D tys [] sz U ∧ va_X b L xs U U.heap ∧ b < U.heap.size
theorem Bs_blind {D : va_G} {tys : List (ClassId × FieldType)} {av : List Value} {b L : Nat} {xs : Nat → Int32} {sz : Nat} : FrameBlind (va_Pc av (Bs D tys b L xs sz)) := fun a U g mk q => by
  obtain ⟨q0, ⟨q1, qP, qK, qD⟩, e1, e2⟩ := q
  exact ⟨q0, ⟨q1, qP, va_K.moved (u := U) (U := U.calling g mk a) (Vm.Alike.refl U.vm) qK, qD⟩, e1.moved (u := U) (U := U.calling g mk a) (Vm.Alike.refl U.vm), e2⟩
def CsI (l : Launch) (y : MethodName) (wds : List Cond) (fr lo mc ms : Nat) (D : va_G) (tys : List (ClassId × FieldType)) (av : List Value) (b L : Nat) (xs : Nat → Int32) (post : Int32 → va_W → Prop) : Prop :=
  ∀ sz : Nat, Met l y wds { frames := fr, cells := mc, slots := ms, locals := lo } (va_Pc av (Bs D tys b L xs sz)) (va_Qi (fun r u => post r u.1 ∧ u.2 = tys) (Af D [] sz) (va_A [] sz)) mc ms (va_A [] sz)
theorem csI_of {l : Launch} {D : va_G} {tys : List (ClassId × FieldType)} {y : MethodName} {wds wds' : List Cond} {fr lo mc ms : Nat} {av : List Value} {b L : Nat} {xs : Nat → Int32} (hL : L ≤ 260) {post : Int32 → va_W → Prop} {cc : ByteArray} {maxL : Nat} {ret : Option FieldType} (own : String) (r : Nat) (lv0 : List (Option Value)) (hy : plainName y.cls = true) (hw : wds = Cond.code y cc maxL ret :: wds') (hown : y.cls = own) (hlen : (lg_sl av).length ≤ maxL) (hlv : lvE av ++ List.replicate r none = lv0)
    (body : ∀ (p : Program) (e : Env) (s : State) (m : MethodId) (args : Array Value) (below : List Frame) (meth : Method) (c : Code), CX p s m args meth c cc own wds D tys (va_A [] s.heap.size) maxL → meth.sig.returnType = ret → SCR (va_A [] s.heap.size) s b L xs →
      G p l e { frames := fr, cells := mc, slots := ms, locals := lo } s m args below meth c D (va_A [] s.heap.size) maxL (QI below post D tys [] args s mc ms) 0 0 [] lv0 0 []) : CsI l y wds fr lo mc ms D tys av b L xs post := by
  intro sz
  refine Met.ofW (cc := cc) (maxL := maxL) (ret := ret) hy hw ?_
  intro p e s m args below meth c s₁ B hml hv
  obtain ⟨rfl, ⟨hsz, hP, hK, hD0⟩, hX, hb⟩ := hv
  subst hsz
  rw [lg_entry_eq]
  exact body p e s m av.toArray below meth c ⟨B.exec, B.bytes, hml, by rw [← hown]; exact findClass_of_methodNamed B.named, atoms_spec (ws := wds) B.pre, hK, fun q h => Or.inr h, B.notSynchronized⟩ B.returns ⟨hX, hb, fun h => h.elim (fun ⟨k, q, hq⟩ => by simp at hq) (fun h => absurd hb (Nat.not_lt.mpr h)), hL⟩ s.heap [] _ hP (hD0.self) va_S.rf (lh_entry hlen hlv)
section LR2
variable {p : Program} {l : Launch} {e : Env} {R : Room} {s : State} {m : MethodId} {args : Array Value} {below : List Frame} {meth : Method} {c : Code} {Q : State → Prop} {k n : Nat}
variable {cc : ByteArray} {own : String} {Ts : List Cond} {D : va_G} {tys : List (ClassId × FieldType)} {A : Nat → Prop} {nL : Nat} {ws : va_W} {lv : List (Option Value)} {pc : Nat} {st : List Value}
theorem g_callR (C : CX p s m args meth c cc own Ts D tys A nL) {b L : Nat} {xs : Nat → Int32} (hX : SCR A s b L xs) {y : MethodName} {wds : List Cond} {fr lo mc ms index maxL nA : Nat} {bytes : ByteArray} {ret : Option FieldType} (As : List Value) {stk : List Value} {post : Int32 → va_W → Prop} (hM : CsI l y wds fr lo mc ms D tys (As) b L xs post)  (cw : CallB R s args own index y bytes maxL ret wds { frames := fr, cells := mc, slots := ms, locals := lo } mc ms nA ∧ (Cond.static y).before args s = true) (hnA : As.length = nA) (hst : stk = As.reverse ++ st) (hcat : (st.map fun v => v.category).sum ≤ 8) (hdg : decode cc pc = .ok (.invokestatic index, 3)) (hkn : k + mc ≤ R.cells ∧ n + ms ≤ R.slots)
    (kk : ∀ (r : Int32) (w1 : va_W), post r w1 → G p l e R s m args below meth c D A nL Q (k + mc) (n + ms) (ws ++ w1) lv (pc + 3) (.int r :: st)) : G p l e R s m args below meth c D A nL Q k n ws lv pc (stk) := by
  intro H locs ls hP hD hS hl
  rw [← List.append_nil ws] at hP hD
  exact va_calli (A1 := va_A [] H.size) (va_runS (As := As) (rest := st) C.fix (hM H.size) cw ⟨Bs_blind, fun U hU hW => ⟨rfl, ⟨by rw [hU], by rw [hU]; exact ap_P hP, va_K.moved hW.alike C.hK, (ap_D hD).weaken (fun _ _ _ _ => trivial)⟩, by rw [hU]; exact (hX.1.kept (hS.2.1 b hX.2.1 hX.2.2.1)).moved hW.alike, by rw [hU]; exact Nat.lt_of_lt_of_le hX.2.1 hS.1⟩⟩ rfl hnA hl.1 hst (lv_room hcat) hdg hkn) hS (fun q _ h => ap_F hD hS C.hA q h) (ap_F hD hS C.hA) (fun r u t H1 locs1 ht hvm hw hB hz1 hk1 hS1 => kk r u.1 hw.1 H1 locs1 ls (ap_join hP hD hk1 (ap_F hD hS C.hA) (ht ▸ hB.1) hB.2.2).1 (ap_join hP hD hk1 (ap_F hD hS C.hA) (ht ▸ hB.1) hB.2.2).2 hS1 hl)
end LR2
/-! numbers -/
theorem i_lt {x y : Int32} : x < y ↔ x.toInt < y.toInt := Int32.lt_iff_toInt_lt
theorem i_le {x y : Int32} : x ≤ y ↔ x.toInt ≤ y.toInt := Int32.le_iff_toInt_le
/-- what 'some' answers, of any int -/
theorem some_ok {x y : Int32} (hy : 0 < y.toInt) : 0 ≤ ((x.toUInt32 >>> ((2 : Int32).toUInt32 &&& Int32.toUInt32 31)).toInt32 - (x.toUInt32 >>> ((2 : Int32).toUInt32 &&& Int32.toUInt32 31)).toInt32 / y * y).toInt ∧ ((x.toUInt32 >>> ((2 : Int32).toUInt32 &&& Int32.toUInt32 31)).toInt32 - (x.toUInt32 >>> ((2 : Int32).toUInt32 &&& Int32.toUInt32 31)).toInt32 / y * y).toInt < y.toInt := by
  have h0 : 0 ≤ ((x.toUInt32 >>> ((2 : Int32).toUInt32 &&& Int32.toUInt32 31)).toInt32).toInt := by
    have h1 : (x.toUInt32 >>> ((2 : Int32).toUInt32 &&& Int32.toUInt32 31)).toNat < 2 ^ 30 := by
      rw [UInt32.toNat_shiftRight, show ((2 : Int32).toUInt32 &&& Int32.toUInt32 31).toNat % 32 = 2 from by decide, Nat.shiftRight_eq_div_pow]
      have := x.toUInt32.toNat_lt
      omega
    have h2 : ((x.toUInt32 >>> ((2 : Int32).toUInt32 &&& Int32.toUInt32 31)).toInt32).toInt = ((x.toUInt32 >>> ((2 : Int32).toUInt32 &&& Int32.toUInt32 31)).toNat : Int) := by
      show (x.toUInt32 >>> ((2 : Int32).toUInt32 &&& Int32.toUInt32 31)).toBitVec.toInt = _
      rw [BitVec.toInt_eq_toNat_of_lt (by rw [UInt32.toNat_toBitVec]; omega), UInt32.toNat_toBitVec]
    rw [h2]
    omega
  generalize (x.toUInt32 >>> ((2 : Int32).toUInt32 &&& Int32.toUInt32 31)).toInt32 = v at h0
  have e : v - v / y * y = v % y := by
    apply Int32.toInt_inj.mp
    have hv := v.toInt_lt
    have h3 : 0 ≤ v.toInt.tdiv y.toInt := Int.tdiv_nonneg h0 (by omega)
    have h4 : v.toInt.tdiv y.toInt ≤ v.toInt := Int.tdiv_le_self _ h0
    have h5 : v.toInt.tdiv y.toInt * y.toInt + v.toInt.tmod y.toInt = v.toInt := by rw [Int.mul_comm]; exact Int.mul_tdiv_add_tmod _ _
    have h6 : 0 ≤ v.toInt.tmod y.toInt := Int.tmod_nonneg _ h0
    have h7 : 0 ≤ v.toInt.tdiv y.toInt * y.toInt := Int.mul_nonneg h3 (by omega)
    rw [Int32.toInt_sub, Int32.toInt_mul, Int32.toInt_div, Int32.toInt_mod, bm_id (x := v.toInt.tdiv y.toInt) (by omega) (by omega), bm_id (x := v.toInt.tdiv y.toInt * y.toInt) (by omega) (by omega), bm_id (by omega) (by omega)]
    omega
  rw [e, Int32.toInt_mod]
  exact ⟨Int.tmod_nonneg _ h0, Int.tmod_lt_of_pos _ hy⟩
theorem nI_k (a b : Nat) (x : Int32) (h : x = nI a) : x + nI b = nI (a + b) := by rw [h]; exact nI_add a b
theorem nI_mk (a b : Nat) (x : Int32) (h : x = nI a) (hb : a * b < 2 ^ 31 := by omega) : x * nI b = nI (a * b) := by
  rw [h]
  exact (Int32.ofNat_mul a b).symm
theorem ab_pos {x : Int32} (h : 0 < x) : x = ab x := by
  unfold ab
  rw [if_pos (Int32.le_of_lt h)]
theorem ab_neg {x : Int32} (h : ¬ 0 < x) : -x = ab x := by
  unfold ab
  by_cases h0 : 0 ≤ x
  · have e : x = 0 := tB_eq (by
      rw [i_lt] at h; rw [i_le] at h0
      rw [show (0 : Int32).toInt = 0 from rfl] at h h0 ⊢
      omega)
    subst e
    rfl
  · rw [if_neg h0, Int32.zero_sub]
theorem dsq2 (x y u v : Int32) : (2 + ab (x - u) + ab (y - v)) * (2 + ab (x - u) + ab (y - v)) = dsq x y u v := by
  unfold dsq
  rw [Int32.add_comm 2 (ab (x - u)), Int32.add_assoc, Int32.add_comm 2 (ab (y - v)), ← Int32.add_assoc]
