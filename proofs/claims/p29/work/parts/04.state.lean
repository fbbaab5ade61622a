/-! what a state of the system is: the worlds, and the numbers read off them -/
abbrev T5 (cI cZ cJ cG cW : ClassId) : List (ClassId × FieldType) := [(cI, .int), (cZ, .boolean), (cJ, .int), (cG, .array .int), (cW, .array .int)]
def wL (cI cZ cG : ClassId) (a r : Nat → Nat) (nc nw : Nat) (cx cy ch rm on wx wy dm sv mu : Nat → Int32) (qq : Nat → Nat → Int32) : va_W :=
  [(a 0, .inr (0, [.ref (a 1), .ref (a 2), .ref (a 3), .ref (a 4), .ref (a 5), .int (nI nc), .ref (a 6), .ref (a 7), .ref (a 8), .ref (a 9), .int (nI nw), .ref (a 10), .ref (a 11)])),
   (a 1, .inl (cI, 5, .inl cx)), (a 2, .inl (cI, 5, .inl cy)), (a 3, .inl (cI, 5, .inl ch)), (a 4, .inl (cI, 5, .inl rm)), (a 5, .inl (cZ, 5, .inl on)),
   (a 6, .inl (cI, 6, .inl wx)), (a 7, .inl (cI, 6, .inl wy)), (a 8, .inl (cI, 6, .inl dm)), (a 9, .inl (cI, 6, .inl sv)), (a 10, .inl (cI, 5, .inl mu)),
   (a 11, .inl (cG, 6, .inr (.inr (.inr (.inr (fun i => if i < 6 then some (r i) else none)))))),
   (r 0, .inl (cI, 5, .inl (qq 0))), (r 1, .inl (cI, 5, .inl (qq 1))), (r 2, .inl (cI, 5, .inl (qq 2))), (r 3, .inl (cI, 5, .inl (qq 3))), (r 4, .inl (cI, 5, .inl (qq 4))), (r 5, .inl (cI, 5, .inl (qq 5)))]
def wSo (cI cW : ClassId) (a b r2 : Nat → Nat) (hp rl cn be : Nat → Int32) (bw : Int32) (wo : Nat → Nat → Int32) : va_W :=
  [(b 0, .inr (1, [.ref (a 0), .ref (b 1), .ref (b 2), .ref (b 3), .ref (b 4), .ref (b 5), .int bw])),
   (b 1, .inl (cW, 6, .inr (.inr (.inr (.inr (fun i => if i < 6 then some (r2 i) else none)))))),
   (b 2, .inl (cI, 7, .inl hp)), (b 3, .inl (cI, 5, .inl rl)), (b 4, .inl (cI, 6, .inl cn)), (b 5, .inl (cI, 6, .inl be)),
   (r2 0, .inl (cI, 5, .inl (wo 0))), (r2 1, .inl (cI, 5, .inl (wo 1))), (r2 2, .inl (cI, 5, .inl (wo 2))), (r2 3, .inl (cI, 5, .inl (wo 3))), (r2 4, .inl (cI, 5, .inl (wo 4))), (r2 5, .inl (cI, 5, .inl (wo 5)))]
def wCo (cI : ClassId) (a b d : Nat → Nat) (mg pt bd tk ho ri lo : Int32) (fv hd lf la : Nat → Int32) : va_W :=
  [(d 0, .inr (2, [.ref (a 0), .ref (b 0), .ref (d 1), .ref (d 2), .ref (d 3), .ref (d 4), .int mg, .int pt, .int bd, .int tk, .int ho, .int ri, .int lo])),
   (d 1, .inl (cI, 6, .inl fv)), (d 2, .inl (cI, 6, .inl hd)), (d 3, .inl (cI, 6, .inl lf)), (d 4, .inl (cI, 6, .inl la))]
def wM (cI cZ : ClassId) (q : Nat → Nat) (nc nw : Nat) (cx cy ch rm on wx wy dm sv fv hd lf la : Nat → Int32) (mg pt bd tk ho ri lo : Int32) (us gv bs ld qs : Nat → Int32) (mS mD th : Int32) : va_W :=
  [(q 0, .inr (3, [.int (nI nc), .ref (q 1), .ref (q 2), .ref (q 3), .ref (q 4), .ref (q 5), .int (nI nw), .ref (q 6), .ref (q 7), .ref (q 8), .ref (q 9), .ref (q 10), .ref (q 11), .ref (q 12), .ref (q 13), .int mg, .int pt, .int bd, .int tk, .int ho, .int ri, .int lo, .ref (q 14), .ref (q 15), .ref (q 16), .ref (q 17), .ref (q 18), .int mS, .int mD, .int th])),
   (q 1, .inl (cI, 5, .inl cx)), (q 2, .inl (cI, 5, .inl cy)), (q 3, .inl (cI, 5, .inl ch)), (q 4, .inl (cI, 5, .inl rm)), (q 5, .inl (cZ, 5, .inl on)),
   (q 6, .inl (cI, 6, .inl wx)), (q 7, .inl (cI, 6, .inl wy)), (q 8, .inl (cI, 6, .inl dm)), (q 9, .inl (cI, 6, .inl sv)), (q 10, .inl (cI, 6, .inl fv)), (q 11, .inl (cI, 6, .inl hd)), (q 12, .inl (cI, 6, .inl lf)), (q 13, .inl (cI, 6, .inl la)),
   (q 14, .inl (cI, 5, .inl us)), (q 15, .inl (cI, 6, .inl gv)), (q 16, .inl (cI, 6, .inl bs)), (q 17, .inl (cI, 5, .inl ld)), (q 18, .inl (cI, 30, .inl qs))]
def wO (cJ : ClassId) (o : Nat) (ot : Nat → Int64) : va_W := [(o, .inl (cJ, 1, .inr (.inl ot)))]
/-- a table, one place of it written -/
def up2 (f : Nat → Nat → Int32) (w j : Nat) (x : Int32) : Nat → Nat → Int32 := fun u => if u = w then upd (f w) j x else f u
theorem wL_row {cI cZ cG : ClassId} {a r : Nat → Nat} {nc nw : Nat} {cx cy ch rm on wx wy dm sv mu : Nat → Int32} {qq : Nat → Nat → Int32} {w : Nat} (h : w < 6) :
    (wL cI cZ cG a r nc nw cx cy ch rm on wx wy dm sv mu qq)[12 + w]? = some (r w, .inl (cI, 5, .inl (qq w))) :=
  match w, h with
  | 0, _ => rfl | 1, _ => rfl | 2, _ => rfl | 3, _ => rfl | 4, _ => rfl | 5, _ => rfl
theorem wL_set {cI cZ cG : ClassId} {a r : Nat → Nat} {nc nw : Nat} {cx cy ch rm on wx wy dm sv mu : Nat → Int32} {qq : Nat → Nat → Int32} {w : Nat} (h : w < 6) {j : Nat} {x : Int32} :
    (wL cI cZ cG a r nc nw cx cy ch rm on wx wy dm sv mu qq).set (12 + w) (r w, .inl (cI, 5, .inl (upd (qq w) j x))) = wL cI cZ cG a r nc nw cx cy ch rm on wx wy dm sv mu (up2 qq w j x) :=
  match w, h with
  | 0, _ => rfl | 1, _ => rfl | 2, _ => rfl | 3, _ => rfl | 4, _ => rfl | 5, _ => rfl
theorem wS_row {cI cZ cG cW : ClassId} {a b r r2 : Nat → Nat} {hp rl cn be : Nat → Int32} {bw : Int32} {wo : Nat → Nat → Int32} {nc nw : Nat} {cx cy ch rm on wx wy dm sv mu : Nat → Int32} {qq : Nat → Nat → Int32} {w : Nat} (h : w < 6) :
    (wSo cI cW a b r2 hp rl cn be bw wo ++ wL cI cZ cG a r nc nw cx cy ch rm on wx wy dm sv mu qq)[24 + w]? = some (r w, .inl (cI, 5, .inl (qq w))) :=
  match w, h with
  | 0, _ => rfl | 1, _ => rfl | 2, _ => rfl | 3, _ => rfl | 4, _ => rfl | 5, _ => rfl
theorem wS_row2 {cI cZ cG cW : ClassId} {a b r r2 : Nat → Nat} {hp rl cn be : Nat → Int32} {bw : Int32} {wo : Nat → Nat → Int32} {nc nw : Nat} {cx cy ch rm on wx wy dm sv mu : Nat → Int32} {qq : Nat → Nat → Int32} {w : Nat} (h : w < 6) :
    (wSo cI cW a b r2 hp rl cn be bw wo ++ wL cI cZ cG a r nc nw cx cy ch rm on wx wy dm sv mu qq)[6 + w]? = some (r2 w, .inl (cI, 5, .inl (wo w))) :=
  match w, h with
  | 0, _ => rfl | 1, _ => rfl | 2, _ => rfl | 3, _ => rfl | 4, _ => rfl | 5, _ => rfl
theorem wS_set2 {cI cZ cG cW : ClassId} {a b r r2 : Nat → Nat} {hp rl cn be : Nat → Int32} {bw : Int32} {wo : Nat → Nat → Int32} {nc nw : Nat} {cx cy ch rm on wx wy dm sv mu : Nat → Int32} {qq : Nat → Nat → Int32} {w : Nat} (h : w < 6) {j : Nat} {x : Int32} :
    (wSo cI cW a b r2 hp rl cn be bw wo ++ wL cI cZ cG a r nc nw cx cy ch rm on wx wy dm sv mu qq).set (6 + w) (r2 w, .inl (cI, 5, .inl (upd (wo w) j x))) = (wSo cI cW a b r2 hp rl cn be bw (up2 wo w j x) ++ wL cI cZ cG a r nc nw cx cy ch rm on wx wy dm sv mu qq) :=
  match w, h with
  | 0, _ => rfl | 1, _ => rfl | 2, _ => rfl | 3, _ => rfl | 4, _ => rfl | 5, _ => rfl
theorem wC_row {cI cZ cG cW : ClassId} {a b d r r2 : Nat → Nat} {mg pt bd tk ho ri lo : Int32} {fv hd lf la : Nat → Int32} {hp rl cn be : Nat → Int32} {bw : Int32} {wo : Nat → Nat → Int32} {nc nw : Nat} {cx cy ch rm on wx wy dm sv mu : Nat → Int32} {qq : Nat → Nat → Int32} {w : Nat} (h : w < 6) :
    ((wCo cI a b d mg pt bd tk ho ri lo fv hd lf la ++ wSo cI cW a b r2 hp rl cn be bw wo) ++ wL cI cZ cG a r nc nw cx cy ch rm on wx wy dm sv mu qq)[29 + w]? = some (r w, .inl (cI, 5, .inl (qq w))) :=
  match w, h with
  | 0, _ => rfl | 1, _ => rfl | 2, _ => rfl | 3, _ => rfl | 4, _ => rfl | 5, _ => rfl
/-! the document's numbers -/
def ab (x : Int32) : Int32 := if 0 ≤ x then x else 0 - x
def mx (x y : Int32) : Int32 := if x < y then y else x
def dsq (x y u v : Int32) : Int32 := (ab (x - u) + ab (y - v) + 2) * (ab (x - u) + ab (y - v) + 2)
/-- the signal of cell c for walker w -/
def sg (cx cy wx wy : Nat → Int32) (c w : Nat) : Int32 := 16000 / dsq (cx c) (cy c) (wx w) (wy w)
def sgw (cx cy wx wy : Nat → Int32) (w : Nat) : Nat → Int32 := fun c => sg cx cy wx wy c w
/-- the load of a cell, of the first walkers -/
def fld (sv dm : Nat → Int32) (c : Int32) : Nat → Int32
  | 0 => 0
  | n + 1 => if sv n = c then fld sv dm c n + dm n else fld sv dm c n
def fus (rm sv dm : Nat → Int32) (nw c : Nat) : Int32 := 100 * fld sv dm (nI c) nw / rm c
/-- the disturbances of cell c by the first cells -/
def fdi (ch on us s : Nat → Int32) (c : Nat) : Nat → Int32
  | 0 => 0
  | n + 1 => if n = c then fdi ch on us s c n else if on n = 0 then fdi ch on us s c n else if ch n = ch c then fdi ch on us s c n + s n * us n / 100 else fdi ch on us s c n
/-- the quality of cell c for walker w, with the uses us -/
def fqu (cx cy ch on wx wy us : Nat → Int32) (nc w c : Nat) : Int32 := 100 * sg cx cy wx wy c w / (10 + fdi ch on us (sgw cx cy wx wy w) c nc)
def fil (n : Nat) (f g : Nat → Int32) : Nat → Int32 := fun j => if j < n then f j else g j
def fil2 (n k : Nat) (f g : Nat → Nat → Int32) : Nat → Nat → Int32 := fun i j => if i < n ∧ j < k then f i j else g i j
/-- whether cell c could take walker w -/
def ftk (on sv dm rm : Nat → Int32) (nw w c : Nat) : Int32 := if on c = 0 then 0 else if sv w = nI c then 0 else if rm c < fld sv dm (nI c) nw + dm w then 0 else 1
/-- a cell's number, none being -1 -/
def en : Option Nat → Int32
  | none => -1
  | some k => nI k
/-- the first of the greatest q among the first cells that t allows -/
def fbo (t q : Nat → Int32) : Nat → Option Nat
  | 0 => none
  | n + 1 => if t n = 0 then fbo t q n else match fbo t q n with
    | none => some n
    | some b => if q n ≤ q b then some b else some n
theorem fbo_lt {t q : Nat → Int32} : ∀ {n b : Nat}, fbo t q n = some b → b < n
  | 0, b, h => by cases h
  | n + 1, b, h => by
    have ih : ∀ c, fbo t q n = some c → c < n := fun c hc => fbo_lt hc
    unfold fbo at h
    split at h
    · have := ih b h; omega
    · split at h
      · cases h; omega
      · next c hc =>
        have h1 := ih c hc
        split at h
        · cases h; omega
        · cases h; omega
theorem en_m1 {k : Nat} (h : k < 2 ^ 31) : ¬ nI k = -1 := fun e => nI_pos h (by rw [e]; decide)
theorem en_some {o : Option Nat} (h : ¬ en o = -1) : ∃ b, o = some b := by
  cases o with
  | none => exact absurd rfl h
  | some b => exact ⟨b, rfl⟩
theorem en_none {o : Option Nat} (hb : ∀ b, o = some b → b < 2 ^ 31) (h : en o = -1) : o = none := by
  cases o with
  | none => rfl
  | some b => exact absurd h (en_m1 (hb b rfl))
theorem fil_step {M f g : Nat → Int32} {i : Nat} {x : Int32} (h : ∀ j, M j = if j < i then f j else g j) (hx : x = f i) : ∀ j, upd M i x j = if j < i + 1 then f j else g j := by
  intro j
  show (if j = i then x else M j) = _
  by_cases h1 : j = i
  · rw [if_pos h1, if_pos (by omega), hx, h1]
  · rw [if_neg h1, h]
    by_cases h2 : j < i
    · rw [if_pos h2, if_pos (by omega)]
    · rw [if_neg h2, if_neg (by omega)]
theorem fil2_cell {f Z Y : Nat → Nat → Int32} {u v : Nat} {x : Int32} (h : ∀ j c, Y j c = if j = u ∧ c < v then f u c else Z j c) (hx : x = f u v) : ∀ j c, up2 Y u v x j c = if j = u ∧ c < v + 1 then f u c else Z j c := by
  intro j c
  show (if j = u then upd (Y u) v x else Y j) c = _
  by_cases h1 : j = u
  · rw [if_pos h1]
    show (if c = v then x else Y u c) = _
    by_cases h2 : c = v
    · rw [if_pos h2, if_pos ⟨h1, by omega⟩, hx, h2]
    · rw [if_neg h2, h]
      by_cases h3 : c < v
      · rw [if_pos ⟨rfl, h3⟩, if_pos ⟨h1, by omega⟩]
      · rw [if_neg (fun q => h3 q.2), if_neg (fun q => h3 (by omega)), h1]
  · rw [if_neg h1, h, if_neg (fun q => h1 q.1), if_neg (fun q => h1 q.1)]
theorem fil2_row {f g Z Y : Nat → Nat → Int32} {u v k : Nat} (hv : v = k) (g2 : ∀ j c, Z j c = if j < u ∧ c < k then f j c else g j c) (e2 : ∀ j c, Y j c = if j = u ∧ c < v then f u c else Z j c) : ∀ j c, Y j c = if j < u + 1 ∧ c < k then f j c else g j c := by
  intro j c
  rw [e2, g2]
  by_cases h1 : j = u
  · subst h1
    by_cases h2 : c < k
    · rw [if_pos ⟨rfl, by omega⟩, if_pos ⟨by omega, h2⟩]
    · rw [if_neg (fun h => h2 (by omega)), if_neg (fun h => h2 h.2), if_neg (fun h => h2 h.2)]
  · by_cases h2 : j < u ∧ c < k
    · rw [if_neg (fun h => h1 h.1), if_pos h2, if_pos ⟨by omega, h2.2⟩]
    · rw [if_neg (fun h => h1 h.1), if_neg h2, if_neg (fun h => h2 ⟨by omega, h.2⟩)]
/-! the search, as its methods go -/
abbrev S4 : Type := (Nat → Int32) × (Nat → Int32) × (Nat → Int32) × Int32
def fwv (on : Nat → Int32) (bd gain pq : Int32) (q : Nat → Int32) (c : Nat) : Int32 := if on c = 0 then 0 else if q c < bd then 0 else gain + pq * q c
def fmx (f : Nat → Int32) : Nat → Int32
  | 0 => 0
  | n + 1 => mx (fmx f n) (f n)
def fwr (w k : Nat) (f : Nat → Int32) (wo : Nat → Nat → Int32) : Nat → Nat → Int32 := fun j c => if j = w ∧ c < k then f c else wo j c
theorem up2_self {f : Nat → Nat → Int32} {w j : Nat} {x : Int32} : up2 f w j x w j = x := by simp [up2, upd]
theorem dec1 (x : Int32) : x + Int32.ofInt (-1) = x - 1 := by rw [Int32.sub_eq_add_neg]; rfl
def fpi (f : Int32 → S4 → S4) (wow : Nat → Int32) (need : Int32) (w : Nat) (g : Int32) (s : S4) : Nat → S4
  | 0 => s
  | c + 1 => if wow c ≤ 0 then fpi f wow need w g s c else if (fpi f wow need w g s c).1 c < need then fpi f wow need w g s c else
    (upd (f (g + wow c) (upd (fpi f wow need w g s c).1 c ((fpi f wow need w g s c).1 c - need), upd (fpi f wow need w g s c).2.1 w (nI c), (fpi f wow need w g s c).2.2.1, (fpi f wow need w g s c).2.2.2)).1 c
        ((f (g + wow c) (upd (fpi f wow need w g s c).1 c ((fpi f wow need w g s c).1 c - need), upd (fpi f wow need w g s c).2.1 w (nI c), (fpi f wow need w g s c).2.2.1, (fpi f wow need w g s c).2.2.2)).1 c + need),
      (f (g + wow c) (upd (fpi f wow need w g s c).1 c ((fpi f wow need w g s c).1 c - need), upd (fpi f wow need w g s c).2.1 w (nI c), (fpi f wow need w g s c).2.2.1, (fpi f wow need w g s c).2.2.2)).2)
def fpl (hp : Nat → Int32) (wo : Nat → Nat → Int32) (dm : Nat → Int32) (nc nw : Nat) : Nat → Nat → Int32 → S4 → S4
  | 0, _, _, s => s
  | k + 1, w, g, s => if g + hp w ≤ s.2.2.2 then s else if nw ≤ w then (s.1, s.2.1, va_cpy s.2.1 s.2.2.1 0 0 nw, g) else
    fpl hp wo dm nc nw k (w + 1) g ((fpi (fpl hp wo dm nc nw k (w + 1)) (wo w) (dm w) w g s nc).1, upd (fpi (fpl hp wo dm nc nw k (w + 1)) (wo w) (dm w) w g s nc).2.1 w (-1), (fpi (fpl hp wo dm nc nw k (w + 1)) (wo w) (dm w) w g s nc).2.2.1, (fpi (fpl hp wo dm nc nw k (w + 1)) (wo w) (dm w) w g s nc).2.2.2)
/-- what may be hoped for, of the last i walkers -/
def fho (f : Nat → Int32) (nw : Nat) : Nat → Int32
  | 0 => 0
  | i + 1 => fho f nw i + f (nw - (i + 1))
/-- what greatestWorth leaves -/
def GW (nc nw : Nat) (rm on dm : Nat → Int32) (qq : Nat → Nat → Int32) (bd pw pd pq : Int32) (rl cn be hp : Nat → Int32) (wo : Nat → Nat → Int32) (z : S4) : Prop :=
  z = fpl hp wo dm nc nw 7 0 0 (va_cpy rm rl 0 0 nc, cn, be, -1) ∧ (∀ t, t ≤ nw → hp t = fho (fun u => fmx (fwv on bd (pw + pd * dm u) pq (qq u)) nc) nw (nw - t)) ∧ ∀ t c, t < nw → c < nc → wo t c = fwv on bd (pw + pd * dm t) pq (qq t) c
theorem fho_step {f P : Nat → Int32} {nw j2 : Nat} {x : Int32} (h1 : j2 + 1 ≤ nw) (h2 : ∀ t, j2 + 1 ≤ t → t ≤ nw → P t = fho f nw (nw - t)) (hx : x = P (j2 + 1) + f j2) : ∀ t, j2 ≤ t → t ≤ nw → upd P j2 x t = fho f nw (nw - t) := by
  intro t ht ht2
  show (if t = j2 then x else P t) = _
  by_cases h : t = j2
  · rw [if_pos h, hx, h2 (j2 + 1) (Nat.le_refl _) h1, h, show nw - j2 = (nw - (j2 + 1)) + 1 by omega, fho, show nw - (nw - (j2 + 1) + 1) = j2 by omega]
  · rw [if_neg h]
    exact h2 t (by omega) ht2
theorem fwr_step {f : Nat → Nat → Int32} {Y : Nat → Nat → Int32} {nw nc j2 : Nat} (_ : j2 + 1 ≤ nw) (h3 : ∀ t c, j2 + 1 ≤ t → t < nw → c < nc → Y t c = f t c) : ∀ t c, j2 ≤ t → t < nw → c < nc → fwr j2 nc (f j2) Y t c = f t c := by
  intro t c ht ht2 hc
  show (if t = j2 ∧ c < nc then f j2 c else Y t c) = _
  by_cases h : t = j2
  · rw [if_pos ⟨h, hc⟩, h]
  · rw [if_neg (fun q => h q.1)]
    exact h3 t c (by omega) ht2 hc
/-! a tick, and what belongs to it -/
abbrev TS : Type := (Nat → Int32) × (Nat → Int32) × (Nat → Int32) × (Nat → Int32) × (Nat → Int32) × Int32 × Int32 × Int32
theorem upd_upd (f : Nat → Int32) (i : Nat) (x y : Int32) : upd (upd f i x) i y = upd f i y := by
  funext j
  unfold upd
  by_cases h : j = i <;> simp [h]
theorem upd_at {f : Nat → Int32} {i : Nat} {x : Int32} : upd f i x i = x := by simp [upd]
/-- what is held, if k is the favourite now -/
def fhe (fv hd : Nat → Int32) (w k : Nat) : Int32 := if nI k = fv w then hd w + 1 else 1
def frg (lf la : Nat → Int32) (w : Nat) (to tk ri : Int32) : Int32 := if to = lf w then (if 5 < tk - la w then ri else ri + 1) else ri
/-- a tick's step for walker w: served, favourites, held, left, when left, handovers, rings, losses -/
def fts (on dm rm : Nat → Int32) (nc nw : Nat) (Q : Nat → Nat → Int32) (mg pt bd tk : Int32) (w : Nat) (z : TS) : TS :=
  if z.1 w = -1 then
    match fbo (fun u => ftk on z.1 dm rm nw w u) (Q w) nc with
    | none => z
    | some k => if Q w k < bd then z else (upd z.1 w (nI k), z.2)
  else if bd ≤ Q w (z.1 w).toNatClampNeg then
    match fbo (fun u => ftk on z.1 dm rm nw w u) (Q w) nc with
    | none => (z.1, upd z.2.1 w (-1), upd z.2.2.1 w 0, z.2.2.2)
    | some k => if Q w (z.1 w).toNatClampNeg + mg ≤ Q w k then
        (if fhe z.2.1 z.2.2.1 w k < pt then (z.1, upd z.2.1 w (nI k), upd z.2.2.1 w (fhe z.2.1 z.2.2.1 w k), z.2.2.2)
         else (upd z.1 w (nI k), upd z.2.1 w (-1), upd z.2.2.1 w 0, upd z.2.2.2.1 w (z.1 w), upd z.2.2.2.2.1 w tk, z.2.2.2.2.2.1 + 1, frg z.2.2.2.1 z.2.2.2.2.1 w (nI k) tk z.2.2.2.2.2.2.1, z.2.2.2.2.2.2.2))
      else (z.1, upd z.2.1 w (-1), upd z.2.2.1 w 0, z.2.2.2)
  else (upd z.1 w (-1), upd z.2.1 w (-1), upd z.2.2.1 w 0, upd z.2.2.2.1 w (-1), z.2.2.2.2.1, z.2.2.2.2.2.1, z.2.2.2.2.2.2.1, z.2.2.2.2.2.2.2 + 1)
def ftw (on dm rm : Nat → Int32) (nc nw : Nat) (Q : Nat → Nat → Int32) (mg pt bd tk : Int32) (z : TS) : Nat → TS
  | 0 => z
  | n + 1 => fts on dm rm nc nw Q mg pt bd tk n (ftw on dm rm nc nw Q mg pt bd tk z n)
def SV (nc : Nat) (x : Int32) : Prop := x = -1 ∨ ∃ k, k < nc ∧ x = nI k
theorem SV_upd {nc w : Nat} {f : Nat → Int32} {x : Int32} {P : Nat → Prop} (h : ∀ j, P j → SV nc (f j)) (hx : SV nc x) : ∀ j, P j → SV nc (upd f w x j) := by
  intro j hj
  show SV nc (if j = w then x else f j)
  by_cases q : j = w
  · rw [if_pos q]; exact hx
  · rw [if_neg q]; exact h j hj
theorem fts_sv {on dm rm : Nat → Int32} {nc nw : Nat} {Q : Nat → Nat → Int32} {mg pt bd tk : Int32} {w : Nat} {z : TS} {P : Nat → Prop} (h : ∀ j, P j → SV nc (z.1 j)) : ∀ j, P j → SV nc ((fts on dm rm nc nw Q mg pt bd tk w z).1 j) := by
  have key : ∀ k, fbo (fun u => ftk on z.1 dm rm nw w u) (Q w) nc = some k → SV nc (nI k) := fun k hk => Or.inr ⟨k, fbo_lt hk, rfl⟩
  have m1 : SV nc (-1) := Or.inl rfl
  unfold fts
  split
  · split
    · exact h
    · next k hk =>
      split
      · exact h
      · exact SV_upd h (key k hk)
  · split
    · split
      · exact h
      · next k hk =>
        split
        · split
          · exact h
          · exact SV_upd h (key k hk)
        · exact h
    · exact SV_upd h m1
/-- the walkers of a cell that goes off -/
def frw (c : Int32) (z : (Nat → Int32) × (Nat → Int32) × (Nat → Int32)) : Nat → (Nat → Int32) × (Nat → Int32) × (Nat → Int32)
  | 0 => z
  | n + 1 => if (frw c z n).1 n = c then (upd (frw c z n).1 n (-1), upd (frw c z n).2.1 n (-1), upd (frw c z n).2.2 n 0) else frw c z n
def fun0 (sv : Nat → Int32) : Nat → Int32
  | 0 => 0
  | n + 1 => if sv n = -1 then fun0 sv n ||| ((1 : Int32) <<< (nI n &&& 31)) else fun0 sv n
