/-! the reference's assignments: g says of each walker its cell, nc being none -/
def fgl (g : Nat → Nat) (dm : Nat → Int32) (c : Nat) : Nat → Int32
  | 0 => 0
  | n + 1 => if g n = c then fgl g dm c n + dm n else fgl g dm c n
def fok (on rm dm : Nat → Int32) (bd : Int32) (Q : Nat → Nat → Int32) (g : Nat → Nat) (nc : Nat) : Nat → Bool
  | 0 => true
  | n + 1 => if fok on rm dm bd Q g nc n = true then (if nc ≤ g n then true else if on (g n) = 0 then false else if Q n (g n) < bd then false else if fgl g dm (g n) (n + 1) ≤ rm (g n) then true else false) else false
theorem fok_false {on rm dm : Nat → Int32} {bd : Int32} {Q : Nat → Nat → Int32} {g : Nat → Nat} {nc i : Nat} : ∀ {n : Nat}, i ≤ n → fok on rm dm bd Q g nc i = false → fok on rm dm bd Q g nc n = false
  | 0, h, h2 => by rw [show (0 : Nat) = i by omega]; exact h2
  | n + 1, h, h2 => by
    by_cases q : i = n + 1
    · rw [← q]; exact h2
    · unfold fok
      rw [if_neg (by rw [fok_false (by omega) h2]; decide)]
/-- how many are served, the sum of their qualities, their demands -/
def fsv (g : Nat → Nat) (nc : Nat) : Nat → Int32
  | 0 => 0
  | n + 1 => if nc ≤ g n then fsv g nc n else fsv g nc n + 1
def fsu (Q : Nat → Nat → Int32) (g : Nat → Nat) (nc : Nat) : Nat → Int32
  | 0 => 0
  | n + 1 => if nc ≤ g n then fsu Q g nc n else fsu Q g nc n + Q n (g n)
def fsd (dm : Nat → Int32) (g : Nat → Nat) (nc : Nat) : Nat → Int32
  | 0 => 0
  | n + 1 => if nc ≤ g n then fsd dm g nc n else fsd dm g nc n + dm n
/-- the digits of an assignment's number: walker 0's is the first -/
def dg (nc nw N j : Nat) : Nat := N / (nc + 1) ^ (nw - 1 - j) % (nc + 1)
theorem dg_le {nc nw N j : Nat} : dg nc nw N j ≤ nc := Nat.lt_succ_iff.mp (Nat.mod_lt _ (Nat.succ_pos nc))
/-- most served, greatest sum, most demand, the best -/
abbrev AS : Type := Int32 × Int32 × Int32 × (Nat → Int32)
def fst (on rm dm : Nat → Int32) (bd : Int32) (Q : Nat → Nat → Int32) (nc nw : Nat) (g : Nat → Nat) (x : AS) : AS :=
  if fok on rm dm bd Q g nc nw = true then
    (if x.1 < fsv g nc nw then (fsv g nc nw, fsu Q g nc nw, (if fsd dm g nc nw ≤ x.2.2.1 then x.2.2.1 else fsd dm g nc nw), fil nw (fun j => nI (g j)) x.2.2.2)
     else if fsv g nc nw = x.1 then
       (if fsu Q g nc nw ≤ x.2.1 then (x.1, x.2.1, (if fsd dm g nc nw ≤ x.2.2.1 then x.2.2.1 else fsd dm g nc nw), x.2.2.2)
        else (fsv g nc nw, fsu Q g nc nw, (if fsd dm g nc nw ≤ x.2.2.1 then x.2.2.1 else fsd dm g nc nw), fil nw (fun j => nI (g j)) x.2.2.2))
     else (x.1, x.2.1, (if fsd dm g nc nw ≤ x.2.2.1 then x.2.2.1 else fsd dm g nc nw), x.2.2.2))
  else x
def fas (on rm dm : Nat → Int32) (bd : Int32) (Q : Nat → Nat → Int32) (nc nw : Nat) (b0 : Nat → Int32) : Nat → AS
  | 0 => (0, -1, 0, b0)
  | N + 1 => fst on rm dm bd Q nc nw (dg nc nw N) (fas on rm dm bd Q nc nw b0 N)
theorem fil_all {n : Nat} {f g M : Nat → Int32} {i : Nat} (h : ∀ j, M j = if j < i then f j else g j) (hi : i = n) : M = fil n f g := funext fun j => by rw [h, hi]; rfl
theorem fil_congr {n : Nat} {f f2 g : Nat → Int32} (h : ∀ j, j < n → f j = f2 j) : fil n f g = fil n f2 g := funext fun j => by
  show (if j < n then f j else g j) = if j < n then f2 j else g j
  by_cases q : j < n
  · rw [if_pos q, if_pos q, h j q]
  · rw [if_neg q, if_neg q]
theorem upd_ne {f : Nat → Int32} {i j : Nat} {x : Int32} (h : j ≠ i) : upd f i x j = f j := by simp [upd, h]
