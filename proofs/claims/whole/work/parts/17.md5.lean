/-! DIGEST -/
abbrev Q4 : Type := Int32 × Int32 × Int32 × Int32
def mdF (i : Nat) (b c d : Int32) : Int32 := if i < 16 then (b &&& c) ||| ((b ^^^ (-1)) &&& d) else if i < 32 then (d &&& b) ||| ((d ^^^ (-1)) &&& c) else if i < 48 then (b ^^^ c) ^^^ d else c ^^^ (b ||| (d ^^^ (-1)))
def mdG (i : Nat) : Nat := if i < 16 then i % 16 else if i < 32 then (5 * i + 1) % 16 else if i < 48 then (3 * i + 5) % 16 else (7 * i) % 16
def mdT (i : Nat) : Int32 := tabf turL (i / 16 * 4 + i % 4)
def rotl (v y : Int32) : Int32 := (v <<< (y &&& 31)) ||| (v.toUInt32 >>> ((32 - y).toUInt32 &&& Int32.toUInt32 31)).toInt32
def mdf (M : Nat → Int32) (i : Nat) (s : Q4) : Int32 := mdF i s.2.1 s.2.2.1 s.2.2.2 + ((s.1 + tabf sinL i) + M (mdG i))
def mdS (M : Nat → Int32) (i : Nat) (s : Q4) : Q4 := (s.2.2.2, s.2.1 + rotl (mdf M i s) (mdT i), s.2.1, s.2.2.1)
def mdR (M : Nat → Int32) : Nat → Q4 → Q4
  | 0, s => s
  | i + 1, s => mdS M i (mdR M i s)
def mdC (M : Nat → Int32) (s : Q4) : Q4 := (s.1 + (mdR M 64 s).1, s.2.1 + (mdR M 64 s).2.1, s.2.2.1 + (mdR M 64 s).2.2.1, s.2.2.2 + (mdR M 64 s).2.2.2)
def mdIV : Q4 := (1732584193, -271733879, -1732584194, 271733878)
def nch (n : Nat) : Nat := (n + 8) / 64 + 1
def endB (xs : List Nat) (k : Nat) : Nat := if k < xs.length then xs.getD k 0 else if k = xs.length then 128 else 0
def le4 (p : Nat → Nat) (k : Nat) : Int32 := ((nI (p k) ||| (nI (p (k + 1)) <<< ((8 : Int32) &&& 31))) ||| (nI (p (k + 2)) <<< ((16 : Int32) &&& 31))) ||| (nI (p (k + 3)) <<< ((24 : Int32) &&& 31))
def mdW (xs : List Nat) (c j : Nat) : Int32 := if c + 1 = nch xs.length ∧ j = 14 then nI (8 * xs.length) else le4 (endB xs) (c * 64 + 4 * j)
def mdX (xs : List Nat) : Nat → Q4
  | 0 => mdIV
  | c + 1 => mdC (mdW xs c) (mdX xs c)
def q4l (s : Q4) : List Nat := ((lof s.1 4 ++ lof s.2.1 4) ++ lof s.2.2.1 4) ++ lof s.2.2.2 4
def md5 (xs : List Nat) : List Nat := q4l (mdX xs (nch xs.length))
theorem q4l_len (s : Q4) : (q4l s).length = 16 := by simp [q4l, lof_len]
theorem md5_len (xs : List Nat) : (md5 xs).length = 16 := q4l_len _
theorem byt_lof (x : Int32) (m : Nat) : byt (lof x m) := by
  intro y hy
  obtain ⟨j, -, rfl⟩ := List.mem_map.mp hy
  exact byj_lt x j
theorem byt_app {xs ys : List Nat} (h1 : byt xs) (h2 : byt ys) : byt (xs ++ ys) := fun x hx => (List.mem_append.mp hx).elim (h1 x) (h2 x)
theorem byt_q4l (s : Q4) : byt (q4l s) := byt_app (byt_app (byt_app (byt_lof _ _) (byt_lof _ _)) (byt_lof _ _)) (byt_lof _ _)
theorem byt_md5 (xs : List Nat) : byt (md5 xs) := byt_q4l _
theorem mdG_lt (i : Nat) : mdG i < 16 := by
  unfold mdG
  split
  · omega
  · split
    · omega
    · split <;> omega
theorem mdR_congr {M N : Nat → Int32} (h : ∀ j, j < 16 → M j = N j) (s : Q4) : ∀ i, mdR M i s = mdR N i s
  | 0 => rfl
  | i + 1 => by
    rw [mdR, mdR, mdR_congr h s i]
    unfold mdS mdf
    rw [h _ (mdG_lt i)]
theorem mdC_congr {M N : Nat → Int32} (h : ∀ j, j < 16 → M j = N j) (s : Q4) : mdC M s = mdC N s := by
  unfold mdC
  rw [mdR_congr h]
theorem byt_take {xs : List Nat} (h : byt xs) (k : Nat) : byt (xs.take k) := fun x hx => h x (List.mem_of_mem_take hx)
