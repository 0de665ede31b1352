/-! STREAM, as numbers -/
def swp (T : Nat → Nat) (i j : Nat) : Nat → Nat := fun k => if k = j then T i else if k = i then T j else T k
def ksaS (key : List Nat) (x : Nat) : Nat → (Nat → Nat) × Nat
  | 0 => (id, 0)
  | i + 1 => (swp (ksaS key x i).1 i (((ksaS key x i).2 + (ksaS key x i).1 i + (key.getD (i % key.length) 0 ^^^ x)) % 256), ((ksaS key x i).2 + (ksaS key x i).1 i + (key.getD (i % key.length) 0 ^^^ x)) % 256)
def prg (T0 : Nat → Nat) : Nat → (Nat → Nat) × Nat
  | 0 => (T0, 0)
  | k + 1 => (swp (prg T0 k).1 ((k + 1) % 256) (((prg T0 k).2 + (prg T0 k).1 ((k + 1) % 256)) % 256), ((prg T0 k).2 + (prg T0 k).1 ((k + 1) % 256)) % 256)
/-- the stream's byte k out of the table T0 -/
def prb (T0 : Nat → Nat) (k : Nat) : Nat := (prg T0 (k + 1)).1 (((prg T0 k).1 ((k + 1) % 256) + (prg T0 k).1 (prg T0 (k + 1)).2) % 256)
def ksb (key : List Nat) (x k : Nat) : Nat := prb (ksaS key x 256).1 k
def xorS (T0 : Nat → Nat) (xs : List Nat) : List Nat := (List.range xs.length).map (fun k => xs.getD k 0 ^^^ prb T0 k)
def strm (key : List Nat) (x : Nat) (xs : List Nat) : List Nat := xorS (ksaS key x 256).1 xs
/-- the array holds the table -/
def ht (f : Nat → Int32) (T : Nat → Nat) : Prop := ∀ k, k < 256 → f k = nI (T k)
def t256 (T : Nat → Nat) : Prop := ∀ k, k < 256 → T k < 256
theorem t_id : t256 id := fun _ h => h
theorem t_swp {T : Nat → Nat} (h : t256 T) {i j : Nat} (hi : i < 256) (hj : j < 256) : t256 (swp T i j) := by
  intro k hk
  unfold swp
  split
  · exact h i hi
  · split
    · exact h j hj
    · exact h k hk
theorem t_ksa (key : List Nat) (x : Nat) : ∀ n, n ≤ 256 → t256 (ksaS key x n).1 ∧ (ksaS key x n).2 < 256
  | 0, _ => ⟨t_id, by show 0 < 256; decide⟩
  | n + 1, h => ⟨t_swp (t_ksa key x n (by omega)).1 (by omega) (Nat.mod_lt _ (by decide)), Nat.mod_lt _ (by decide)⟩
theorem t_prg {T0 : Nat → Nat} (h : t256 T0) : ∀ n, t256 (prg T0 n).1 ∧ (prg T0 n).2 < 256
  | 0 => ⟨h, by show 0 < 256; decide⟩
  | n + 1 => ⟨t_swp (t_prg h n).1 (Nat.mod_lt _ (by decide)) (Nat.mod_lt _ (by decide)), Nat.mod_lt _ (by decide)⟩
theorem t_prb {T0 : Nat → Nat} (h : t256 T0) (k : Nat) : prb T0 k < 256 := (t_prg h (k + 1)).1 _ (Nat.mod_lt _ (by decide))
theorem ht_id {f : Nat → Int32} (h : ∀ k, k < 256 → f k = nI k) : ht f id := h
theorem ht_swp {f : Nat → Int32} {T : Nat → Nat} (h : ht f T) {i j : Nat} (hi : i < 256) (hj : j < 256) : ht (upd (upd f i (f j)) j (f i)) (swp T i j) := by
  intro k hk
  unfold upd swp
  by_cases e : k = j
  · rw [if_pos e, if_pos e]
    exact h i hi
  · rw [if_neg e, if_neg e]
    by_cases e2 : k = i
    · rw [if_pos e2, if_pos e2]
      exact h j hj
    · rw [if_neg e2, if_neg e2]
      exact h k hk
theorem xorS_len (T0 : Nat → Nat) (xs : List Nat) : (xorS T0 xs).length = xs.length := by simp [xorS]
theorem strm_len (key : List Nat) (x : Nat) (xs : List Nat) : (strm key x xs).length = xs.length := xorS_len _ _
theorem xorS_at (T0 : Nat → Nat) (xs : List Nat) {k : Nat} (h : k < xs.length) : (xorS T0 xs).getD k 0 = xs.getD k 0 ^^^ prb T0 k := by
  simp [xorS, List.getD, h]
theorem byt_getD {xs : List Nat} (h : byt xs) (k : Nat) : xs.getD k 0 < 256 := by
  by_cases hk : k < xs.length
  · have : xs.getD k 0 = xs[k] := by simp [List.getD, List.getElem?_eq_getElem hk]
    rw [this]
    exact h _ (List.getElem_mem _)
  · have : xs.getD k 0 = 0 := by simp [List.getD, List.getElem?_eq_none (Nat.le_of_not_lt hk)]
    rw [this]
    decide
theorem xor_lt {a b : Nat} (ha : a < 256) (hb : b < 256) : a ^^^ b < 256 := Nat.xor_lt_two_pow (n := 8) ha hb
theorem byt_xorS {T0 : Nat → Nat} (h : t256 T0) {xs : List Nat} (hx : byt xs) : byt (xorS T0 xs) := by
  intro y hy
  obtain ⟨k, -, rfl⟩ := List.mem_map.mp hy
  exact xor_lt (byt_getD hx k) (t_prb h k)
theorem byt_strm (key : List Nat) (x : Nat) {xs : List Nat} (hx : byt xs) : byt (strm key x xs) := byt_xorS (t_ksa key x 256 (Nat.le_refl _)).1 hx
/-- streams change places -/
theorem xorS_comm (T1 T2 : Nat → Nat) (xs : List Nat) : xorS T1 (xorS T2 xs) = xorS T2 (xorS T1 xs) := by
  apply List.ext_getElem?
  intro k
  by_cases hk : k < xs.length
  · have g1 : ∀ ys : List Nat, ys.length = xs.length → ys[k]? = some (ys.getD k 0) := fun ys e => by simp [List.getD, List.getElem?_eq_getElem (show k < ys.length by omega)]
    rw [g1 _ (by rw [xorS_len, xorS_len]), g1 _ (by rw [xorS_len, xorS_len]), xorS_at _ _ (by rw [xorS_len]; exact hk), xorS_at _ _ hk, xorS_at _ _ (by rw [xorS_len]; exact hk), xorS_at _ _ hk, Nat.xor_assoc, Nat.xor_assoc, Nat.xor_comm (prb T2 k)]
  · rw [List.getElem?_eq_none (by rw [xorS_len, xorS_len]; omega), List.getElem?_eq_none (by rw [xorS_len, xorS_len]; omega)]
theorem nx_xor9 (a b : Nat) : nI a ^^^ nI b = nI (a ^^^ b) := by
  apply Int32.toBitVec_inj.mp
  show (nI a).toBitVec ^^^ (nI b).toBitVec = (nI (a ^^^ b)).toBitVec
  apply BitVec.eq_of_toNat_eq
  have t : ∀ n, (nI n).toBitVec.toNat = n % 2 ^ 32 := fun n => by
    show (BitVec.ofNat 32 n).toNat = _
    simp
  rw [BitVec.toNat_xor, t, t, t, Nat.xor_mod_two_pow]
