/-! bytes as numbers: an array holds a list -/
def hs (f : Nat → Int32) (xs : List Nat) : Prop := ∀ j, j < xs.length → f j = nI (xs.getD j 0)
def byt (xs : List Nat) : Prop := ∀ x ∈ xs, x < 256
theorem len_push (xs : List Nat) (y : Nat) : (xs ++ [y]).length = xs.length + 1 := by simp
theorem len_app (xs ys : List Nat) : (xs ++ ys).length = xs.length + ys.length := List.length_append
theorem hs_nil (f : Nat → Int32) : hs f [] := fun j h => absurd h (Nat.not_lt_zero j)
theorem gd_left {xs ys : List Nat} {j : Nat} (h : j < xs.length) : (xs ++ ys).getD j 0 = xs.getD j 0 := by
  simp [List.getD, List.getElem?_append_left h]
theorem gd_right {xs ys : List Nat} {j : Nat} (h : xs.length ≤ j) : (xs ++ ys).getD j 0 = ys.getD (j - xs.length) 0 := by
  simp [List.getD, List.getElem?_append_right h]
theorem hs_push {f : Nat → Int32} {xs : List Nat} {y : Nat} {x : Int32} (h : hs f xs) (hx : x = nI y) : hs (upd f xs.length x) (xs ++ [y]) := by
  intro j hj
  rw [len_push] at hj
  unfold upd
  by_cases e : j = xs.length
  · subst e
    rw [if_pos rfl, gd_right (Nat.le_refl _), Nat.sub_self, hx]
    rfl
  · rw [if_neg e, gd_left (by omega)]
    exact h j (by omega)
theorem hs_set {f : Nat → Int32} {xs : List Nat} {i y : Nat} {x : Int32} (h : hs f xs) (hx : x = nI y) : hs (upd f i x) (xs.set i y) := by
  intro j hj
  rw [List.length_set] at hj
  unfold upd
  by_cases e : j = i
  · subst e
    rw [if_pos rfl, hx]
    simp [List.getD, List.getElem?_set_self hj]
  · rw [if_neg e, h j hj]
    simp [List.getD, List.getElem?_set_ne (Ne.symm e)]
theorem hs_cpy {f h : Nat → Int32} {xs ys : List Nat} (hf : hs f ys) (hh : hs h xs) : hs (va_cpy f h 0 xs.length ys.length) (xs ++ ys) := by
  intro j hj
  rw [len_app] at hj
  by_cases e : j < xs.length
  · rw [pk_cpy_out (Or.inl e), gd_left e]
    exact hh j e
  · rw [pk_cpy_in (by omega) (by omega), gd_right (by omega), Nat.zero_add]
    exact hf _ (by omega)
theorem hs_take {f : Nat → Int32} {xs : List Nat} {k : Nat} (h : hs f xs) : hs f (xs.take k) := by
  intro j hj
  have hj2 : j < xs.length := by
    rw [List.length_take] at hj
    omega
  rw [h j hj2]
  rw [List.length_take] at hj
  simp [List.getD, List.getElem?_take_of_lt (show j < k by omega)]
theorem and255 (x : Int32) : x &&& 255 = nI (x.toBitVec.toNat % 256) := pk_and x 8 rfl
/-- byte j of an int, the lowest is 0 -/
def byj (x : Int32) (j : Nat) : Nat := x.toBitVec.toNat / 2 ^ (8 * j) % 256
theorem byj_lt (x : Int32) (j : Nat) : byj x j < 256 := Nat.mod_lt _ (by decide)
def hif (x : Int32) : List Nat := [byj x 3, byj x 2, byj x 1, byj x 0]
def lof (x : Int32) (m : Nat) : List Nat := (List.range m).map (byj x)
theorem lof_succ (x : Int32) (m : Nat) : lof x (m + 1) = lof x m ++ [byj x m] := by simp [lof, List.range_succ]
theorem lof_len (x : Int32) (m : Nat) : (lof x m).length = m := by simp [lof]
theorem ush_and (x s : Int32) (j : Nat) (hs : ((s.toUInt32 &&& Int32.toUInt32 31).toBitVec % 32).toNat = 8 * j) : (x.toUInt32 >>> (s.toUInt32 &&& Int32.toUInt32 31)).toInt32 &&& 255 = nI (byj x j) := by
  rw [and255, pk_ushr x s (8 * j) hs]
  rfl
theorem and0 (x : Int32) : x &&& 255 = nI (byj x 0) := by
  rw [and255]
  simp [byj]
theorem sh8 : ∀ j, j < 4 → (((nI (8 * j)).toUInt32 &&& Int32.toUInt32 31).toBitVec % 32).toNat = 8 * j := by decide
theorem sh8' : ∀ j, j < 4 → ((8 * nI j : Int32).toUInt32 &&& Int32.toUInt32 31).toBitVec.toNat % 32 = 8 * j := by decide
theorem ix_of {x : Int32} {n : Nat} (h0 : ¬ x < 0) (h1 : x < nI n) (hn : n < 2 ^ 31) : ∃ j, j < n ∧ x = nI j := by
  obtain ⟨j, hj, rfl⟩ := nI_of h0
  exact ⟨j, (nI_ltI hj hn).mp h1, rfl⟩
/-- byte i of a row's list, or -1 -/
def rowAt (xs : List Nat) (i : Int32) : Int32 := if i < 0 ∨ ¬ i < nI xs.length then -1 else nI (xs.getD i.toNatClampNeg 0)
theorem rowAt_n {xs : List Nat} {j : Nat} (h : j < xs.length) (hn : xs.length < 2 ^ 31) : rowAt xs (nI j) = nI (xs.getD j 0) := by
  unfold rowAt
  rw [if_neg, nI_clamp (Nat.lt_trans h hn)]
  rintro (h1 | h1)
  · exact nI_pos (Nat.lt_trans h hn) h1
  · exact h1 (nI_lt h hn)
/-- a row cut to left bytes -/
def cutTo (xs : List Nat) (left : Int32) : List Nat := if left < 0 then xs else xs.take left.toNatClampNeg
theorem cutTo_n (xs : List Nat) {j : Nat} (hj : j < 2 ^ 31) : cutTo xs (nI j) = xs.take j := by
  unfold cutTo
  rw [if_neg (nI_pos hj), nI_clamp hj]
theorem take_all {xs : List Nat} {j : Nat} (h : xs.length ≤ j) : xs.take j = xs := List.take_of_length_le h
theorem cutTo_neg (xs : List Nat) {x : Int32} (h : x < 0) : cutTo xs x = xs := if_pos h
theorem rep_push (xs : List Nat) (i y : Nat) : xs ++ List.replicate (i + 1) y = (xs ++ List.replicate i y) ++ [y] := by
  rw [List.replicate_succ', List.append_assoc]
theorem min_le {a b : Nat} (h : a ≤ b) (hb : b < 2 ^ 31) : (if nI b < nI a then nI b else nI a) = nI a := if_neg (nI_nlt h hb)
theorem hs_same {f h : Nat → Int32} {xs ys : List Nat} {m : Nat} (hf : hs f xs) (hh : hs h ys) (h1 : m ≤ xs.length) (h2 : m ≤ ys.length) (h256 : byt xs) (h256' : byt ys) : (∀ j, j < m → f j = h j) ↔ xs.take m = ys.take m := by
  constructor
  · intro h3
    apply List.ext_getElem?
    intro j
    by_cases hj : j < m
    · rw [List.getElem?_take_of_lt hj, List.getElem?_take_of_lt hj, List.getElem?_eq_getElem (by omega), List.getElem?_eq_getElem (by omega)]
      have e := h3 j hj
      rw [hf j (by omega), hh j (by omega)] at e
      have a1 := h256 xs[j] (List.getElem_mem _)
      have a2 := h256' ys[j] (List.getElem_mem _)
      have g1 : xs.getD j 0 = xs[j] := by simp [List.getD, List.getElem?_eq_getElem (show j < xs.length by omega)]
      have g2 : ys.getD j 0 = ys[j] := by simp [List.getD, List.getElem?_eq_getElem (show j < ys.length by omega)]
      rw [g1, g2] at e
      rw [(nI_eq (by omega) (by omega)).mp e]
    · rw [List.getElem?_eq_none (by rw [List.length_take]; omega), List.getElem?_eq_none (by rw [List.length_take]; omega)]
  · intro h3 j hj
    rw [hf j (by omega), hh j (by omega)]
    have e : (xs.take m)[j]? = (ys.take m)[j]? := by rw [h3]
    rw [List.getElem?_take_of_lt hj, List.getElem?_take_of_lt hj] at e
    simp [List.getD, e]
