theorem modS1 {i n k : Nat} (h : k = i % n) (h1 : k + 1 < n) : k + 1 = (i + 1) % n := by
  rw [← Nat.mod_add_mod, ← h, Nat.mod_eq_of_lt h1]
theorem modS0 {i n k : Nat} (h : k = i % n) (h1 : ¬ k + 1 < n) (hn : 0 < n) : 0 = (i + 1) % n := by
  have : k < n := by rw [h]; exact Nat.mod_lt _ hn
  rw [← Nat.mod_add_mod, ← h, show k + 1 = n by omega, Nat.mod_self]
theorem ht_swp' {f : Nat → Int32} {T : Nat → Nat} (h : ht f T) {i j : Nat} (hi : i < 256) (hj : j < 256) : ht (upd (upd f i (nI (T j))) j (nI (T i))) (swp T i j) := by
  rw [← h j hj, ← h i hi]
  exact ht_swp h hi hj
theorem hs_pre {f : Nat → Int32} {xs ys : List Nat} {g : Nat → Nat} (hl : ys.length = xs.length) (h : ∀ m, m < xs.length → f m = nI (g m)) (hg : ∀ m, m < xs.length → ys.getD m 0 = g m) : hs f ys := fun m hm => by
  rw [hg m (by omega)]
  exact h m (by omega)
theorem up_lt {f : Nat → Int32} {k : Nat} {x : Int32} {p : Nat → Int32} (h : ∀ m, m < k → f m = p m) (hx : x = p k) : ∀ m, m < k + 1 → upd f k x m = p m := by
  intro m hm
  unfold upd
  by_cases e : m = k
  · rw [if_pos e, e, hx]
  · rw [if_neg e]
    exact h m (by omega)
theorem up_ge {f : Nat → Int32} {k n : Nat} {x : Int32} {p : Nat → Int32} (h : ∀ m, k ≤ m → m < n → f m = p m) : ∀ m, k + 1 ≤ m → m < n → upd f k x m = p m := by
  intro m hm hn
  unfold upd
  rw [if_neg (by omega)]
  exact h m (by omega) hn
