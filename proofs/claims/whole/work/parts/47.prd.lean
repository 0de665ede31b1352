/-! products; the SWAP of the document -/
def ivN : List Nat := [0, 1, 141, 246, 203, 82, 123, 209, 232, 79, 41, 192, 176, 225, 229, 199, 116, 180, 170, 75, 153, 43, 96, 95, 88, 63, 253, 204, 255, 64, 238, 178, 58, 110, 90, 241, 85, 77, 168, 201, 193, 10, 152, 21, 48, 68, 162, 194, 44, 69, 146, 108, 243, 57, 102, 66, 242, 53, 32, 111, 119, 187, 89, 25, 29, 254, 55, 103, 45, 49, 245, 105, 167, 100, 171, 19, 84, 37, 233, 9, 237, 92, 5, 202, 76, 36, 135, 191, 24, 62, 34, 240, 81, 236, 97, 23, 22, 94, 175, 211, 73, 166, 54, 67, 244, 71, 145, 223, 51, 147, 33, 59, 121, 183, 151, 133, 16, 181, 186, 60, 182, 112, 208, 6, 161, 250, 129, 130, 131, 126, 127, 128, 150, 115, 190, 86, 155, 158, 149, 217, 247, 2, 185, 164, 222, 106, 50, 109, 216, 138, 132, 114, 42, 20, 159, 136, 249, 220, 137, 154, 251, 124, 46, 195, 143, 184, 101, 72, 38, 200, 18, 74, 206, 231, 210, 98, 12, 224, 31, 239, 17, 117, 120, 113, 165, 142, 118, 61, 189, 188, 134, 87, 11, 40, 47, 163, 218, 212, 228, 15, 169, 39, 83, 4, 27, 252, 172, 230, 122, 7, 174, 99, 197, 219, 226, 234, 148, 139, 196, 213, 157, 248, 144, 107, 177, 13, 214, 235, 198, 14, 207, 173, 8, 78, 215, 227, 93, 80, 30, 179, 91, 35, 56, 52, 104, 70, 3, 140, 221, 156, 125, 160, 205, 26, 65, 28]
def iv (b : Nat) : Nat := ivN.getD b 0
def prdS (a b : Nat) : Nat → Nat × Nat
  | 0 => (0, a)
  | k + 1 => (if b / 2 ^ k % 2 = 1 then (prdS a b k).1 ^^^ (prdS a b k).2 else (prdS a b k).1, xt (prdS a b k).2)
def prd (a b : Nat) : Nat := (prdS a b 8).1
theorem prdS_lt {a : Nat} (b : Nat) (h : a < 256) : ∀ k, (prdS a b k).1 < 256 ∧ (prdS a b k).2 < 256
  | 0 => ⟨by show 0 < 256; decide, h⟩
  | k + 1 => by
    obtain ⟨h1, h2⟩ := prdS_lt b h k
    unfold prdS
    refine ⟨?_, xt_lt _ h2⟩
    show (if _ then _ else _) < 256
    split
    · exact xor_lt h1 h2
    · exact h1
theorem prd_lt {a : Nat} (b : Nat) (h : a < 256) : prd a b < 256 := (prdS_lt b h 8).1
theorem dbl_eq : ∀ v, v < 256 → ¬ v < 128 → (2 * v - 256) ^^^ 27 = (2 * v) ^^^ 283 := by decide +kernel
theorem smod_nI : ∀ k, k < 32 → ((nI k &&& 31).toBitVec.smod 32).toNat = k := by decide +kernel
set_option maxRecDepth 100000 in
theorem iv_ok : (List.range 256).all (fun b => b == 0 || (decide (iv b < 256) && (decide (0 < iv b) && (prd b (iv b) == 1 && (List.range (iv b)).all (fun j => j == 0 || prd b j != 1))))) = true := by decide +kernel
theorem iv_0 : iv 0 = 0 := rfl
theorem iv_spec {b : Nat} (h0 : 0 < b) (h : b < 256) : iv b < 256 ∧ 0 < iv b ∧ prd b (iv b) = 1 ∧ ∀ j, 1 ≤ j → j < iv b → ¬ prd b j = 1 := by
  have h1 := List.all_eq_true.mp iv_ok b (List.mem_range.mpr h)
  rw [show (b == 0) = false by simp; omega] at h1
  simp only [Bool.false_or, Bool.and_eq_true, decide_eq_true_eq, beq_iff_eq] at h1
  obtain ⟨a1, a2, a3, a4⟩ := h1
  refine ⟨a1, a2, a3, fun j j1 j2 => ?_⟩
  have h2 := List.all_eq_true.mp a4 j (List.mem_range.mpr j2)
  rw [show (j == 0) = false by simp; omega] at h2
  simpa using h2
/-- the byte v turned and added up -/
def affS (v : Nat) : Nat → Nat
  | 0 => v
  | k + 1 => affS v k ^^^ (((v * 2 ^ (k + 1)) ||| (v / 2 ^ (8 - (k + 1)))) % 256)
theorem aff_sw : ∀ b, b < 256 → affS (iv b) 4 ^^^ 99 = sw b := by decide +kernel
theorem affS_lt {v : Nat} (h : v < 256) : ∀ k, affS v k < 256
  | 0 => h
  | k + 1 => xor_lt (affS_lt h k) (Nat.mod_lt _ (by decide))
theorem or_lt32 {v k : Nat} (h : v < 256) (hk : k < 8) : (v * 2 ^ k) ||| (v / 2 ^ (8 - k)) < 2 ^ 32 := by
  have h1 : v * 2 ^ k < 2 ^ 32 := by
    have : 2 ^ k ≤ 2 ^ 8 := Nat.pow_le_pow_right (by decide) (by omega)
    calc v * 2 ^ k ≤ 255 * 2 ^ 8 := Nat.mul_le_mul (by omega) this
      _ < 2 ^ 32 := by decide
  exact Nat.or_lt_two_pow h1 (Nat.lt_of_le_of_lt (Nat.div_le_self _ _) (by omega))
theorem mul_lt32 {v k : Nat} (h : v < 256) (hk : k < 8) : v * 2 ^ k < 2 ^ 32 := by
  have : 2 ^ k ≤ 2 ^ 8 := Nat.pow_le_pow_right (by decide) (by omega)
  calc v * 2 ^ k ≤ 255 * 2 ^ 8 := Nat.mul_le_mul (by omega) this
    _ < 2 ^ 32 := by decide
/-- products by the numbers that the columns are mixed with -/
theorem prd_1 : ∀ a, a < 256 → prd a 1 = a := by decide +kernel
theorem prd_2 : ∀ a, a < 256 → prd a 2 = xt a := by decide +kernel
theorem prd_3 : ∀ a, a < 256 → prd a 3 = xt a ^^^ a := by decide +kernel
theorem prd_9 : ∀ a, a < 256 → prd a 9 = xt (xt (xt a)) ^^^ a := by decide +kernel
theorem prd_11 : ∀ a, a < 256 → prd a 11 = (xt (xt (xt a)) ^^^ xt a) ^^^ a := by decide +kernel
theorem prd_13 : ∀ a, a < 256 → prd a 13 = (xt (xt (xt a)) ^^^ xt (xt a)) ^^^ a := by decide +kernel
theorem prd_14 : ∀ a, a < 256 → prd a 14 = (xt (xt (xt a)) ^^^ xt (xt a)) ^^^ xt a := by decide +kernel
set_option maxRecDepth 100000 in
theorem xt_lin0 : (List.range 8).all (fun i => (List.range 256).all (fun a => xt (a ^^^ 2 ^ i) == xt a ^^^ xt (2 ^ i))) = true := by decide +kernel
theorem xt_alt (b : Nat) (h : b < 256) : xt b = (2 * b) ^^^ (if b.testBit 7 then 283 else 0) := by
  have : ∀ b, b < 256 → xt b = (2 * b) ^^^ (if b.testBit 7 then 283 else 0) := by decide +kernel
  exact this b h
theorem two_xor (a b : Nat) : 2 * (a ^^^ b) = (2 * a) ^^^ (2 * b) := by
  apply Nat.eq_of_testBit_eq
  intro i
  cases i with
  | zero => simp [Nat.testBit_zero, Nat.mul_mod_right]
  | succ i =>
    rw [Nat.testBit_xor]
    have e : ∀ n : Nat, (2 * n).testBit (i + 1) = n.testBit i := fun n => by
      rw [Nat.testBit_succ, Nat.mul_div_cancel_left _ (by decide)]
    rw [e, e, e, Nat.testBit_xor]
theorem xor_lc (a b c : Nat) : a ^^^ (b ^^^ c) = b ^^^ (a ^^^ c) := by rw [← Nat.xor_assoc, Nat.xor_comm a b, Nat.xor_assoc]
theorem xor_cl (a b : Nat) : a ^^^ (a ^^^ b) = b := by rw [← Nat.xor_assoc, Nat.xor_self, Nat.zero_xor]
theorem xt_xor {a b : Nat} (ha : a < 256) (hb : b < 256) : xt (a ^^^ b) = xt a ^^^ xt b := by
  rw [xt_alt _ (xor_lt ha hb), xt_alt a ha, xt_alt b hb, two_xor, Nat.testBit_xor]
  cases a.testBit 7 <;> cases b.testBit 7 <;> simp [Nat.xor_assoc, Nat.xor_comm, xor_lc]
def mxP (p q s t : Nat) (B : Nat → Nat) : Nat → Nat := fun k => if k < 16 then ((prd (B ((k - k % 4) + k % 4)) p ^^^ prd (B ((k - k % 4) + (k % 4 + 1) % 4)) q) ^^^ prd (B ((k - k % 4) + (k % 4 + 2) % 4)) s) ^^^ prd (B ((k - k % 4) + (k % 4 + 3) % 4)) t else B k
theorem mxP_mix {B : Nat → Nat} (h : b16 B) : mxP 2 3 1 1 B = mixC B := by
  funext k
  unfold mxP mixC
  by_cases hk : k < 16
  · rw [if_pos hk, if_pos hk]
    have e : k / 4 * 4 = k - k % 4 := by omega
    rw [e]
    have c0 := h (k - k % 4) (by omega)
    have c1 := h (k - k % 4 + 1) (by omega)
    have c2 := h (k - k % 4 + 2) (by omega)
    have c3 := h (k - k % 4 + 3) (by omega)
    generalize k - k % 4 = c at *
    unfold colm
    rcases (show k % 4 = 0 ∨ k % 4 = 1 ∨ k % 4 = 2 ∨ k % 4 = 3 by omega) with r | r | r | r <;> rw [r] <;> simp only [Nat.add_zero, Nat.reduceAdd, Nat.reduceMod, Nat.reduceEqDiff, if_true, if_false, reduceIte]
    · rw [prd_2 _ c0, prd_3 _ c1, prd_1 _ c2, prd_1 _ c3, xt_xor c0 c1]
      simp only [Nat.xor_assoc, Nat.xor_comm, xor_lc, xor_cl]
    · rw [prd_2 _ c1, prd_3 _ c2, prd_1 _ c3, prd_1 _ c0, xt_xor c1 c2]
      simp only [Nat.xor_assoc, Nat.xor_comm, xor_lc, xor_cl]
    · rw [prd_2 _ c2, prd_3 _ c3, prd_1 _ c0, prd_1 _ c1, xt_xor c2 c3]
      simp only [Nat.xor_assoc, Nat.xor_comm, xor_lc, xor_cl]
    · rw [prd_2 _ c3, prd_3 _ c0, prd_1 _ c1, prd_1 _ c2, xt_xor c3 c0]
      simp only [Nat.xor_assoc, Nat.xor_comm, xor_lc, xor_cl]
  · rw [if_neg hk, if_neg hk]
theorem un_all {p q s t : Nat} (c0 : p < 256) (c1 : q < 256) (c2 : s < 256) (c3 : t < 256) :
    (((prd p 14 ^^^ prd q 11) ^^^ prd s 13) ^^^ prd t 9 = colm (p ^^^ xt (xt (p ^^^ s))) (q ^^^ xt (xt (q ^^^ t))) (s ^^^ xt (xt (p ^^^ s))) (t ^^^ xt (xt (q ^^^ t))) 0) ∧
    (((prd q 14 ^^^ prd s 11) ^^^ prd t 13) ^^^ prd p 9 = colm (p ^^^ xt (xt (p ^^^ s))) (q ^^^ xt (xt (q ^^^ t))) (s ^^^ xt (xt (p ^^^ s))) (t ^^^ xt (xt (q ^^^ t))) 1) ∧
    (((prd s 14 ^^^ prd t 11) ^^^ prd p 13) ^^^ prd q 9 = colm (p ^^^ xt (xt (p ^^^ s))) (q ^^^ xt (xt (q ^^^ t))) (s ^^^ xt (xt (p ^^^ s))) (t ^^^ xt (xt (q ^^^ t))) 2) ∧
    (((prd t 14 ^^^ prd p 11) ^^^ prd q 13) ^^^ prd s 9 = colm (p ^^^ xt (xt (p ^^^ s))) (q ^^^ xt (xt (q ^^^ t))) (s ^^^ xt (xt (p ^^^ s))) (t ^^^ xt (xt (q ^^^ t))) 3) := by
  have x0 := xt_lt p c0
  have x1 := xt_lt q c1
  have x2 := xt_lt s c2
  have x3 := xt_lt t c3
  have y0 := xt_lt _ x0
  have y1 := xt_lt _ x1
  have y2 := xt_lt _ x2
  have y3 := xt_lt _ x3
  have E1 : xt (xt (p ^^^ s)) = xt (xt p) ^^^ xt (xt s) := by rw [xt_xor c0 c2, xt_xor x0 x2]
  have E2 : xt (xt (q ^^^ t)) = xt (xt q) ^^^ xt (xt t) := by rw [xt_xor c1 c3, xt_xor x1 x3]
  have l0 : ∀ {a b d : Nat}, a < 256 → b < 256 → d < 256 → xt (a ^^^ (b ^^^ d)) = xt a ^^^ (xt b ^^^ xt d) := fun ha hb hd => by rw [xt_xor ha (xor_lt hb hd), xt_xor hb hd]
  have b0 := xor_lt c0 (xor_lt y0 y2)
  have b1 := xor_lt c1 (xor_lt y1 y3)
  have b2 := xor_lt c2 (xor_lt y0 y2)
  have b3 := xor_lt c3 (xor_lt y1 y3)
  rw [E1, E2]
  unfold colm
  refine ⟨?_, ?_, ?_, ?_⟩
  · rw [if_pos rfl, prd_14 _ c0, prd_11 _ c1, prd_13 _ c2, prd_9 _ c3, xt_xor b0 b1, l0 c0 y0 y2, l0 c1 y1 y3]
    simp only [Nat.xor_assoc, Nat.xor_comm, xor_lc, xor_cl]
  · rw [if_neg (by decide), if_pos rfl, prd_14 _ c1, prd_11 _ c2, prd_13 _ c3, prd_9 _ c0, xt_xor b1 b2, l0 c1 y1 y3, l0 c2 y0 y2]
    simp only [Nat.xor_assoc, Nat.xor_comm, xor_lc, xor_cl]
  · rw [if_neg (by decide), if_neg (by decide), if_pos rfl, prd_14 _ c2, prd_11 _ c3, prd_13 _ c0, prd_9 _ c1, xt_xor b2 b3, l0 c2 y0 y2, l0 c3 y1 y3]
    simp only [Nat.xor_assoc, Nat.xor_comm, xor_lc, xor_cl]
  · rw [if_neg (by decide), if_neg (by decide), if_neg (by decide), prd_14 _ c3, prd_11 _ c0, prd_13 _ c1, prd_9 _ c2, xt_xor b3 b0, l0 c3 y1 y3, l0 c0 y0 y2]
    simp only [Nat.xor_assoc, Nat.xor_comm, xor_lc, xor_cl]
theorem mxP_un {B : Nat → Nat} (h : b16 B) : mxP 14 11 13 9 B = unmixC B := by
  funext k
  unfold mxP unmixC mixC
  by_cases hk : k < 16
  · rw [if_pos hk, if_pos hk]
    obtain ⟨c, hc, r, hr, hkc⟩ : ∃ c, c < 4 ∧ ∃ r, r < 4 ∧ k = 4 * c + r := ⟨k / 4, by omega, k % 4, by omega, by omega⟩
    have e : k / 4 * 4 = 4 * c := by omega
    have e2 : k - k % 4 = 4 * c := by omega
    have e3 : k % 4 = r := by omega
    rw [e, e2, e3]
    have v0 := evn_0 B hc (r := 0) (Or.inl rfl)
    have v1 := evn_1 B hc (r := 1) (Or.inl rfl)
    have v2 := evn_0 B hc (r := 2) (Or.inr rfl)
    have v3 := evn_1 B hc (r := 3) (Or.inr rfl)
    rw [Nat.add_zero] at v0
    rw [v0, v1, v2, v3]
    have u := un_all (h (4 * c) (by omega)) (h (4 * c + 1) (by omega)) (h (4 * c + 2) (by omega)) (h (4 * c + 3) (by omega))
    rcases (show r = 0 ∨ r = 1 ∨ r = 2 ∨ r = 3 by omega) with rfl | rfl | rfl | rfl
    · exact u.1
    · exact u.2.1
    · exact u.2.2.1
    · exact u.2.2.2
  · rw [if_neg hk, if_neg hk]
    exact (evn_hi B k (by omega)).symm
def shP (B : Nat → Nat) : Nat → Nat := fun k => if k < 16 then B ((5 * k) % 16) else B k
def shM (B : Nat → Nat) : Nat → Nat := fun k => if k < 16 then B ((13 * k) % 16) else B k
def swA (B : Nat → Nat) : Nat → Nat := fun k => if k < 16 then sw (B k) else B k
def bkA (B : Nat → Nat) : Nat → Nat := fun k => if k < 16 then bk (B k) else B k
theorem swT_of (B : Nat → Nat) : shP (swA B) = swT B := by
  funext k
  unfold shP swA swT
  by_cases h : k < 16
  · rw [if_pos h, if_pos (show 5 * k % 16 < 16 by omega), if_pos h]
  · rw [if_neg h, if_neg h, if_neg h]
theorem swTB_of (B : Nat → Nat) : bkA (shM B) = swTB B := by
  funext k
  by_cases h : k < 16
  · simp only [shM, bkA, swTB, if_pos h]
  · simp only [shM, bkA, swTB, if_neg h]

