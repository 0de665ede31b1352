/-! the message of a DIGEST, written out -/
def nz (n : Nat) : Nat := (119 - n % 64) % 64
def bitB (n k : Nat) : Nat := if k < 4 then 8 * n / 2 ^ (8 * k) % 256 else 0
def pmsg (zs : List Nat) : List Nat := ((zs ++ [128]) ++ List.replicate (nz zs.length) 0) ++ (List.range 8).map (bitB zs.length)
theorem pmsg_len (zs : List Nat) : (pmsg zs).length = 64 * nch zs.length := by
  unfold pmsg
  simp only [List.length_append, List.length_cons, List.length_nil, List.length_replicate, List.length_map, List.length_range]
  unfold nz nch
  omega
theorem pmsg_lo (zs : List Nat) {k : Nat} (h : k < 64 * nch zs.length - 8) : (pmsg zs).getD k 0 = endB zs k := by
  have hl := pmsg_len zs
  have hl2 : (((zs ++ [128]) ++ List.replicate (nz zs.length) 0)).length = 64 * nch zs.length - 8 := by
    have : (pmsg zs).length = (((zs ++ [128]) ++ List.replicate (nz zs.length) 0)).length + 8 := by
      unfold pmsg
      rw [List.length_append]
      simp
    omega
  unfold pmsg
  rw [gd_left (by omega)]
  unfold endB
  by_cases h1 : k < zs.length
  · rw [gd_left (by simp; omega), gd_left h1, if_pos h1]
  · rw [if_neg h1]
    by_cases h2 : k = zs.length
    · rw [if_pos h2, gd_left (by simp; omega), gd_right (by omega), h2, Nat.sub_self]
      rfl
    · rw [if_neg h2, gd_right (by simp; omega)]
      simp [List.getD, List.getElem?_replicate]
      split <;> rfl
theorem pmsg_hi (zs : List Nat) {m : Nat} (h : m < 8) : (pmsg zs).getD (64 * nch zs.length - 8 + m) 0 = bitB zs.length m := by
  have hl2 : (((zs ++ [128]) ++ List.replicate (nz zs.length) 0)).length = 64 * nch zs.length - 8 := by
    have hl := pmsg_len zs
    have : (pmsg zs).length = (((zs ++ [128]) ++ List.replicate (nz zs.length) 0)).length + 8 := by
      unfold pmsg
      rw [List.length_append]
      simp
    omega
  unfold pmsg
  rw [gd_right (by omega), hl2, Nat.add_sub_cancel_left]
  simp [List.getD, h]
theorem nx_or9 (a b : Nat) : nI a ||| nI b = nI (a ||| b) := by
  apply Int32.toBitVec_inj.mp
  show (nI a).toBitVec ||| (nI b).toBitVec = (nI (a ||| b)).toBitVec
  apply BitVec.eq_of_toNat_eq
  have t : ∀ n, (nI n).toBitVec.toNat = n % 2 ^ 32 := fun n => by
    show (BitVec.ofNat 32 n).toNat = _
    simp
  rw [BitVec.toNat_or, t, t, t, Nat.or_mod_two_pow]
theorem le4_nat {p : Nat → Nat} {k : Nat} (h0 : p k < 256) (h1 : p (k + 1) < 256) (h2 : p (k + 2) < 256) (h3 : p (k + 3) < 256) : le4 p k = nI (p k + 256 * p (k + 1) + 65536 * p (k + 2) + 16777216 * p (k + 3)) := by
  unfold le4
  rw [pk_shlN _ 8 (by decide) (by omega), pk_shlN _ 16 (by decide) (by omega), pk_shlN _ 24 (by decide) (by omega), nx_or9, nx_or9, nx_or9]
  congr 1
  have o : ∀ (i a b : Nat), b < 2 ^ i → b ||| a * 2 ^ i = b + a * 2 ^ i := fun i a b h => by
    rw [Nat.or_comm, Nat.mul_comm, ← Nat.two_pow_add_eq_or_of_lt h, Nat.add_comm]
  rw [o 8 _ _ (by omega), o 16 _ _ (by omega), o 24 _ _ (by omega)]
  omega
theorem md_word (zs : List Nat) (hz : zs.length < 2 ^ 28) {c j : Nat} (hc : c < nch zs.length) (hj : j < 16) : le4 (fun k => (pmsg zs).getD k 0) (64 * c + 4 * j) = mdW zs c j := by
  unfold mdW
  by_cases e : c + 1 = nch zs.length ∧ j = 14
  · rw [if_pos e]
    have k0 : 64 * c + 4 * j = 64 * nch zs.length - 8 := by omega
    rw [k0]
    have b : ∀ m, m < 4 → (pmsg zs).getD (64 * nch zs.length - 8 + m) 0 = 8 * zs.length / 2 ^ (8 * m) % 256 := fun m hm => by
      rw [pmsg_hi zs (by omega)]
      unfold bitB
      rw [if_pos hm]
    have b0 := b 0 (by omega)
    have b1 := b 1 (by omega)
    have b2 := b 2 (by omega)
    have b3 := b 3 (by omega)
    rw [Nat.add_zero] at b0
    rw [le4_nat (by show (pmsg zs).getD _ 0 < 256; rw [b0]; exact Nat.mod_lt _ (by decide)) (by show (pmsg zs).getD _ 0 < 256; rw [b1]; exact Nat.mod_lt _ (by decide)) (by show (pmsg zs).getD _ 0 < 256; rw [b2]; exact Nat.mod_lt _ (by decide)) (by show (pmsg zs).getD _ 0 < 256; rw [b3]; exact Nat.mod_lt _ (by decide))]
    congr 1
    show (pmsg zs).getD _ 0 + 256 * (pmsg zs).getD _ 0 + 65536 * (pmsg zs).getD _ 0 + 16777216 * (pmsg zs).getD _ 0 = _
    rw [b0, b1, b2, b3]
    simp only [Nat.mul_zero, Nat.pow_zero, Nat.div_one, Nat.mul_one]
    omega
  · rw [if_neg e]
    have q : ∀ m, m < 4 → (pmsg zs).getD (64 * c + 4 * j + m) 0 = endB zs (c * 64 + 4 * j + m) := fun m hm => by
      by_cases e2 : 64 * c + 4 * j + m < 64 * nch zs.length - 8
      · rw [pmsg_lo zs e2, Nat.mul_comm 64 c]
      · have hn : c + 1 = nch zs.length := by omega
        have hj2 : j = 15 := by omega
        rw [show 64 * c + 4 * j + m = 64 * nch zs.length - 8 + (4 + m) by omega, pmsg_hi zs (by omega)]
        unfold bitB endB
        rw [if_neg (by omega), if_neg (by unfold nch at hn; omega), if_neg (by unfold nch at hn; omega)]
    have q0 := q 0 (by omega)
    rw [Nat.add_zero, Nat.add_zero] at q0
    unfold le4
    show ((nI ((pmsg zs).getD _ 0) ||| (nI ((pmsg zs).getD _ 0) <<< ((8 : Int32) &&& 31))) ||| (nI ((pmsg zs).getD _ 0) <<< ((16 : Int32) &&& 31))) ||| (nI ((pmsg zs).getD _ 0) <<< ((24 : Int32) &&& 31)) = _
    rw [q0, q 1 (by omega), q 2 (by omega), q 3 (by omega)]
theorem sh8s : ∀ j, j < 4 → ((nI (8 * j) &&& 31).toBitVec.smod 32).toNat = 8 * j := by decide
theorem shr_and (x : Int32) {j : Nat} (hj : j < 4) : (x >>> (nI (8 * j) &&& 31)) &&& 255 = nI (byj x j) := by
  rw [and255]
  congr 1
  have h := pk_shr x (nI (8 * j) &&& 31) (8 * j) (sh8s j hj)
  have t1 : ∀ y : Int32, y.toInt = if 2 * y.toBitVec.toNat < 2 ^ 32 then (y.toBitVec.toNat : Int) else (y.toBitVec.toNat : Int) - 2 ^ 32 := fun y => by
    show y.toBitVec.toInt = _
    rw [BitVec.toInt_eq_toNat_cond]
    simp
  have l1 : ∀ y : Int32, y.toBitVec.toNat < 2 ^ 32 := fun y => y.toBitVec.isLt
  have a1 := l1 x
  have a2 := l1 (x >>> (nI (8 * j) &&& 31))
  rw [t1, t1, Int.shiftRight_eq_div_pow] at h
  unfold byj
  generalize (x >>> (nI (8 * j) &&& 31)).toBitVec.toNat = u at *
  generalize x.toBitVec.toNat = v at *
  rcases (show j = 0 ∨ j = 1 ∨ j = 2 ∨ j = 3 by omega) with rfl | rfl | rfl | rfl
  · simp at h ⊢
    split at h <;> split at h <;> omega
  · simp at h ⊢
    split at h <;> split at h <;> omega
  · simp at h ⊢
    split at h <;> split at h <;> omega
  · simp at h ⊢
    split at h <;> split at h <;> omega
theorem q4l_at (a b c d : Int32) {k : Nat} (h : k < 16) : (q4l (a, b, c, d)).getD k 0 = byj (q4f a b c d (k / 4)) (k % 4) := by
  have g : ∀ (x : Int32) (m : Nat), m < 4 → (lof x 4).getD m 0 = byj x m := fun x m hm => by
    unfold lof
    exact (by simp [List.getD, hm])
  unfold q4l
  show ((((lof a 4 ++ lof b 4) ++ lof c 4) ++ lof d 4)).getD k 0 = _
  by_cases h3 : k < 12
  · rw [gd_left (by simp only [List.length_append, lof_len]; omega)]
    by_cases h2 : k < 8
    · rw [gd_left (by simp only [List.length_append, lof_len]; omega)]
      by_cases h1 : k < 4
      · rw [gd_left (by rw [lof_len]; omega), g a k h1, show k / 4 = 0 by omega, show k % 4 = k by omega]
        rfl
      · rw [gd_right (by rw [lof_len]; omega), lof_len, g b _ (by omega), show k / 4 = 1 by omega, show k % 4 = k - 4 by omega]
        rfl
    · rw [gd_right (by simp only [List.length_append, lof_len]; omega), show (lof a 4 ++ lof b 4).length = 8 by simp only [List.length_append, lof_len], g c _ (by omega), show k / 4 = 2 by omega, show k % 4 = k - 8 by omega]
      rfl
  · rw [gd_right (by simp only [List.length_append, lof_len]; omega), show ((lof a 4 ++ lof b 4) ++ lof c 4).length = 12 by simp only [List.length_append, lof_len], g d _ (by omega), show k / 4 = 3 by omega, show k % 4 = k - 12 by omega]
    rfl
