/-! BLOCKS, as numbers -/
def swN : List Nat := [99, 124, 119, 123, 242, 107, 111, 197, 48, 1, 103, 43, 254, 215, 171, 118, 202, 130, 201, 125, 250, 89, 71, 240, 173, 212, 162, 175, 156, 164, 114, 192, 183, 253, 147, 38, 54, 63, 247, 204, 52, 165, 229, 241, 113, 216, 49, 21, 4, 199, 35, 195, 24, 150, 5, 154, 7, 18, 128, 226, 235, 39, 178, 117, 9, 131, 44, 26, 27, 110, 90, 160, 82, 59, 214, 179, 41, 227, 47, 132, 83, 209, 0, 237, 32, 252, 177, 91, 106, 203, 190, 57, 74, 76, 88, 207, 208, 239, 170, 251, 67, 77, 51, 133, 69, 249, 2, 127, 80, 60, 159, 168, 81, 163, 64, 143, 146, 157, 56, 245, 188, 182, 218, 33, 16, 255, 243, 210, 205, 12, 19, 236, 95, 151, 68, 23, 196, 167, 126, 61, 100, 93, 25, 115, 96, 129, 79, 220, 34, 42, 144, 136, 70, 238, 184, 20, 222, 94, 11, 219, 224, 50, 58, 10, 73, 6, 36, 92, 194, 211, 172, 98, 145, 149, 228, 121, 231, 200, 55, 109, 141, 213, 78, 169, 108, 86, 244, 234, 101, 122, 174, 8, 186, 120, 37, 46, 28, 166, 180, 198, 232, 221, 116, 31, 75, 189, 139, 138, 112, 62, 181, 102, 72, 3, 246, 14, 97, 53, 87, 185, 134, 193, 29, 158, 225, 248, 152, 17, 105, 217, 142, 148, 155, 30, 135, 233, 206, 85, 40, 223, 140, 161, 137, 13, 191, 230, 66, 104, 65, 153, 45, 15, 176, 84, 187, 22]
def bkN : List Nat := [82, 9, 106, 213, 48, 54, 165, 56, 191, 64, 163, 158, 129, 243, 215, 251, 124, 227, 57, 130, 155, 47, 255, 135, 52, 142, 67, 68, 196, 222, 233, 203, 84, 123, 148, 50, 166, 194, 35, 61, 238, 76, 149, 11, 66, 250, 195, 78, 8, 46, 161, 102, 40, 217, 36, 178, 118, 91, 162, 73, 109, 139, 209, 37, 114, 248, 246, 100, 134, 104, 152, 22, 212, 164, 92, 204, 93, 101, 182, 146, 108, 112, 72, 80, 253, 237, 185, 218, 94, 21, 70, 87, 167, 141, 157, 132, 144, 216, 171, 0, 140, 188, 211, 10, 247, 228, 88, 5, 184, 179, 69, 6, 208, 44, 30, 143, 202, 63, 15, 2, 193, 175, 189, 3, 1, 19, 138, 107, 58, 145, 17, 65, 79, 103, 220, 234, 151, 242, 207, 206, 240, 180, 230, 115, 150, 172, 116, 34, 231, 173, 53, 133, 226, 249, 55, 232, 28, 117, 223, 110, 71, 241, 26, 113, 29, 41, 197, 137, 111, 183, 98, 14, 170, 24, 190, 27, 252, 86, 62, 75, 198, 210, 121, 32, 154, 219, 192, 254, 120, 205, 90, 244, 31, 221, 168, 51, 136, 7, 199, 49, 177, 18, 16, 89, 39, 128, 236, 95, 96, 81, 127, 169, 25, 181, 74, 13, 45, 229, 122, 159, 147, 201, 156, 239, 160, 224, 59, 77, 174, 42, 245, 176, 200, 235, 187, 60, 131, 83, 153, 97, 23, 43, 4, 126, 186, 119, 214, 38, 225, 105, 20, 99, 85, 33, 12, 125]
def sw (x : Nat) : Nat := swN.getD x 0
def bk (x : Nat) : Nat := bkN.getD x 0
theorem swL_eq : swL = swN.map nI := by decide +kernel
theorem sw_tab (j : Nat) : tabf swL j = nI (sw j) := by
  unfold tabf sw
  rw [swL_eq]
  simp only [List.getD, List.getElem?_map]
  cases swN[j]? <;> rfl
theorem sw_lt (x : Nat) : sw x < 256 := by
  unfold sw
  by_cases h : x < swN.length
  · have : ∀ y ∈ swN, y < 256 := by decide +kernel
    simp only [List.getD, List.getElem?_eq_getElem h, Option.getD_some]
    exact this _ (List.getElem_mem _)
  · simp only [List.getD, List.getElem?_eq_none (Nat.le_of_not_lt h), Option.getD_none]
    decide
theorem bk_lt (x : Nat) : bk x < 256 := by
  unfold bk
  by_cases h : x < bkN.length
  · have : ∀ y ∈ bkN, y < 256 := by decide +kernel
    simp only [List.getD, List.getElem?_eq_getElem h, Option.getD_some]
    exact this _ (List.getElem_mem _)
  · simp only [List.getD, List.getElem?_eq_none (Nat.le_of_not_lt h), Option.getD_none]
    decide
theorem sw_bk : ∀ x, x < 256 → sw (bk x) = x := by decide +kernel
theorem bk_sw : ∀ x, x < 256 → bk (sw x) = x := by decide +kernel
/-- the product with 2 -/
def xt (b : Nat) : Nat := if b < 128 then 2 * b else (2 * b) ^^^ 283
theorem xt_lt : ∀ b, b < 256 → xt b < 256 := by decide +kernel
theorem and128 : ∀ b, b < 256 → ((nI b &&& 128 = 0) ↔ b < 128) := by decide +kernel
theorem shl1 {b : Nat} (h : b < 2 ^ 30) : nI b <<< ((1 : Int32) &&& 31) = nI (2 * b) := by
  rw [pk_shlN _ 1 (by decide) (by omega)]
  congr 1
  omega
/-- arrays of numbers -/
def nf (B : Nat → Nat) : Nat → Int32 := fun k => nI (B k)
theorem nf_at (B : Nat → Nat) (k : Nat) : nf B k = nI (B k) := rfl
def upn (B : Nat → Nat) (j x : Nat) : Nat → Nat := fun k => if k = j then x else B k
theorem upn_eq {B : Nat → Nat} {j x : Nat} : upn B j x j = x := if_pos rfl
theorem upn_ne {B : Nat → Nat} {j x k : Nat} (h : k ≠ j) : upn B j x k = B k := if_neg h
theorem upd_nf (B : Nat → Nat) (j x : Nat) : upd (nf B) j (nI x) = nf (upn B j x) := by
  funext k
  unfold upd nf upn
  split <;> rfl
theorem nf_of (f : Nat → Int32) : f = nf (fun k => (f k).toBitVec.toNat) := by
  funext k
  unfold nf
  apply Int32.toBitVec_inj.mp
  show _ = BitVec.ofNat 32 _
  simp
def addC (K : Nat → Nat) (r : Nat) (B : Nat → Nat) : Nat → Nat := fun k => if k < 16 then B k ^^^ K (16 * r + k) else B k
def swT (B : Nat → Nat) : Nat → Nat := fun k => if k < 16 then sw (B ((5 * k) % 16)) else B k
def swTB (B : Nat → Nat) : Nat → Nat := fun k => if k < 16 then bk (B ((13 * k) % 16)) else B k
def colm (p q s t r : Nat) : Nat := if r = 0 then (p ^^^ (((p ^^^ q) ^^^ s) ^^^ t)) ^^^ xt (p ^^^ q) else if r = 1 then (q ^^^ (((p ^^^ q) ^^^ s) ^^^ t)) ^^^ xt (q ^^^ s) else if r = 2 then (s ^^^ (((p ^^^ q) ^^^ s) ^^^ t)) ^^^ xt (s ^^^ t) else (t ^^^ (((p ^^^ q) ^^^ s) ^^^ t)) ^^^ xt (t ^^^ p)
def mixC (B : Nat → Nat) : Nat → Nat := fun k => if k < 16 then colm (B (k / 4 * 4)) (B (k / 4 * 4 + 1)) (B (k / 4 * 4 + 2)) (B (k / 4 * 4 + 3)) (k % 4) else B k
def evn (B : Nat → Nat) : Nat → Nat := fun k => if k < 16 then (if k % 2 = 0 then B k ^^^ xt (xt (B (k / 4 * 4) ^^^ B (k / 4 * 4 + 2))) else B k ^^^ xt (xt (B (k / 4 * 4 + 1) ^^^ B (k / 4 * 4 + 3)))) else B k
def unmixC (B : Nat → Nat) : Nat → Nat := mixC (evn B)
def b16 (B : Nat → Nat) : Prop := ∀ k, k < 16 → B k < 256
theorem b16_addC {K B : Nat → Nat} {r : Nat} (hK : ∀ k, k < 176 → K k < 256) (hr : r ≤ 10) (h : b16 B) : b16 (addC K r B) := fun k hk => by
  unfold addC
  rw [if_pos hk]
  exact xor_lt (h k hk) (hK _ (by omega))
theorem b16_swT {B : Nat → Nat} : b16 (swT B) := fun k hk => by
  unfold swT
  rw [if_pos hk]
  exact sw_lt _
theorem b16_swTB {B : Nat → Nat} : b16 (swTB B) := fun k hk => by
  unfold swTB
  rw [if_pos hk]
  exact bk_lt _
theorem colm_lt {p q s t r : Nat} (hp : p < 256) (hq : q < 256) (hs : s < 256) (ht : t < 256) : colm p q s t r < 256 := by
  unfold colm
  have ha : (((p ^^^ q) ^^^ s) ^^^ t) < 256 := xor_lt (xor_lt (xor_lt hp hq) hs) ht
  split
  · exact xor_lt (xor_lt hp ha) (xt_lt _ (xor_lt hp hq))
  · split
    · exact xor_lt (xor_lt hq ha) (xt_lt _ (xor_lt hq hs))
    · split
      · exact xor_lt (xor_lt hs ha) (xt_lt _ (xor_lt hs ht))
      · exact xor_lt (xor_lt ht ha) (xt_lt _ (xor_lt ht hp))
theorem b16_mixC {B : Nat → Nat} (h : b16 B) : b16 (mixC B) := fun k hk => by
  unfold mixC
  rw [if_pos hk]
  exact colm_lt (h _ (by omega)) (h _ (by omega)) (h _ (by omega)) (h _ (by omega))
theorem b16_evn {B : Nat → Nat} (h : b16 B) : b16 (evn B) := fun k hk => by
  unfold evn
  rw [if_pos hk]
  split
  · exact xor_lt (h k hk) (xt_lt _ (xt_lt _ (xor_lt (h _ (by omega)) (h _ (by omega)))))
  · exact xor_lt (h k hk) (xt_lt _ (xt_lt _ (xor_lt (h _ (by omega)) (h _ (by omega)))))
theorem b16_unmixC {B : Nat → Nat} (h : b16 B) : b16 (unmixC B) := b16_mixC (b16_evn h)
/-- a column's four places, written one after the other -/
theorem col4 {B1 G : Nat → Nat} {c x0 x1 x2 x3 : Nat} (h : ∀ k, k < 4 * c → B1 k = G k) (h0 : x0 = G (4 * c)) (h1 : x1 = G (4 * c + 1)) (h2 : x2 = G (4 * c + 2)) (h3 : x3 = G (4 * c + 3)) : ∀ k, k < 4 * (c + 1) → upn (upn (upn (upn B1 (4 * c) x0) (4 * c + 1) x1) (4 * c + 2) x2) (4 * c + 3) x3 k = G k := by
  intro k hk
  unfold upn
  by_cases e3 : k = 4 * c + 3
  · rw [if_pos e3, h3, e3]
  · rw [if_neg e3]
    by_cases e2 : k = 4 * c + 2
    · rw [if_pos e2, h2, e2]
    · rw [if_neg e2]
      by_cases e1 : k = 4 * c + 1
      · rw [if_pos e1, h1, e1]
      · rw [if_neg e1]
        by_cases e0 : k = 4 * c
        · rw [if_pos e0, h0, e0]
        · rw [if_neg e0]
          exact h k (by omega)
theorem col4' {B1 B : Nat → Nat} {c x0 x1 x2 x3 : Nat} (h : ∀ k, 4 * c ≤ k → B1 k = B k) : ∀ k, 4 * (c + 1) ≤ k → upn (upn (upn (upn B1 (4 * c) x0) (4 * c + 1) x1) (4 * c + 2) x2) (4 * c + 3) x3 k = B k := by
  intro k hk
  unfold upn
  rw [if_neg (by omega), if_neg (by omega), if_neg (by omega), if_neg (by omega)]
  exact h k (by omega)
theorem mixC_col (B : Nat → Nat) {c r : Nat} (hc : c < 4) (hr : r < 4) : mixC B (4 * c + r) = colm (B (4 * c)) (B (4 * c + 1)) (B (4 * c + 2)) (B (4 * c + 3)) r := by
  unfold mixC
  rw [if_pos (by omega), show (4 * c + r) / 4 * 4 = 4 * c by omega, show (4 * c + r) % 4 = r by omega]
theorem evn_0 (B : Nat → Nat) {c r : Nat} (hc : c < 4) (hr : r = 0 ∨ r = 2) : evn B (4 * c + r) = B (4 * c + r) ^^^ xt (xt (B (4 * c) ^^^ B (4 * c + 2))) := by
  unfold evn
  rw [if_pos (by omega), if_pos (by omega), show (4 * c + r) / 4 * 4 = 4 * c by omega]
theorem evn_1 (B : Nat → Nat) {c r : Nat} (hc : c < 4) (hr : r = 1 ∨ r = 3) : evn B (4 * c + r) = B (4 * c + r) ^^^ xt (xt (B (4 * c + 1) ^^^ B (4 * c + 3))) := by
  unfold evn
  rw [if_pos (by omega), if_neg (by omega), show (4 * c + r) / 4 * 4 = 4 * c by omega]
theorem fun_lh {B1 B G : Nat → Nat} {n : Nat} (h1 : ∀ k, k < n → B1 k = G k) (h2 : ∀ k, n ≤ k → B1 k = B k) (h3 : ∀ k, n ≤ k → G k = B k) : B1 = G := by
  funext k
  by_cases h : k < n
  · exact h1 k h
  · rw [h2 k (by omega), h3 k (by omega)]
theorem mixC_hi (B : Nat → Nat) : ∀ k, 16 ≤ k → mixC B k = B k := fun k h => if_neg (by omega)
theorem evn_hi (B : Nat → Nat) : ∀ k, 16 ≤ k → evn B k = B k := fun k h => if_neg (by omega)
theorem addC_hi (K B : Nat → Nat) (r : Nat) : ∀ k, 16 ≤ k → addC K r B k = B k := fun k h => if_neg (by omega)
theorem swT_hi (B : Nat → Nat) : ∀ k, 16 ≤ k → swT B k = B k := fun k h => if_neg (by omega)
theorem upn_lt {B1 G : Nat → Nat} {i x : Nat} (h : ∀ k, k < i → B1 k = G k) (hx : x = G i) : ∀ k, k < i + 1 → upn B1 i x k = G k := by
  intro k hk
  unfold upn
  by_cases e : k = i
  · rw [if_pos e, e, hx]
  · rw [if_neg e]
    exact h k (by omega)
theorem upn_ge {B1 B : Nat → Nat} {i x : Nat} (h : ∀ k, i ≤ k → B1 k = B k) : ∀ k, i + 1 ≤ k → upn B1 i x k = B k := by
  intro k hk
  unfold upn
  rw [if_neg (by omega)]
  exact h k (by omega)
theorem cpy16 {B : Nat → Nat} {g : Nat → Int32} {j : Nat} (h : j < 16) : va_cpy (nf B) g 0 0 16 j = nI (B j) := by
  rw [pk_cpy_in (Nat.zero_le _) (by omega)]
  simp [nf]
/-- making and undoing a block -/
def mkR (K : Nat → Nat) : Nat → (Nat → Nat) → (Nat → Nat)
  | 0, B => addC K 0 B
  | r + 1, B => addC K (r + 1) (if r + 1 < 10 then mixC (swT (mkR K r B)) else swT (mkR K r B))
def mkB (K : Nat → Nat) (B : Nat → Nat) : Nat → Nat := mkR K 10 B
/-- round r .. 1 undone -/
def umR (K : Nat → Nat) : Nat → (Nat → Nat) → (Nat → Nat)
  | 0, B => B
  | r + 1, B => swTB (if 10 - r < 10 then unmixC (addC K (10 - r) (umR K r B)) else addC K (10 - r) (umR K r B))
def umB (K : Nat → Nat) (B : Nat → Nat) : Nat → Nat := addC K 0 (umR K 10 B)
theorem b16_mkR {K B : Nat → Nat} (hK : ∀ k, k < 176 → K k < 256) (h : b16 B) : ∀ r, r ≤ 10 → b16 (mkR K r B)
  | 0, _ => b16_addC hK (by omega) h
  | r + 1, hr => by
    unfold mkR
    refine b16_addC hK hr ?_
    split
    · exact b16_mixC b16_swT
    · exact b16_swT
theorem b16_umR {K B : Nat → Nat} (hK : ∀ k, k < 176 → K k < 256) (h : b16 B) : ∀ r, r ≤ 10 → b16 (umR K r B)
  | 0, _ => h
  | r + 1, hr => by
    unfold umR
    exact b16_swTB
/-- the key's columns -/
def exS (K0 : Nat → Nat) : Nat → (Nat → Nat) × Nat
  | 0 => (K0, 1)
  | c + 1 => if c % 4 = 0 then (upn (upn (upn (upn (exS K0 c).1 (4 * (c + 4)) (((exS K0 c).1 (4 * (c + 4) - 16) ^^^ sw ((exS K0 c).1 (4 * (c + 4) - 3))) ^^^ (exS K0 c).2)) (4 * (c + 4) + 1) ((exS K0 c).1 (4 * (c + 4) - 15) ^^^ sw ((exS K0 c).1 (4 * (c + 4) - 2)))) (4 * (c + 4) + 2) ((exS K0 c).1 (4 * (c + 4) - 14) ^^^ sw ((exS K0 c).1 (4 * (c + 4) - 1)))) (4 * (c + 4) + 3) ((exS K0 c).1 (4 * (c + 4) - 13) ^^^ sw ((exS K0 c).1 (4 * (c + 4) - 4))), xt (exS K0 c).2)
    else (fun k => if 4 * (c + 4) ≤ k ∧ k < 4 * (c + 4) + 4 then (exS K0 c).1 (k - 16) ^^^ (exS K0 c).1 (k - 4) else (exS K0 c).1 k, (exS K0 c).2)
def kx (ys : List Nat) : Nat → Nat := (exS (fun k => ys.getD k 0) 40).1
theorem exS_lt {K0 : Nat → Nat} (h0 : ∀ k, K0 k < 256) : ∀ c, (∀ k, (exS K0 c).1 k < 256) ∧ (exS K0 c).2 < 256
  | 0 => ⟨h0, by show 1 < 256; decide⟩
  | c + 1 => by
    obtain ⟨h1, h2⟩ := exS_lt h0 c
    unfold exS
    split
    · refine ⟨fun k => ?_, xt_lt _ h2⟩
      show upn _ _ _ k < 256
      unfold upn
      split
      · exact xor_lt (h1 _) (sw_lt _)
      · split
        · exact xor_lt (h1 _) (sw_lt _)
        · split
          · exact xor_lt (h1 _) (sw_lt _)
          · split
            · exact xor_lt (xor_lt (h1 _) (sw_lt _)) h2
            · exact h1 k
    · refine ⟨fun k => ?_, h2⟩
      show (if _ then _ else _) < 256
      split
      · exact xor_lt (h1 _) (h1 _)
      · exact h1 k
theorem kx_lt {ys : List Nat} (h : byt ys) (k : Nat) : kx ys k < 256 := (exS_lt (fun k => byt_getD h k) 40).1 k

