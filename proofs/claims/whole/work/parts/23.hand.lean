/-! THE HANDLER, as lists of numbers -/
def padN : List Nat := [0x28, 0xbf, 0x4e, 0x5e, 0x4e, 0x75, 0x8a, 0x41, 0x64, 0x00, 0x4e, 0x56, 0xff, 0xfa, 0x01, 0x08, 0x2e, 0x2e, 0x00, 0xb6, 0xd0, 0x68, 0x3e, 0x80, 0x2f, 0x0c, 0xa9, 0xfe, 0x64, 0x53, 0x69, 0x7a]
theorem padL_eq : padL = padN.map nI := by decide +kernel
theorem pad_tab (j : Nat) : tabf padL j = nI (padN.getD j 0) := by
  unfold tabf
  rw [padL_eq]
  simp only [List.getD, List.getElem?_map]
  cases padN[j]? <;> rfl
theorem byt_pad : byt padN := by unfold byt; decide +kernel
theorem pad_len : padN.length = 32 := rfl
def padd (pw : List Nat) : List Nat := pw.take (min pw.length 32) ++ padN.take (32 - min pw.length 32)
theorem padd_len (pw : List Nat) : (padd pw).length = 32 := by
  unfold padd
  rw [List.length_append, List.length_take, List.length_take, pad_len]
  omega
theorem byt_padd {pw : List Nat} (h : byt pw) : byt (padd pw) := byt_app (byt_take h _) (byt_take byt_pad _)
theorem min_nat {a b : Nat} (ha : a < 2 ^ 31) (hb : b < 2 ^ 31) : (if nI b < nI a then nI b else nI a) = nI (min a b) := by
  by_cases h : b < a
  · rw [if_pos (nI_lt h ha), Nat.min_eq_right (by omega)]
  · rw [if_neg (nI_nlt (by omega) hb), Nat.min_eq_left (by omega)]
theorem take_push {ys : List Nat} {i : Nat} (h : i < ys.length) : ys.take (i + 1) = ys.take i ++ [ys.getD i 0] := by
  rw [List.take_add_one]
  simp [List.getD, List.getElem?_eq_getElem h]
theorem and_byte {x : Nat} (h : x < 256) : nI x &&& 255 = nI x := (pk_andN (by omega) 8 rfl).trans (congrArg nI (Nat.mod_eq_of_lt h))
/-- md5 again and again, of the first m bytes -/
def again (m : Nat) : Nat → List Nat → List Nat
  | 0, d => d
  | t + 1, d => md5 ((again m t d).take m)
theorem again_len {m : Nat} {d : List Nat} (h : d.length = 16) : ∀ t, (again m t d).length = 16
  | 0 => h
  | t + 1 => md5_len _
theorem byt_again {m : Nat} {d : List Nat} (h : byt d) : ∀ t, byt (again m t d)
  | 0 => h
  | t + 1 => byt_md5 _
def keyMsg (rev perm lo : Int32) (ow nb pw : List Nat) : List Nat := (((padd pw ++ ow) ++ lof perm 4) ++ nb) ++ (if rev = 4 ∧ ¬ lo = 0 then List.replicate 4 255 else [])
def keyOf (rev : Int32) (len : Nat) (perm lo : Int32) (ow nb pw : List Nat) : List Nat := (if 3 ≤ rev then again len 50 (md5 (keyMsg rev perm lo ow nb pw)) else md5 (keyMsg rev perm lo ow nb pw)).take len
def ownKey (rev : Int32) (len : Nat) (pw : List Nat) : List Nat := (if 3 ≤ rev then again 16 50 (md5 (padd pw)) else md5 (padd pw)).take len
/-- streams by a key, its bytes ^ 0, 1 .. -/
def strms (key : List Nat) : Nat → List Nat → List Nat
  | 0, xs => xs
  | t + 1, xs => strm key t (strms key t xs)
theorem strms_len (key xs : List Nat) : ∀ t, (strms key t xs).length = xs.length
  | 0 => rfl
  | t + 1 => by rw [strms, strm_len, strms_len key xs t]
theorem byt_strms (key : List Nat) {xs : List Nat} (h : byt xs) : ∀ t, byt (strms key t xs)
  | 0 => h
  | t + 1 => byt_strm _ _ (byt_strms key h t)
def turnsOf (rev : Int32) : Nat := if 3 ≤ rev then 20 else 1
def entOf (rev : Int32) (nb key : List Nat) : List Nat := if 3 ≤ rev then strms key 20 (md5 (padN ++ nb)) ++ List.replicate 16 0 else strms key 1 padN
theorem entOf_len (rev : Int32) (nb key : List Nat) : (entOf rev nb key).length = 32 := by
  unfold entOf
  split
  · rw [List.length_append, strms_len, md5_len, List.length_replicate]
  · rw [strms_len, pad_len]
theorem byt_rep {n y : Nat} (h : y < 256) : byt (List.replicate n y) := fun x hx => by
  rw [List.eq_of_mem_replicate hx]
  exact h
theorem byt_entOf (rev : Int32) (nb key : List Nat) : byt (entOf rev nb key) := by
  unfold entOf
  split
  · exact byt_app (byt_strms _ (byt_md5 _) _) (byt_rep (by decide))
  · exact byt_strms _ byt_pad _
theorem keyOf_len (rev : Int32) {len : Nat} (h : len ≤ 16) (perm lo : Int32) (ow nb pw : List Nat) : (keyOf rev len perm lo ow nb pw).length = len := by
  unfold keyOf
  rw [List.length_take]
  split
  · rw [again_len (md5_len _)]
    omega
  · rw [md5_len]
    omega
theorem byt_keyOf (rev : Int32) (len : Nat) (perm lo : Int32) (ow nb pw : List Nat) : byt (keyOf rev len perm lo ow nb pw) := by
  unfold keyOf
  split
  · exact byt_take (byt_again (byt_md5 _) _) _
  · exact byt_take (byt_md5 _) _
theorem ownKey_len (rev : Int32) {len : Nat} (h : len ≤ 16) (pw : List Nat) : (ownKey rev len pw).length = len := by
  unfold ownKey
  rw [List.length_take]
  split
  · rw [again_len (md5_len _)]
    omega
  · rw [md5_len]
    omega
theorem byt_ownKey (rev : Int32) (len : Nat) (pw : List Nat) : byt (ownKey rev len pw) := by
  unfold ownKey
  split
  · exact byt_take (byt_again (byt_md5 _) _) _
  · exact byt_take (byt_md5 _) _
/-- is it the user's: the entry by the key, in its first bytes -/
def isUsr (rev : Int32) (nb us key : List Nat) : Prop := (entOf rev nb key).take (if 3 ≤ rev then 16 else 32) = us.take (if 3 ≤ rev then 16 else 32)
def objMsg (key : List Nat) (number generation : Int32) (meth2 : Prop) [Decidable meth2] : List Nat := ((key ++ lof number 3) ++ lof generation 2) ++ (if meth2 then hif 1933667412 else [])
def objKey (len : Nat) (key : List Nat) (number generation : Int32) (meth2 : Prop) [Decidable meth2] : List Nat := (md5 (objMsg key number generation meth2)).take (len + 5)
