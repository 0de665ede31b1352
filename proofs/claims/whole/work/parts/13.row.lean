set_option maxHeartbeats 4000000 in
set_option maxRecDepth 100000 in
theorem cX3_byteAt9 {w : Wo} {a b n : Nat} {f : Nat → Int32} {xs : List Nat} (ha : a < NW) (hb : b < NW) (hab : a ≠ b) (hwa : w a = ob 3 [.ref b, .int (nI xs.length)]) (hwb : w b = ia n f) (hf : hs f xs) (hx : xs.length ≤ n) (hn : n < 2 ^ 31) (p1 : Int32) : Ctr mX3_byteAt [.ref a, .int p1] w (PI fun r w' => w' = w ∧ r = rowAt xs p1) := by
  refine Ctr_intro okX3_byteAt rfl (Nat.le_of_ble_eq_true rfl) (L := [some (.ref a), some (.int p1)]) rfl (fun g ct C T => ?_)
  refine r_iload_n C dX3_byteAt_0 rfl ?_
  refine r_if_lt C 12 dX3_byteAt_1 (by decide) (fun c_1 => ?_) (fun c_1 => ?_)
  · skip
    refine r_iconst C dX3_byteAt_12 (v := (-1)) (by decide) ?_
    refine r_goto C 22 dX3_byteAt_13 (by decide) ?_
    exact r_ireturn C T rfl rfl dX3_byteAt_22 (⟨_, rfl, rfl, by unfold rowAt; first | exact (if_pos (Or.inl c_1)).symm | exact (if_pos (Or.inr c_9)).symm⟩)
  · skip
    refine r_iload_n C dX3_byteAt_4 rfl ?_
    refine r_aload_n C dX3_byteAt_5 rfl ?_
    refine r_get C dX3_byteAt_6 fgRX3_15 ha hwa rfl ?_
    refine r_icmp_lt C 16 dX3_byteAt_9 (by decide) (fun c_9 => ?_) (fun c_9 => ?_)
    · skip
      obtain ⟨j, hj, rfl⟩ := ix_of c_1 c_9 (by omega)
      refine r_aload_n C dX3_byteAt_16 rfl ?_
      refine r_get C dX3_byteAt_17 fgRX3_9 ha hwa rfl ?_
      refine r_iload_n C dX3_byteAt_20 rfl ?_
      refine r_ialdN C dX3_byteAt_21 hb hwb (j := j) rfl (by omega) (by omega) ?_
      exact r_ireturn C T rfl rfl dX3_byteAt_22 (⟨_, rfl, rfl, (hf j (by omega)).trans (rowAt_n hj (by omega)).symm⟩)
    · skip
      refine r_iconst C dX3_byteAt_12 (v := (-1)) (by decide) ?_
      refine r_goto C 22 dX3_byteAt_13 (by decide) ?_
      exact r_ireturn C T rfl rfl dX3_byteAt_22 (⟨_, rfl, rfl, by unfold rowAt; first | exact (if_pos (Or.inl c_1)).symm | exact (if_pos (Or.inr c_9)).symm⟩)
set_option maxHeartbeats 4000000 in
set_option maxRecDepth 100000 in
theorem cX3_clear9 {w : Wo} {a b n : Nat} {f : Nat → Int32} {xs : List Nat} (ha : a < NW) (hb : b < NW) (hab : a ≠ b) (hwa : w a = ob 3 [.ref b, .int (nI xs.length)]) (hwb : w b = ia n f) (hf : hs f xs) (hx : xs.length ≤ n) (hn : n < 2 ^ 31) : Ctr mX3_clear [.ref a] w (PV fun w' => w' = wset w a (ob 3 [.ref b, .int (nI ([] : List Nat).length)])) := by
  refine Ctr_intro okX3_clear rfl (Nat.le_of_ble_eq_true rfl) (L := [some (.ref a)]) rfl (fun g ct C T => ?_)
  refine r_aload_n C dX3_clear_0 rfl ?_
  refine r_iconst C dX3_clear_1 (v := 0) (by decide) ?_
  refine r_put C dX3_clear_2 fpRX3_15 ha hwa rfl rfl (Nat.le_of_ble_eq_true rfl) (fs' := [.ref b, .int 0]) rfl ?_
  exact r_return C T rfl dX3_clear_5 (⟨rfl, rfl⟩)
set_option maxHeartbeats 4000000 in
set_option maxRecDepth 100000 in
theorem cX3_shorten9 {w : Wo} {a b n : Nat} {f : Nat → Int32} {xs : List Nat} (ha : a < NW) (hb : b < NW) (hab : a ≠ b) (hwa : w a = ob 3 [.ref b, .int (nI xs.length)]) (hwb : w b = ia n f) (hf : hs f xs) (hx : xs.length ≤ n) (hn : n < 2 ^ 31) (p1 : Int32) : Ctr mX3_shorten [.ref a, .int p1] w (PV fun w' => w' = wset w a (ob 3 [.ref b, .int (nI (cutTo xs p1).length)])) := by
  refine Ctr_intro okX3_shorten rfl (Nat.le_of_ble_eq_true rfl) (L := [some (.ref a), some (.int p1)]) rfl (fun g ct C T => ?_)
  refine r_iload_n C dX3_shorten_0 rfl ?_
  refine r_if_lt C 17 dX3_shorten_1 (by decide) (fun c_1 => ?_) (fun c_1 => ?_)
  · skip
    exact r_return C T rfl dX3_shorten_17 (⟨rfl, by first | rw [cutTo_neg _ c_1, ws_self hwa] | (obtain ⟨j, hj, rfl⟩ := nI_of c_1; rw [cutTo_n _ hj, take_all ((nI_leI (by omega) hj).mp (by simpa using c_9)), ws_self hwa])⟩)
  · skip
    refine r_iload_n C dX3_shorten_4 rfl ?_
    refine r_aload_n C dX3_shorten_5 rfl ?_
    refine r_get C dX3_shorten_6 fgRX3_15 ha hwa rfl ?_
    refine r_icmp_ge C 17 dX3_shorten_9 (by decide) (fun c_9 => ?_) (fun c_9 => ?_)
    · skip
      exact r_return C T rfl dX3_shorten_17 (⟨rfl, by first | rw [cutTo_neg _ c_1, ws_self hwa] | (obtain ⟨j, hj, rfl⟩ := nI_of c_1; rw [cutTo_n _ hj, take_all ((nI_leI (by omega) hj).mp (by simpa using c_9)), ws_self hwa])⟩)
    · skip
      obtain ⟨j, hj, rfl⟩ := ix_of c_1 (by simpa using c_9) (by omega)
      refine r_aload_n C dX3_shorten_12 rfl ?_
      refine r_iload_n C dX3_shorten_13 rfl ?_
      refine r_put C dX3_shorten_14 fpRX3_15 ha hwa rfl rfl (Nat.le_of_ble_eq_true rfl) (fs' := [.ref b, .int (nI j)]) rfl ?_
      exact r_return C T rfl dX3_shorten_17 (⟨rfl, by rw [cutTo_n _ (by omega), List.length_take, Nat.min_eq_left (by omega)]⟩)
set_option maxHeartbeats 4000000 in
set_option maxRecDepth 100000 in
theorem cX3_add9 {w : Wo} {a b n : Nat} {f : Nat → Int32} {xs : List Nat} (ha : a < NW) (hb : b < NW) (hab : a ≠ b) (hwa : w a = ob 3 [.ref b, .int (nI xs.length)]) (hwb : w b = ia n f) (hf : hs f xs) (hx : xs.length ≤ n) (hn : n < 2 ^ 31) (hk : xs.length < n) {x : Int32} {y : Nat} (hy : x &&& 255 = nI y) : Ctr mX3_add [.ref a, .int x] w (PV fun w' => ∃ f', w' = wset (wset w b (ia n f')) a (ob 3 [.ref b, .int (nI (xs ++ [y]).length)]) ∧ hs f' (xs ++ [y])) := by
  refine Ctr_intro okX3_add rfl (Nat.le_of_ble_eq_true rfl) (L := [some (.ref a), some (.int x)]) rfl (fun g ct C T => ?_)
  refine r_aload_n C dX3_add_0 rfl ?_
  refine r_get C dX3_add_1 fgRX3_15 ha hwa rfl ?_
  refine r_aload_n C dX3_add_4 rfl ?_
  refine r_get C dX3_add_5 fgRX3_9 ha hwa rfl ?_
  refine r_alen C dX3_add_8 hb hwb ?_
  refine r_icmp_ge C 36 dX3_add_9 (by decide) (fun c_9 => ?_) (fun c_9 => ?_)
  · skip
    exact absurd c_9 (nI_ge hk hn)
  · skip
    have c_9 : ¬ (n ≤ xs.length) := fun h9 => c_9 ((nI_leI (a := n) (b := xs.length) (by omega) (by omega)).mpr h9)
    refine r_aload_n C dX3_add_12 rfl ?_
    refine r_get C dX3_add_13 fgRX3_9 ha hwa rfl ?_
    refine r_aload_n C dX3_add_16 rfl ?_
    refine r_get C dX3_add_17 fgRX3_15 ha hwa rfl ?_
    refine r_iload_n C dX3_add_20 rfl ?_
    refine r_sipush C dX3_add_21 (v := 255) (by decide) ?_
    refine r_iand C dX3_add_24 ?_
    refine r_iastN C dX3_add_25 hb hwb (j := xs.length) rfl (by omega) (by omega) ?_
    refine r_aload_n C dX3_add_26 rfl ?_
    refine r_dup C dX3_add_27 rfl ?_
    refine r_get C dX3_add_28 fgRX3_15 ha (ws_ne hab hwa) rfl ?_
    refine r_iconst C dX3_add_31 (v := 1) (by decide) ?_
    refine r_iadd C dX3_add_32 ?_
    refine r_top (nI_add xs.length 1) ?_
    refine r_put C dX3_add_33 fpRX3_15 ha (ws_ne hab hwa) rfl rfl (Nat.le_of_ble_eq_true rfl) (fs' := [.ref b, .int (nI (xs.length + 1))]) rfl ?_
    exact r_return C T rfl dX3_add_36 (⟨rfl, _, by rw [len_push], hs_push hf hy⟩)
