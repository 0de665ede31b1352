set_option maxHeartbeats 4000000 in
set_option maxRecDepth 100000 in
theorem cX3_byteAt9 {w : Wo} {a b n : Nat} {f : Nat → Int32} {xs : List Nat} (ha : a < NW) (hb : b < NW) (hab : a ≠ b) (hwa : w a = ob 3 [.ref b, .int (nI xs.length)]) (hwb : w b = ia n f) (hf : hs f xs) (hx : xs.length ≤ n) (hn : n < 2 ^ 31) (p1 : Int32) : Ctr mX3_byteAt [.ref a, .int p1] w (PI fun r w' => w' = w ∧ r = rowAt xs p1) := by
  refine Ctr_intro okX3_byteAt rfl (Nat.le_of_ble_eq_true rfl) (L := [some (.ref a), some (.int p1)]) rfl (fun g ct C T_ => ?_)
  refine r_iload_n C dX3_byteAt_0 rfl ?_
  refine r_if_lt C 12 dX3_byteAt_1 (by decide) (fun c_1 => ?_) (fun c_1 => ?_)
  · skip
    refine r_iconst C dX3_byteAt_12 (v := (-1)) (by decide) ?_
    refine r_goto C 22 dX3_byteAt_13 (by decide) ?_
    exact r_ireturn C T_ rfl rfl dX3_byteAt_22 (⟨_, rfl, rfl, by unfold rowAt; first | exact (if_pos (Or.inl c_1)).symm | exact (if_pos (Or.inr c_9)).symm⟩)
  · skip
    refine r_iload_n C dX3_byteAt_4 rfl ?_
    refine r_aload_n C dX3_byteAt_5 rfl ?_
    refine r_get C dX3_byteAt_6 fgRX3_15 ha hwa rfl ?_
    refine r_icmp_lt C 16 dX3_byteAt_9 (by decide) (fun c_9 => ?_) (fun c_9 => ?_)
    · skip
      obtain ⟨j, hj, rfl⟩ := ix_of c_1 c_9 (by omega)
      refine r_aload_n C dX3_byteAt_16 rfl ?_
      refine r_get C dX3_byteAt_17 fgRX3_9 ha hwa rfl ?_
      refine r_iload_n C dX3_byteAt_20 rfl ?_
      refine r_ialdN C dX3_byteAt_21 hb hwb (j := j) rfl (by omega) (by omega) ?_
      exact r_ireturn C T_ rfl rfl dX3_byteAt_22 (⟨_, rfl, rfl, (hf j (by omega)).trans (rowAt_n hj (by omega)).symm⟩)
    · skip
      refine r_iconst C dX3_byteAt_12 (v := (-1)) (by decide) ?_
      refine r_goto C 22 dX3_byteAt_13 (by decide) ?_
      exact r_ireturn C T_ rfl rfl dX3_byteAt_22 (⟨_, rfl, rfl, by unfold rowAt; first | exact (if_pos (Or.inl c_1)).symm | exact (if_pos (Or.inr c_9)).symm⟩)
set_option maxHeartbeats 4000000 in
set_option maxRecDepth 100000 in
theorem cX3_clear9 {w : Wo} {a b n : Nat} {f : Nat → Int32} {xs : List Nat} (ha : a < NW) (hb : b < NW) (hab : a ≠ b) (hwa : w a = ob 3 [.ref b, .int (nI xs.length)]) (hwb : w b = ia n f) (hf : hs f xs) (hx : xs.length ≤ n) (hn : n < 2 ^ 31) : Ctr mX3_clear [.ref a] w (PV fun w' => w' = wset w a (ob 3 [.ref b, .int (nI ([] : List Nat).length)])) := by
  refine Ctr_intro okX3_clear rfl (Nat.le_of_ble_eq_true rfl) (L := [some (.ref a)]) rfl (fun g ct C T_ => ?_)
  refine r_aload_n C dX3_clear_0 rfl ?_
  refine r_iconst C dX3_clear_1 (v := 0) (by decide) ?_
  refine r_put C dX3_clear_2 fpRX3_15 ha hwa rfl rfl (Nat.le_of_ble_eq_true rfl) (fs' := [.ref b, .int 0]) rfl ?_
  exact r_return C T_ rfl dX3_clear_5 (⟨rfl, rfl⟩)
set_option maxHeartbeats 4000000 in
set_option maxRecDepth 100000 in
theorem cX3_shorten9 {w : Wo} {a b n : Nat} {f : Nat → Int32} {xs : List Nat} (ha : a < NW) (hb : b < NW) (hab : a ≠ b) (hwa : w a = ob 3 [.ref b, .int (nI xs.length)]) (hwb : w b = ia n f) (hf : hs f xs) (hx : xs.length ≤ n) (hn : n < 2 ^ 31) (p1 : Int32) : Ctr mX3_shorten [.ref a, .int p1] w (PV fun w' => w' = wset w a (ob 3 [.ref b, .int (nI (cutTo xs p1).length)])) := by
  refine Ctr_intro okX3_shorten rfl (Nat.le_of_ble_eq_true rfl) (L := [some (.ref a), some (.int p1)]) rfl (fun g ct C T_ => ?_)
  refine r_iload_n C dX3_shorten_0 rfl ?_
  refine r_if_lt C 17 dX3_shorten_1 (by decide) (fun c_1 => ?_) (fun c_1 => ?_)
  · skip
    exact r_return C T_ rfl dX3_shorten_17 (⟨rfl, by first | rw [cutTo_neg _ c_1, ws_self hwa] | (obtain ⟨j, hj, rfl⟩ := nI_of c_1; rw [cutTo_n _ hj, take_all ((nI_leI (by omega) hj).mp (by simpa using c_9)), ws_self hwa])⟩)
  · skip
    refine r_iload_n C dX3_shorten_4 rfl ?_
    refine r_aload_n C dX3_shorten_5 rfl ?_
    refine r_get C dX3_shorten_6 fgRX3_15 ha hwa rfl ?_
    refine r_icmp_ge C 17 dX3_shorten_9 (by decide) (fun c_9 => ?_) (fun c_9 => ?_)
    · skip
      exact r_return C T_ rfl dX3_shorten_17 (⟨rfl, by first | rw [cutTo_neg _ c_1, ws_self hwa] | (obtain ⟨j, hj, rfl⟩ := nI_of c_1; rw [cutTo_n _ hj, take_all ((nI_leI (by omega) hj).mp (by simpa using c_9)), ws_self hwa])⟩)
    · skip
      obtain ⟨j, hj, rfl⟩ := ix_of c_1 (by simpa using c_9) (by omega)
      refine r_aload_n C dX3_shorten_12 rfl ?_
      refine r_iload_n C dX3_shorten_13 rfl ?_
      refine r_put C dX3_shorten_14 fpRX3_15 ha hwa rfl rfl (Nat.le_of_ble_eq_true rfl) (fs' := [.ref b, .int (nI j)]) rfl ?_
      exact r_return C T_ rfl dX3_shorten_17 (⟨rfl, by rw [cutTo_n _ (by omega), List.length_take, Nat.min_eq_left (by omega)]⟩)
set_option maxHeartbeats 4000000 in
set_option maxRecDepth 100000 in
theorem cX3_add9 {w : Wo} {a b n : Nat} {f : Nat → Int32} {xs : List Nat} (ha : a < NW) (hb : b < NW) (hab : a ≠ b) (hwa : w a = ob 3 [.ref b, .int (nI xs.length)]) (hwb : w b = ia n f) (hf : hs f xs) (hx : xs.length ≤ n) (hn : n < 2 ^ 31) (hk : xs.length < n) {x : Int32} {y : Nat} (hy : x &&& 255 = nI y) : Ctr mX3_add [.ref a, .int x] w (PV fun w' => ∃ f', w' = wset (wset w b (ia n f')) a (ob 3 [.ref b, .int (nI (xs ++ [y]).length)]) ∧ hs f' (xs ++ [y])) := by
  refine Ctr_intro okX3_add rfl (Nat.le_of_ble_eq_true rfl) (L := [some (.ref a), some (.int x)]) rfl (fun g ct C T_ => ?_)
  refine r_aload_n C dX3_add_0 rfl ?_
  refine r_get C dX3_add_1 fgRX3_15 ha hwa rfl ?_
  refine r_aload_n C dX3_add_4 rfl ?_
  refine r_get C dX3_add_5 fgRX3_9 ha hwa rfl ?_
  refine r_alen C dX3_add_8 hb hwb ?_
  refine r_icmp_ge C 36 dX3_add_9 (by decide) (fun c_9 => ?_) (fun c_9 => ?_)
  · skip
    exact absurd c_9 (nI_ge hk hn)
  · skip
    have c_9 : ¬ (n ≤ xs.length) := fun h9 => c_9 ((nI_leI (a := n) (b := xs.length) (by omega) (by omega)).mpr h9)
    refine r_aload_n C dX3_add_12 rfl ?_
    refine r_get C dX3_add_13 fgRX3_9 ha hwa rfl ?_
    refine r_aload_n C dX3_add_16 rfl ?_
    refine r_get C dX3_add_17 fgRX3_15 ha hwa rfl ?_
    refine r_iload_n C dX3_add_20 rfl ?_
    refine r_sipush C dX3_add_21 (v := 255) (by decide) ?_
    refine r_iand C dX3_add_24 ?_
    refine r_iastN C dX3_add_25 hb hwb (j := xs.length) rfl (by omega) (by omega) ?_
    refine r_aload_n C dX3_add_26 rfl ?_
    refine r_dup C dX3_add_27 rfl ?_
    refine r_get C dX3_add_28 fgRX3_15 ha (ws_ne hab hwa) rfl ?_
    refine r_iconst C dX3_add_31 (v := 1) (by decide) ?_
    refine r_iadd C dX3_add_32 ?_
    refine r_top (y := nI (xs.length + 1)) (nI_add xs.length 1) ?_
    refine r_put C dX3_add_33 fpRX3_15 ha (ws_ne hab hwa) rfl rfl (Nat.le_of_ble_eq_true rfl) (fs' := [.ref b, .int (nI (xs.length + 1))]) rfl ?_
    exact r_return C T_ rfl dX3_add_36 (⟨rfl, _, by rw [len_push], hs_push hf hy⟩)
set_option maxHeartbeats 4000000 in
set_option maxRecDepth 100000 in
theorem cX3_addTimes9 {w : Wo} {a b n : Nat} {f : Nat → Int32} {xs : List Nat} (ha : a < NW) (hb : b < NW) (hab : a ≠ b) (hwa : w a = ob 3 [.ref b, .int (nI xs.length)]) (hwb : w b = ia n f) (hf : hs f xs) (hx : xs.length ≤ n) (hn : n < 2 ^ 31) {x : Int32} {y t : Nat} (hy : x &&& 255 = nI y) (hk : xs.length + t ≤ n) : Ctr mX3_addTimes [.ref a, .int x, .int (nI t)] w (PV fun w' => ∃ f', w' = wset (wset w b (ia n f')) a (ob 3 [.ref b, .int (nI (xs ++ List.replicate t y).length)]) ∧ hs f' (xs ++ List.replicate t y)) := by
  refine Ctr_intro okX3_addTimes rfl (Nat.le_of_ble_eq_true rfl) (L := [some (.ref a), some (.int x), some (.int (nI t)), none]) rfl (fun g ct C T_ => ?_)
  refine r_iconst C dX3_addTimes_0 (v := 0) (by decide) ?_
  refine r_istore_n C dX3_addTimes_1 (L' := [some (.ref a), some (.int x), some (.int (nI t)), some (.int 0)]) (by decide) rfl ?_
  have loop_2 : ∀ (d9 : Nat) (i : Nat) (zs : List Nat) (f1 : Nat → Int32), t - i < d9 → i ≤ t → zs = xs ++ List.replicate i y → hs f1 zs → Az g mX3_addTimes ct 0 0 2 [some (.ref a), some (.int x), some (.int (nI t)), some (.int (nI i))] [] (wset (wset w b (ia n f1)) a (ob 3 [.ref b, .int (nI zs.length)])) := by
    intro d9
    induction d9 with
    | zero => intro i zs f1 hd9; exact absurd hd9 (Nat.not_lt_zero _)
    | succ d9 ih_2 =>
      intro i zs f1 hd9 hi hz hf1
      refine r_iload_n C dX3_addTimes_2 rfl ?_
      refine r_iload_n C dX3_addTimes_3 rfl ?_
      refine r_icmp_ge C 18 dX3_addTimes_4 (by decide) (fun c_4 => ?_) (fun c_4 => ?_)
      · skip
        have c_4 : t ≤ i := (nI_leI (a := t) (b := i) (by omega) (by omega)).mp c_4
        exact r_return C T_ rfl dX3_addTimes_18 (⟨rfl, f1, by subst hz; rw [show i = t by omega], by subst hz; rw [show t = i by omega]; exact hf1⟩)
      · skip
        have c_4 : ¬ (t ≤ i) := fun h9 => c_4 ((nI_leI (a := t) (b := i) (by omega) (by omega)).mpr h9)
        refine r_aload_n C dX3_addTimes_7 rfl ?_
        refine r_iload_n C dX3_addTimes_8 rfl ?_
        refine r_callVv C (As := [.int x]) (rest := []) dX3_addTimes_9 (cX3_add9 ha hb hab ws_eq (ws_ne (Ne.symm hab) ws_eq) hf1 (by subst hz; simp only [List.length_append, List.length_cons, List.length_nil, List.length_replicate, lof_len] at *; omega) (by omega) (by subst hz; simp only [List.length_append, List.length_cons, List.length_nil, List.length_replicate, lof_len] at *; omega) hy) okX3_add mlRX3_19 imX3_add seX3_add ⟨by decide, by decide⟩ rfl rfl ha ws_eq rfl rfl (Nat.le_of_ble_eq_true rfl) (by decide) (by decide) (fun w9 h9 => ?_)
        obtain ⟨f1, rfl, h2⟩ := h9
        refine r_eq rfl rfl ((congrArg (fun z => wset (z) a (ob 3 [.ref b, .int (nI ((zs ++ [y]).length))])) ((ws_comm (Ne.symm hab)).trans (congrArg (fun z => wset z a (ob 3 [.ref b, .int (nI zs.length)])) ws_same))).trans ws_same) ?_
        refine r_iinc C dX3_addTimes_12 (v := nI (i + 1)) (L' := [some (.ref a), some (.int x), some (.int (nI t)), some (.int (nI (i + 1)))]) rfl (nI_add i 1) (by decide) rfl ?_
        refine r_goto C 2 dX3_addTimes_15 (by decide) ?_
        exact ih_2 (i + 1) (zs ++ [y]) f1 (by omega) (by omega) (by rw [hz, rep_push]) h2
  refine r_eq rfl rfl (ws_self hwb).symm ?_
  refine r_eq rfl rfl (ws_self (ws_ne hab hwa)).symm ?_
  exact loop_2 _ 0 xs f (Nat.lt_succ_self _) (Nat.zero_le _) (by simp) hf
set_option maxHeartbeats 4000000 in
set_option maxRecDepth 100000 in
theorem cX3_addLowestFirst9 {w : Wo} {a b n : Nat} {f : Nat → Int32} {xs : List Nat} (ha : a < NW) (hb : b < NW) (hab : a ≠ b) (hwa : w a = ob 3 [.ref b, .int (nI xs.length)]) (hwb : w b = ia n f) (hf : hs f xs) (hx : xs.length ≤ n) (hn : n < 2 ^ 31) {x : Int32} {t : Nat} (ht : t ≤ 4) (hk : xs.length + t ≤ n) : Ctr mX3_addLowestFirst [.ref a, .int x, .int (nI t)] w (PV fun w' => ∃ f', w' = wset (wset w b (ia n f')) a (ob 3 [.ref b, .int (nI (xs ++ lof x t).length)]) ∧ hs f' (xs ++ lof x t)) := by
  refine Ctr_intro okX3_addLowestFirst rfl (Nat.le_of_ble_eq_true rfl) (L := [some (.ref a), some (.int x), some (.int (nI t)), none]) rfl (fun g ct C T_ => ?_)
  refine r_iconst C dX3_addLowestFirst_0 (v := 0) (by decide) ?_
  refine r_istore_n C dX3_addLowestFirst_1 (L' := [some (.ref a), some (.int x), some (.int (nI t)), some (.int 0)]) (by decide) rfl ?_
  have loop_2 : ∀ (d9 : Nat) (i : Nat) (zs : List Nat) (f1 : Nat → Int32), t - i < d9 → i ≤ t → zs = xs ++ lof x i → hs f1 zs → Az g mX3_addLowestFirst ct 0 0 2 [some (.ref a), some (.int x), some (.int (nI t)), some (.int (nI i))] [] (wset (wset w b (ia n f1)) a (ob 3 [.ref b, .int (nI zs.length)])) := by
    intro d9
    induction d9 with
    | zero => intro i zs f1 hd9; exact absurd hd9 (Nat.not_lt_zero _)
    | succ d9 ih_2 =>
      intro i zs f1 hd9 hi hz hf1
      refine r_iload_n C dX3_addLowestFirst_2 rfl ?_
      refine r_iload_n C dX3_addLowestFirst_3 rfl ?_
      refine r_icmp_ge C 23 dX3_addLowestFirst_4 (by decide) (fun c_4 => ?_) (fun c_4 => ?_)
      · skip
        have c_4 : t ≤ i := (nI_leI (a := t) (b := i) (by omega) (by omega)).mp c_4
        exact r_return C T_ rfl dX3_addLowestFirst_23 (⟨rfl, f1, by subst hz; rw [show i = t by omega], by subst hz; rw [show t = i by omega]; exact hf1⟩)
      · skip
        have c_4 : ¬ (t ≤ i) := fun h9 => c_4 ((nI_leI (a := t) (b := i) (by omega) (by omega)).mpr h9)
        refine r_aload_n C dX3_addLowestFirst_7 rfl ?_
        refine r_iload_n C dX3_addLowestFirst_8 rfl ?_
        refine r_bipush C dX3_addLowestFirst_9 (v := 8) (by decide) ?_
        refine r_iload_n C dX3_addLowestFirst_11 rfl ?_
        refine r_imul C dX3_addLowestFirst_12 ?_
        refine r_top (y := nI (8 * i)) (pk_mul 8 i) ?_
        refine r_iushr C dX3_addLowestFirst_13 ?_
        refine r_callVv C (As := [.int ((x.toUInt32 >>> ((nI (8 * i)).toUInt32 &&& Int32.toUInt32 31)).toInt32)]) (rest := []) dX3_addLowestFirst_14 (cX3_add9 ha hb hab ws_eq (ws_ne (Ne.symm hab) ws_eq) hf1 (by subst hz; simp only [List.length_append, List.length_cons, List.length_nil, List.length_replicate, lof_len] at *; omega) (by omega) (by subst hz; simp only [List.length_append, List.length_cons, List.length_nil, List.length_replicate, lof_len] at *; omega) (ush_and x _ i (sh8 i (by omega)))) okX3_add mlRX3_19 imX3_add seX3_add ⟨by decide, by decide⟩ rfl rfl ha ws_eq rfl rfl (Nat.le_of_ble_eq_true rfl) (by decide) (by decide) (fun w9 h9 => ?_)
        obtain ⟨f1, rfl, h2⟩ := h9
        refine r_eq rfl rfl ((congrArg (fun z => wset (z) a (ob 3 [.ref b, .int (nI ((zs ++ [byj x i]).length))])) ((ws_comm (Ne.symm hab)).trans (congrArg (fun z => wset z a (ob 3 [.ref b, .int (nI zs.length)])) ws_same))).trans ws_same) ?_
        refine r_iinc C dX3_addLowestFirst_17 (v := nI (i + 1)) (L' := [some (.ref a), some (.int x), some (.int (nI t)), some (.int (nI (i + 1)))]) rfl (nI_add i 1) (by decide) rfl ?_
        refine r_goto C 2 dX3_addLowestFirst_20 (by decide) ?_
        exact ih_2 (i + 1) (zs ++ [byj x i]) f1 (by omega) (by omega) (by rw [hz, lof_succ, List.append_assoc]) h2
  refine r_eq rfl rfl (ws_self hwb).symm ?_
  refine r_eq rfl rfl (ws_self (ws_ne hab hwa)).symm ?_
  exact loop_2 _ 0 xs f (Nat.lt_succ_self _) (Nat.zero_le _) (by simp [lof]) hf
set_option maxHeartbeats 4000000 in
set_option maxRecDepth 100000 in
theorem cX3_addHighestFirst9 {w : Wo} {a b n : Nat} {f : Nat → Int32} {xs : List Nat} (ha : a < NW) (hb : b < NW) (hab : a ≠ b) (hwa : w a = ob 3 [.ref b, .int (nI xs.length)]) (hwb : w b = ia n f) (hf : hs f xs) (hx : xs.length ≤ n) (hn : n < 2 ^ 31) {x : Int32} (hk : xs.length + 4 ≤ n) : Ctr mX3_addHighestFirst [.ref a, .int x] w (PV fun w' => ∃ f', w' = wset (wset w b (ia n f')) a (ob 3 [.ref b, .int (nI (xs ++ hif x).length)]) ∧ hs f' (xs ++ hif x)) := by
  refine Ctr_intro okX3_addHighestFirst rfl (Nat.le_of_ble_eq_true rfl) (L := [some (.ref a), some (.int x)]) rfl (fun g ct C T_ => ?_)
  refine r_aload_n C dX3_addHighestFirst_0 rfl ?_
  refine r_iload_n C dX3_addHighestFirst_1 rfl ?_
  refine r_bipush C dX3_addHighestFirst_2 (v := 24) (by decide) ?_
  refine r_iushr C dX3_addHighestFirst_4 ?_
  refine r_callVv C (As := [.int ((x.toUInt32 >>> ((24 : Int32).toUInt32 &&& Int32.toUInt32 31)).toInt32)]) (rest := []) dX3_addHighestFirst_5 (cX3_add9 ha hb hab hwa hwb hf (by simp only [List.length_append, List.length_cons, List.length_nil] at *; omega) (by omega) (by simp only [List.length_append, List.length_cons, List.length_nil] at *; omega) (ush_and x 24 3 (by decide))) okX3_add mlRX3_19 imX3_add seX3_add ⟨by decide, by decide⟩ rfl rfl ha hwa rfl rfl (Nat.le_of_ble_eq_true rfl) (by decide) (by decide) (fun w9 h9 => ?_)
  obtain ⟨f1, rfl, h2⟩ := h9
  refine r_aload_n C dX3_addHighestFirst_8 rfl ?_
  refine r_iload_n C dX3_addHighestFirst_9 rfl ?_
  refine r_bipush C dX3_addHighestFirst_10 (v := 16) (by decide) ?_
  refine r_iushr C dX3_addHighestFirst_12 ?_
  refine r_callVv C (As := [.int ((x.toUInt32 >>> ((16 : Int32).toUInt32 &&& Int32.toUInt32 31)).toInt32)]) (rest := []) dX3_addHighestFirst_13 (cX3_add9 ha hb hab ws_eq (ws_ne (Ne.symm hab) ws_eq) h2 (by simp only [List.length_append, List.length_cons, List.length_nil] at *; omega) (by omega) (by simp only [List.length_append, List.length_cons, List.length_nil] at *; omega) (ush_and x 16 2 (by decide))) okX3_add mlRX3_19 imX3_add seX3_add ⟨by decide, by decide⟩ rfl rfl ha ws_eq rfl rfl (Nat.le_of_ble_eq_true rfl) (by decide) (by decide) (fun w9 h9 => ?_)
  obtain ⟨f3, rfl, h4⟩ := h9
  refine r_eq rfl rfl ((congrArg (fun z => wset (z) a (ob 3 [.ref b, .int (nI ((xs ++ [byj x 3] ++ [byj x 2]).length))])) ((ws_comm (Ne.symm hab)).trans (congrArg (fun z => wset z a (ob 3 [.ref b, .int (nI ((xs ++ [byj x 3]).length))])) ws_same))).trans ws_same) ?_
  refine r_aload_n C dX3_addHighestFirst_16 rfl ?_
  refine r_iload_n C dX3_addHighestFirst_17 rfl ?_
  refine r_bipush C dX3_addHighestFirst_18 (v := 8) (by decide) ?_
  refine r_iushr C dX3_addHighestFirst_20 ?_
  refine r_callVv C (As := [.int ((x.toUInt32 >>> ((8 : Int32).toUInt32 &&& Int32.toUInt32 31)).toInt32)]) (rest := []) dX3_addHighestFirst_21 (cX3_add9 ha hb hab ws_eq (ws_ne (Ne.symm hab) ws_eq) h4 (by simp only [List.length_append, List.length_cons, List.length_nil] at *; omega) (by omega) (by simp only [List.length_append, List.length_cons, List.length_nil] at *; omega) (ush_and x 8 1 (by decide))) okX3_add mlRX3_19 imX3_add seX3_add ⟨by decide, by decide⟩ rfl rfl ha ws_eq rfl rfl (Nat.le_of_ble_eq_true rfl) (by decide) (by decide) (fun w9 h9 => ?_)
  obtain ⟨f5, rfl, h6⟩ := h9
  refine r_eq rfl rfl ((congrArg (fun z => wset (z) a (ob 3 [.ref b, .int (nI ((xs ++ [byj x 3] ++ [byj x 2] ++ [byj x 1]).length))])) ((ws_comm (Ne.symm hab)).trans (congrArg (fun z => wset z a (ob 3 [.ref b, .int (nI ((xs ++ [byj x 3] ++ [byj x 2]).length))])) ws_same))).trans ws_same) ?_
  refine r_aload_n C dX3_addHighestFirst_24 rfl ?_
  refine r_iload_n C dX3_addHighestFirst_25 rfl ?_
  refine r_callVv C (As := [.int x]) (rest := []) dX3_addHighestFirst_26 (cX3_add9 ha hb hab ws_eq (ws_ne (Ne.symm hab) ws_eq) h6 (by simp only [List.length_append, List.length_cons, List.length_nil] at *; omega) (by omega) (by simp only [List.length_append, List.length_cons, List.length_nil] at *; omega) (and0 x)) okX3_add mlRX3_19 imX3_add seX3_add ⟨by decide, by decide⟩ rfl rfl ha ws_eq rfl rfl (Nat.le_of_ble_eq_true rfl) (by decide) (by decide) (fun w9 h9 => ?_)
  obtain ⟨f7, rfl, h8⟩ := h9
  refine r_eq rfl rfl ((congrArg (fun z => wset (z) a (ob 3 [.ref b, .int (nI ((xs ++ [byj x 3] ++ [byj x 2] ++ [byj x 1] ++ [byj x 0]).length))])) ((ws_comm (Ne.symm hab)).trans (congrArg (fun z => wset z a (ob 3 [.ref b, .int (nI ((xs ++ [byj x 3] ++ [byj x 2] ++ [byj x 1]).length))])) ws_same))).trans ws_same) ?_
  exact r_return C T_ rfl dX3_addHighestFirst_29 (⟨rfl, _, by simp only [List.append_assoc]; rfl, by have := h8; simp only [List.append_assoc] at this; exact this⟩)
set_option maxHeartbeats 4000000 in
set_option maxRecDepth 100000 in
theorem cX3_addRow9 {w : Wo} {a b n : Nat} {f : Nat → Int32} {xs : List Nat} (ha : a < NW) (hb : b < NW) (hab : a ≠ b) (hwa : w a = ob 3 [.ref b, .int (nI xs.length)]) (hwb : w b = ia n f) (hf : hs f xs) (hx : xs.length ≤ n) (hn : n < 2 ^ 31) {a2 b2 n2 : Nat} {f2 : Nat → Int32} {ys : List Nat} (ha2 : a2 < NW) (hb2 : b2 < NW) (haa : a ≠ a2) (hab2 : a ≠ b2) (hba2 : b ≠ a2) (hbb : b ≠ b2) (hw2 : w a2 = ob 3 [.ref b2, .int (nI ys.length)]) (hwb2 : w b2 = ia n2 f2) (hf2 : hs f2 ys) (hy : ys.length ≤ n2) (hn2 : n2 < 2 ^ 31) (hk : xs.length + ys.length ≤ n) : Ctr mX3_addRow [.ref a, .ref a2] w (PV fun w' => ∃ f', w' = wset (wset w b (ia n f')) a (ob 3 [.ref b, .int (nI (xs ++ ys).length)]) ∧ hs f' (xs ++ ys)) := by
  refine Ctr_intro okX3_addRow rfl (Nat.le_of_ble_eq_true rfl) (L := [some (.ref a), some (.ref a2), none]) rfl (fun g ct C T_ => ?_)
  refine r_aload_n C dX3_addRow_0 rfl ?_
  refine r_get C dX3_addRow_1 fgRX3_15 ha2 hw2 rfl ?_
  refine r_aload_n C dX3_addRow_4 rfl ?_
  refine r_get C dX3_addRow_5 fgRX3_9 ha hwa rfl ?_
  refine r_alen C dX3_addRow_8 hb hwb ?_
  refine r_aload_n C dX3_addRow_9 rfl ?_
  refine r_get C dX3_addRow_10 fgRX3_15 ha hwa rfl ?_
  refine r_isub C dX3_addRow_13 ?_
  refine r_top (y := nI (n - xs.length)) (pk_sub (a := n) (b := xs.length) (by omega)) ?_
  refine r_min C dX3_addRow_14 mlRX3_23 jn_min_static jn_min_init jn_min_code (by decide) (Nat.le_of_ble_eq_true rfl) (by decide) (by decide) ?_
  refine r_top (y := nI ys.length) (min_le (by omega) (by omega)) ?_
  refine r_istore_n C dX3_addRow_17 (L' := [some (.ref a), some (.ref a2), some (.int (nI ys.length))]) (by decide) rfl ?_
  refine r_aload_n C dX3_addRow_18 rfl ?_
  refine r_get C dX3_addRow_19 fgRX3_9 ha2 hw2 rfl ?_
  refine r_iconst C dX3_addRow_22 (v := 0) (by decide) ?_
  refine r_aload_n C dX3_addRow_23 rfl ?_
  refine r_get C dX3_addRow_24 fgRX3_9 ha hwa rfl ?_
  refine r_aload_n C dX3_addRow_27 rfl ?_
  refine r_get C dX3_addRow_28 fgRX3_15 ha hwa rfl ?_
  refine r_iload_n C dX3_addRow_31 rfl ?_
  refine r_copyN C dX3_addRow_32 mlRX3_29 jn_copy_native jn_copy_static jn_sys_init hb2 hwb2 hb hwb (sn := 0) (dn := xs.length) (ln := ys.length) rfl rfl rfl (by omega) (by omega) (by omega) (by omega) (by omega) (by decide) (Nat.le_of_ble_eq_true rfl) ?_
  refine r_aload_n C dX3_addRow_35 rfl ?_
  refine r_dup C dX3_addRow_36 rfl ?_
  refine r_get C dX3_addRow_37 fgRX3_15 ha (ws_ne hab hwa) rfl ?_
  refine r_iload_n C dX3_addRow_40 rfl ?_
  refine r_iadd C dX3_addRow_41 ?_
  refine r_top (y := nI (xs.length + ys.length)) (nI_add xs.length ys.length) ?_
  refine r_put C dX3_addRow_42 fpRX3_15 ha (ws_ne hab hwa) rfl rfl (Nat.le_of_ble_eq_true rfl) (fs' := [.ref b, .int (nI (xs.length + ys.length))]) rfl ?_
  exact r_return C T_ rfl dX3_addRow_45 (⟨rfl, _, by rw [len_app], hs_cpy hf2 hf⟩)
set_option maxHeartbeats 4000000 in
set_option maxRecDepth 100000 in
theorem cX3_become9 {w : Wo} {a b n : Nat} {f : Nat → Int32} {xs : List Nat} (ha : a < NW) (hb : b < NW) (hab : a ≠ b) (hwa : w a = ob 3 [.ref b, .int (nI xs.length)]) (hwb : w b = ia n f) (hf : hs f xs) (hx : xs.length ≤ n) (hn : n < 2 ^ 31) {a2 b2 n2 : Nat} {f2 : Nat → Int32} {ys : List Nat} (ha2 : a2 < NW) (hb2 : b2 < NW) (haa : a ≠ a2) (hab2 : a ≠ b2) (hba2 : b ≠ a2) (hbb : b ≠ b2) (hw2 : w a2 = ob 3 [.ref b2, .int (nI ys.length)]) (hwb2 : w b2 = ia n2 f2) (hf2 : hs f2 ys) (hy : ys.length ≤ n2) (hn2 : n2 < 2 ^ 31) (hk : ys.length ≤ n) : Ctr mX3_become [.ref a, .ref a2] w (PV fun w' => ∃ f', w' = wset (wset w b (ia n f')) a (ob 3 [.ref b, .int (nI ys.length)]) ∧ hs f' ys) := by
  refine Ctr_intro okX3_become rfl (Nat.le_of_ble_eq_true rfl) (L := [some (.ref a), some (.ref a2)]) rfl (fun g ct C T_ => ?_)
  refine r_aload_n C dX3_become_0 rfl ?_
  refine r_iconst C dX3_become_1 (v := 0) (by decide) ?_
  refine r_put C dX3_become_2 fpRX3_15 ha hwa rfl rfl (Nat.le_of_ble_eq_true rfl) (fs' := [.ref b, .int 0]) rfl ?_
  refine r_aload_n C dX3_become_5 rfl ?_
  refine r_aload_n C dX3_become_6 rfl ?_
  refine r_callVv C (As := [.ref a2]) (rest := []) dX3_become_7 (cX3_addRow9 (xs := []) (ys := ys) ha hb hab ws_eq (ws_ne (Ne.symm hab) hwb) (hs_nil f) (Nat.zero_le _) hn ha2 hb2 haa hab2 hba2 hbb (ws_ne (Ne.symm haa) hw2) (ws_ne (Ne.symm hab2) hwb2) hf2 hy hn2 (by simpa using hk)) okX3_addRow mlRX3_35 imX3_addRow seX3_addRow ⟨by decide, by decide⟩ rfl rfl ha ws_eq rfl rfl (Nat.le_of_ble_eq_true rfl) (by decide) (by decide) (fun w9 h9 => ?_)
  obtain ⟨f1, rfl, h2⟩ := h9
  refine r_eq rfl rfl ((ws_comm hab).trans (congrArg (fun z => wset z b (ia n f1)) ws_same)) ?_
  exact r_return C T_ rfl dX3_become_10 (⟨rfl, _, ws_comm (Ne.symm hab), h2⟩)
set_option maxHeartbeats 4000000 in
set_option maxRecDepth 100000 in
theorem cX3_beginsAs9 {w : Wo} {a b n : Nat} {f : Nat → Int32} {xs : List Nat} (ha : a < NW) (hb : b < NW) (hab : a ≠ b) (hwa : w a = ob 3 [.ref b, .int (nI xs.length)]) (hwb : w b = ia n f) (hf : hs f xs) (hx : xs.length ≤ n) (hn : n < 2 ^ 31) {a2 b2 n2 : Nat} {f2 : Nat → Int32} {ys : List Nat} (ha2 : a2 < NW) (hb2 : b2 < NW) (haa : a ≠ a2) (hab2 : a ≠ b2) (hba2 : b ≠ a2) (hbb : b ≠ b2) (hw2 : w a2 = ob 3 [.ref b2, .int (nI ys.length)]) (hwb2 : w b2 = ia n2 f2) (hf2 : hs f2 ys) (hy : ys.length ≤ n2) (hn2 : n2 < 2 ^ 31) {t : Nat} (hm : t ≤ xs.length) (hm2 : t ≤ ys.length) (hbx : byt xs) (hby : byt ys) : Ctr mX3_beginsAs [.ref a, .ref a2, .int (nI t)] w (PI fun r w' => w' = w ∧ r = (if xs.take t = ys.take t then 1 else 0)) := by
  refine Ctr_intro okX3_beginsAs rfl (Nat.le_of_ble_eq_true rfl) (L := [some (.ref a), some (.ref a2), some (.int (nI t)), none]) rfl (fun g ct C T_ => ?_)
  refine r_aload_n C dX3_beginsAs_0 rfl ?_
  refine r_get C dX3_beginsAs_1 fgRX3_15 ha hwa rfl ?_
  refine r_iload_n C dX3_beginsAs_4 rfl ?_
  refine r_icmp_lt C 16 dX3_beginsAs_5 (by decide) (fun c_5 => ?_) (fun c_5 => ?_)
  · skip
    exact absurd c_5 (nI_nlt hm (by omega))
  · skip
    have c_5 : ¬ (xs.length < t) := fun h9 => c_5 ((nI_ltI (a := xs.length) (b := t) (by omega) (by omega)).mpr h9)
    refine r_aload_n C dX3_beginsAs_8 rfl ?_
    refine r_get C dX3_beginsAs_9 fgRX3_15 ha2 hw2 rfl ?_
    refine r_iload_n C dX3_beginsAs_12 rfl ?_
    refine r_icmp_ge C 18 dX3_beginsAs_13 (by decide) (fun c_13 => ?_) (fun c_13 => ?_)
    · skip
      have c_13 : t ≤ ys.length := (nI_leI (a := t) (b := ys.length) (by omega) (by omega)).mp c_13
      refine r_iconst C dX3_beginsAs_18 (v := 0) (by decide) ?_
      refine r_istore_n C dX3_beginsAs_19 (L' := [some (.ref a), some (.ref a2), some (.int (nI t)), some (.int 0)]) (by decide) rfl ?_
      have loop_20 : ∀ (d9 : Nat) (i : Nat), t - i < d9 → i ≤ t → (∀ j, j < i → f j = f2 j) → Az g mX3_beginsAs ct 0 0 20 [some (.ref a), some (.ref a2), some (.int (nI t)), some (.int (nI i))] [] w := by
        intro d9
        induction d9 with
        | zero => intro i hd9; exact absurd hd9 (Nat.not_lt_zero _)
        | succ d9 ih_20 =>
          intro i hd9 hi he
          refine r_iload_n C dX3_beginsAs_20 rfl ?_
          refine r_iload_n C dX3_beginsAs_21 rfl ?_
          refine r_icmp_ge C 48 dX3_beginsAs_22 (by decide) (fun c_22 => ?_) (fun c_22 => ?_)
          · skip
            have c_22 : t ≤ i := (nI_leI (a := t) (b := i) (by omega) (by omega)).mp c_22
            refine r_iconst C dX3_beginsAs_48 (v := 1) (by decide) ?_
            exact r_ireturn C T_ rfl (by decide) dX3_beginsAs_49 (⟨_, rfl, rfl, (if_pos ((hs_same hf hf2 hm hm2 hbx hby).mp (fun j hj => he j (by omega)))).symm⟩)
          · skip
            have c_22 : ¬ (t ≤ i) := fun h9 => c_22 ((nI_leI (a := t) (b := i) (by omega) (by omega)).mpr h9)
            refine r_aload_n C dX3_beginsAs_25 rfl ?_
            refine r_get C dX3_beginsAs_26 fgRX3_9 ha hwa rfl ?_
            refine r_iload_n C dX3_beginsAs_29 rfl ?_
            refine r_ialdN C dX3_beginsAs_30 hb hwb (j := i) rfl (by omega) (by omega) ?_
            refine r_aload_n C dX3_beginsAs_31 rfl ?_
            refine r_get C dX3_beginsAs_32 fgRX3_9 ha2 hw2 rfl ?_
            refine r_iload_n C dX3_beginsAs_35 rfl ?_
            refine r_ialdN C dX3_beginsAs_36 hb2 hwb2 (j := i) rfl (by omega) (by omega) ?_
            refine r_icmp_eq C 42 dX3_beginsAs_37 (by decide) (fun c_37 => ?_) (fun c_37 => ?_)
            · skip
              refine r_iinc C dX3_beginsAs_42 (v := nI (i + 1)) (L' := [some (.ref a), some (.ref a2), some (.int (nI t)), some (.int (nI (i + 1)))]) rfl (nI_add i 1) (by decide) rfl ?_
              refine r_goto C 20 dX3_beginsAs_45 (by decide) ?_
              exact ih_20 (i + 1) (by omega) (by omega) (lt_s he c_37)
            · skip
              refine r_iconst C dX3_beginsAs_40 (v := 0) (by decide) ?_
              exact r_ireturn C T_ rfl (by decide) dX3_beginsAs_41 (⟨_, rfl, rfl, (if_neg (fun e9 => c_37 ((hs_same hf hf2 hm hm2 hbx hby).mpr e9 i (by omega)))).symm⟩)
      exact loop_20 _ 0 (Nat.lt_succ_self _) (Nat.zero_le _) (fun j hj => absurd hj (Nat.not_lt_zero j))
    · skip
      exact absurd (nI_le hm2 (by omega)) c_13
