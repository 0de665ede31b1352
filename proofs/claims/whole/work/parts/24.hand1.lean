theorem cnt {w : Wo} {a b m : Nat} {xs : List Nat} (h : w a = ob 3 [.ref b, .int (nI m)]) (e : m = xs.length) : w a = ob 3 [.ref b, .int (nI xs.length)] := by rw [h, e]
theorem hif_len (x : Int32) : (hif x).length = 4 := rfl
set_option maxHeartbeats 4000000 in
set_option maxRecDepth 100000 in
theorem cX1_addPadded9 {w : Wo} {a b a2 b2 : Nat} (l_a : a < NW) (l_b : b < NW) (l_a2 : a2 < NW) (l_b2 : b2 < NW) (n_a_b : a ≠ b) (n_a_a2 : a ≠ a2) (n_a_b2 : a ≠ b2) (n_b_a2 : b ≠ a2) (n_b_b2 : b ≠ b2) (n_a2_b2 : a2 ≠ b2) {n n2 : Nat} {f : Nat → Int32} {xs : List Nat} (w_a : w a = ob 3 [.ref b, .int (nI xs.length)]) (w_b : w b = ia n f) (h_xs : hs f xs) (k_xs : xs.length ≤ n) (hn : n < 2 ^ 31) {f2 : Nat → Int32} {ys : List Nat} (w_a2 : w a2 = ob 3 [.ref b2, .int (nI ys.length)]) (w_b2 : w b2 = ia n2 f2) (h_ys : hs f2 ys) (k_ys : ys.length ≤ n2) (hn2 : n2 < 2 ^ 31) (hby : byt ys) (hk : xs.length + 32 ≤ n) : Ctr mX1_addPadded [.ref a, .ref a2] w (PV fun w' => ∃ f', w' = wset (wset w b (ia n f')) a (ob 3 [.ref b, .int (nI (xs ++ padd ys).length)]) ∧ hs f' (xs ++ padd ys)) := by
  refine Ctr_intro okX1_addPadded rfl (Nat.le_of_ble_eq_true rfl) (L := [some (.ref a), some (.ref a2), none, none]) rfl (fun g ct C T_ => ?_)
  refine r_aload_n C dX1_addPadded_0 rfl ?_
  refine r_get C dX1_addPadded_1 fgRX1_82 l_a2 w_a2 rfl ?_
  refine r_bipush C dX1_addPadded_4 (v := 32) (by decide) ?_
  refine r_min C dX1_addPadded_6 mlRX1_126 jn_min_static jn_min_init jn_min_code (by decide) (Nat.le_of_ble_eq_true rfl) (by decide) (by decide) ?_
  refine r_top (y := nI (min ys.length 32)) (min_nat (by omega) (by decide)) ?_
  refine r_istore_n C dX1_addPadded_9 (L' := [some (.ref a), some (.ref a2), some (.int (nI (min ys.length 32))), none]) (by decide) rfl ?_
  refine r_iconst C dX1_addPadded_10 (v := 0) (by decide) ?_
  refine r_istore_n C dX1_addPadded_11 (L' := [some (.ref a), some (.ref a2), some (.int (nI (min ys.length 32))), some (.int 0)]) (by decide) rfl ?_
  have loop_12 : ∀ (d9 : Nat) (i : Nat) (zs : List Nat) (f1 : Nat → Int32), min ys.length 32 - i < d9 → i ≤ min ys.length 32 → zs = xs ++ ys.take i → hs f1 zs → Az g mX1_addPadded ct 0 0 12 [some (.ref a), some (.ref a2), some (.int (nI (min ys.length 32))), some (.int (nI i))] [] (wset (wset w b (ia n f1)) a (ob 3 [.ref b, .int (nI zs.length)])) := by
    intro d9
    induction d9 with
    | zero => intro i zs f1 hd9; exact absurd hd9 (Nat.not_lt_zero _)
    | succ d9 ih_12 =>
      intro i zs f1 hd9 hi hz hf1
      refine r_iload_n C dX1_addPadded_12 rfl ?_
      refine r_iload_n C dX1_addPadded_13 rfl ?_
      refine r_icmp_ge C 33 dX1_addPadded_14 (by decide) (fun c_14 => ?_) (fun c_14 => ?_)
      · skip
        have c_14 : (min ys.length 32) ≤ i := (nI_leI (a := min ys.length 32) (b := i) (by omega) (by omega)).mp c_14
        refine r_iconst C dX1_addPadded_33 (v := 0) (by decide) ?_
        refine r_istore_n C dX1_addPadded_34 (L' := [some (.ref a), some (.ref a2), some (.int (nI (min ys.length 32))), some (.int 0)]) (by decide) rfl ?_
        have loop_35 : ∀ (d9 : Nat) (j : Nat) (zs2 : List Nat) (f3 : Nat → Int32), 32 - min ys.length 32 - j < d9 → j ≤ 32 - min ys.length 32 → zs2 = (xs ++ ys.take (min ys.length 32)) ++ padN.take j → hs f3 zs2 → Az g mX1_addPadded ct 0 0 35 [some (.ref a), some (.ref a2), some (.int (nI (min ys.length 32))), some (.int (nI j))] [] (wset (wset w b (ia n f3)) a (ob 3 [.ref b, .int (nI zs2.length)])) := by
          intro d9
          induction d9 with
          | zero => intro j zs2 f3 hd9; exact absurd hd9 (Nat.not_lt_zero _)
          | succ d9 ih_35 =>
            intro j zs2 f3 hd9 hj hz2 hf3
            refine r_iload_n C dX1_addPadded_35 rfl ?_
            refine r_bipush C dX1_addPadded_36 (v := 32) (by decide) ?_
            refine r_iload_n C dX1_addPadded_38 rfl ?_
            refine r_isub C dX1_addPadded_39 ?_
            refine r_top (y := nI (32 - (min ys.length 32))) (pk_sub (a := 32) (b := min ys.length 32) (by omega)) ?_
            refine r_icmp_ge C 58 dX1_addPadded_40 (by decide) (fun c_40 => ?_) (fun c_40 => ?_)
            · skip
              have c_40 : (32 - (min ys.length 32)) ≤ j := (nI_leI (a := 32 - (min ys.length 32)) (b := j) (by omega) (by omega)).mp c_40
              exact r_return C T_ rfl dX1_addPadded_58 (⟨rfl, f3, by rw [show xs ++ padd ys = zs2 by rw [hz2, show j = 32 - min ys.length 32 by omega]; unfold padd; rw [List.append_assoc]], by rw [show xs ++ padd ys = zs2 by rw [hz2, show j = 32 - min ys.length 32 by omega]; unfold padd; rw [List.append_assoc]]; exact hf3⟩)
            · skip
              have c_40 : ¬ ((32 - (min ys.length 32)) ≤ j) := fun h9 => c_40 ((nI_leI (a := 32 - (min ys.length 32)) (b := j) (by omega) (by omega)).mpr h9)
              refine r_aload_n C dX1_addPadded_43 rfl ?_
              refine r_gets C (j := 3) dX1_addPadded_44 rfl slRX1_139 ?_
              refine r_iload_n C dX1_addPadded_47 rfl ?_
              refine r_tald C dX1_addPadded_48 (j := 3) (t := j) rfl rfl rfl (by show _ < 32; omega) (by decide) ?_
              refine r_top (y := nI (padN.getD j 0)) (pad_tab j) ?_
              refine r_callVv C (As := [.int (nI (padN.getD j 0))]) (rest := []) dX1_addPadded_49 (cX3_add9 l_a l_b n_a_b ws_eq (ws_ne (Ne.symm n_a_b) ws_eq) hf3 (by subst hz2; simp only [List.length_append, List.length_nil, List.length_cons, List.length_take, List.length_replicate, List.length_range, List.length_map, lof_len, pad_len, padd_len, md5_len, strm_len, strms_len, entOf_len, hif_len] at *; omega) hn (by subst hz2; simp only [List.length_append, List.length_nil, List.length_cons, List.length_take, List.length_replicate, List.length_range, List.length_map, lof_len, pad_len, padd_len, md5_len, strm_len, strms_len, entOf_len, hif_len] at *; omega) (y := padN.getD j 0) (and_byte (byt_getD byt_pad j))) okX3_add mlRX1_136 imX3_add seX3_add ⟨by decide, by decide⟩ rfl rfl l_a ws_eq rfl rfl (Nat.le_of_ble_eq_true rfl) (by decide) (by decide) (fun w9 h9 => ?_)
              obtain ⟨f_1, rfl, h_2⟩ := h9
              refine r_eq rfl rfl ((congrArg (fun z => wset (z) a (ob 3 [.ref b, .int (nI ((zs2 ++ [padN.getD j 0]).length))])) ((ws_comm (Ne.symm n_a_b)).trans (congrArg (fun z => wset z a (ob 3 [.ref b, .int (nI zs2.length)])) ws_same))).trans ws_same) ?_
              refine r_iinc C dX1_addPadded_52 (v := nI (j + 1)) (L' := [some (.ref a), some (.ref a2), some (.int (nI (min ys.length 32))), some (.int (nI (j + 1)))]) rfl (nI_add j 1) (by decide) rfl ?_
              refine r_goto C 35 dX1_addPadded_55 (by decide) ?_
              exact ih_35 (j + 1) _ f_1 (by omega) (by omega) (by rw [hz2, take_push (by rw [pad_len]; omega)]; simp only [List.append_assoc]) h_2
        exact loop_35 _ 0 zs f1 (Nat.lt_succ_self _) (by omega) (by rw [hz, show i = min ys.length 32 by omega]; simp) hf1
      · skip
        have c_14 : ¬ ((min ys.length 32) ≤ i) := fun h9 => c_14 ((nI_leI (a := min ys.length 32) (b := i) (by omega) (by omega)).mpr h9)
        refine r_aload_n C dX1_addPadded_17 rfl ?_
        refine r_aload_n C dX1_addPadded_18 rfl ?_
        refine r_get C dX1_addPadded_19 fgRX1_132 l_a2 (ws_ne (Ne.symm n_a_a2) (ws_ne (Ne.symm n_b_a2) w_a2)) rfl ?_
        refine r_iload_n C dX1_addPadded_22 rfl ?_
        refine r_ialdN C dX1_addPadded_23 l_b2 (ws_ne (Ne.symm n_a_b2) (ws_ne (Ne.symm n_b_b2) w_b2)) (j := i) rfl (by omega) (by omega) ?_
        refine r_top (y := nI (ys.getD i 0)) (h_ys i (by omega)) ?_
        refine r_callVv C (As := [.int (nI (ys.getD i 0))]) (rest := []) dX1_addPadded_24 (cX3_add9 l_a l_b n_a_b ws_eq (ws_ne (Ne.symm n_a_b) ws_eq) hf1 (by subst hz; simp only [List.length_append, List.length_nil, List.length_cons, List.length_take, List.length_replicate, List.length_range, List.length_map, lof_len, pad_len, padd_len, md5_len, strm_len, strms_len, entOf_len, hif_len] at *; omega) hn (by subst hz; simp only [List.length_append, List.length_nil, List.length_cons, List.length_take, List.length_replicate, List.length_range, List.length_map, lof_len, pad_len, padd_len, md5_len, strm_len, strms_len, entOf_len, hif_len] at *; omega) (y := ys.getD i 0) (and_byte (byt_getD hby i))) okX3_add mlRX1_136 imX3_add seX3_add ⟨by decide, by decide⟩ rfl rfl l_a ws_eq rfl rfl (Nat.le_of_ble_eq_true rfl) (by decide) (by decide) (fun w9 h9 => ?_)
        obtain ⟨f_3, rfl, h_4⟩ := h9
        refine r_eq rfl rfl ((congrArg (fun z => wset (z) a (ob 3 [.ref b, .int (nI ((zs ++ [ys.getD i 0]).length))])) ((ws_comm (Ne.symm n_a_b)).trans (congrArg (fun z => wset z a (ob 3 [.ref b, .int (nI zs.length)])) ws_same))).trans ws_same) ?_
        refine r_iinc C dX1_addPadded_27 (v := nI (i + 1)) (L' := [some (.ref a), some (.ref a2), some (.int (nI (min ys.length 32))), some (.int (nI (i + 1)))]) rfl (nI_add i 1) (by decide) rfl ?_
        refine r_goto C 12 dX1_addPadded_30 (by decide) ?_
        exact ih_12 (i + 1) _ f_3 (by omega) (by omega) (by rw [hz, take_push (by omega), List.append_assoc]) h_4
  refine r_eq rfl rfl (ws_self w_b).symm ?_
  refine r_eq rfl rfl (ws_self (ws_ne n_a_b w_a)).symm ?_
  exact loop_12 _ 0 xs f (Nat.lt_succ_self _) (by omega) (by simp) h_xs
set_option maxHeartbeats 4000000 in
set_option maxRecDepth 100000 in
theorem cX1_addPad9 {w : Wo} {a b : Nat} (l_a : a < NW) (l_b : b < NW) (n_a_b : a ≠ b) {n : Nat} {f : Nat → Int32} {xs : List Nat} (w_a : w a = ob 3 [.ref b, .int (nI xs.length)]) (w_b : w b = ia n f) (h_xs : hs f xs) (k_xs : xs.length ≤ n) (hn : n < 2 ^ 31) (hk : xs.length + 32 ≤ n) : Ctr mX1_addPad [.ref a] w (PV fun w' => ∃ f', w' = wset (wset w b (ia n f')) a (ob 3 [.ref b, .int (nI (xs ++ padN).length)]) ∧ hs f' (xs ++ padN)) := by
  refine Ctr_intro okX1_addPad rfl (Nat.le_of_ble_eq_true rfl) (L := [some (.ref a), none]) rfl (fun g ct C T_ => ?_)
  refine r_iconst C dX1_addPad_0 (v := 0) (by decide) ?_
  refine r_istore_n C dX1_addPad_1 (L' := [some (.ref a), some (.int 0)]) (by decide) rfl ?_
  have loop_2 : ∀ (d9 : Nat) (j : Nat) (zs : List Nat) (f1 : Nat → Int32), 32 - j < d9 → j ≤ 32 → zs = xs ++ padN.take j → hs f1 zs → Az g mX1_addPad ct 0 0 2 [some (.ref a), some (.int (nI j))] [] (wset (wset w b (ia n f1)) a (ob 3 [.ref b, .int (nI zs.length)])) := by
    intro d9
    induction d9 with
    | zero => intro j zs f1 hd9; exact absurd hd9 (Nat.not_lt_zero _)
    | succ d9 ih_2 =>
      intro j zs f1 hd9 hj hz hf1
      refine r_iload_n C dX1_addPad_2 rfl ?_
      refine r_bipush C dX1_addPad_3 (v := 32) (by decide) ?_
      refine r_icmp_ge C 23 dX1_addPad_5 (by decide) (fun c_5 => ?_) (fun c_5 => ?_)
      · skip
        have c_5 : 32 ≤ j := (nI_leI (a := 32) (b := j) (by omega) (by omega)).mp c_5
        exact r_return C T_ rfl dX1_addPad_23 (⟨rfl, f1, by rw [show xs ++ padN = zs by rw [hz, show j = 32 by omega]; rfl], by rw [show xs ++ padN = zs by rw [hz, show j = 32 by omega]; rfl]; exact hf1⟩)
      · skip
        have c_5 : ¬ (32 ≤ j) := fun h9 => c_5 ((nI_leI (a := 32) (b := j) (by omega) (by omega)).mpr h9)
        refine r_aload_n C dX1_addPad_8 rfl ?_
        refine r_gets C (j := 3) dX1_addPad_9 rfl slRX1_139 ?_
        refine r_iload_n C dX1_addPad_12 rfl ?_
        refine r_tald C dX1_addPad_13 (j := 3) (t := j) rfl rfl rfl (by show _ < 32; omega) (by decide) ?_
        refine r_top (y := nI (padN.getD j 0)) (pad_tab j) ?_
        refine r_callVv C (As := [.int (nI (padN.getD j 0))]) (rest := []) dX1_addPad_14 (cX3_add9 l_a l_b n_a_b ws_eq (ws_ne (Ne.symm n_a_b) ws_eq) hf1 (by subst hz; simp only [List.length_append, List.length_nil, List.length_cons, List.length_take, List.length_replicate, List.length_range, List.length_map, lof_len, pad_len, padd_len, md5_len, strm_len, strms_len, entOf_len, hif_len] at *; omega) hn (by subst hz; simp only [List.length_append, List.length_nil, List.length_cons, List.length_take, List.length_replicate, List.length_range, List.length_map, lof_len, pad_len, padd_len, md5_len, strm_len, strms_len, entOf_len, hif_len] at *; omega) (y := padN.getD j 0) (and_byte (byt_getD byt_pad j))) okX3_add mlRX1_136 imX3_add seX3_add ⟨by decide, by decide⟩ rfl rfl l_a ws_eq rfl rfl (Nat.le_of_ble_eq_true rfl) (by decide) (by decide) (fun w9 h9 => ?_)
        obtain ⟨f_1, rfl, h_2⟩ := h9
        refine r_eq rfl rfl ((congrArg (fun z => wset (z) a (ob 3 [.ref b, .int (nI ((zs ++ [padN.getD j 0]).length))])) ((ws_comm (Ne.symm n_a_b)).trans (congrArg (fun z => wset z a (ob 3 [.ref b, .int (nI zs.length)])) ws_same))).trans ws_same) ?_
        refine r_iinc C dX1_addPad_17 (v := nI (j + 1)) (L' := [some (.ref a), some (.int (nI (j + 1)))]) rfl (nI_add j 1) (by decide) rfl ?_
        refine r_goto C 2 dX1_addPad_20 (by decide) ?_
        exact ih_2 (j + 1) _ f_1 (by omega) (by omega) (by rw [hz, take_push (by rw [pad_len]; omega), List.append_assoc]) h_2
  refine r_eq rfl rfl (ws_self w_b).symm ?_
  refine r_eq rfl rfl (ws_self (ws_ne n_a_b w_a)).symm ?_
  exact loop_2 _ 0 xs f (Nat.lt_succ_self _) (by omega) (by simp) h_xs
