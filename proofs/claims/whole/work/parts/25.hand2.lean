theorem keyMsg_yes {rev perm lo : Int32} {ow nb pw : List Nat} (h : rev = 4 ∧ ¬ lo = 0) : keyMsg rev perm lo ow nb pw = (((padd pw ++ ow) ++ lof perm 4) ++ nb) ++ List.replicate 4 255 := by
  unfold keyMsg
  rw [if_pos h]
theorem keyMsg_no {rev perm lo : Int32} {ow nb pw : List Nat} (h : ¬ (rev = 4 ∧ ¬ lo = 0)) : keyMsg rev perm lo ow nb pw = ((padd pw ++ ow) ++ lof perm 4) ++ nb := by
  unfold keyMsg
  rw [if_neg h, List.append_nil]
theorem keyMsg_le (rev perm lo : Int32) {ow nb : List Nat} (pw : List Nat) (how : ow.length = 32) (hnb : nb.length ≤ 64) : (keyMsg rev perm lo ow nb pw).length ≤ 136 := by
  unfold keyMsg
  split
  · simp only [List.length_append, padd_len, lof_len, List.length_replicate]
    omega
  · simp only [List.length_append, padd_len, lof_len, List.length_nil]
    omega
set_option maxHeartbeats 4000000 in
set_option maxRecDepth 100000 in
theorem cX1_deriveOwnerKey9 {w : Wo} {rv lo pm : Int32} {ln : Nat} (w_5 : w 5 = ob 1 [.int rv, .int (nI ln), .int pm, .int lo, .ref 6, .ref 8, .ref 10, .ref 12, .ref 14, .ref 16, .ref 18, .ref 20, .ref 22, .ref 27, .ref 29, .ref 31, .ref 33]) (hln : 5 ≤ ln ∧ ln ≤ 16) {fw : Nat → Int32} {sA sB sC sD : Int32} (w_18 : w 18 = ob 2 [.ref 19, .int sA, .int sB, .int sC, .int sD]) (w_19 : w 19 = ia 16 fw) {f28 : Nat → Int32} {gl : List Nat} (w_27 : w 27 = ob 3 [.ref 28, .int (nI gl.length)]) (w_28 : w 28 = ia 136 f28) (h_gl : hs f28 gl) (k_gl : gl.length ≤ 136) {f30 : Nat → Int32} {tl : List Nat} (w_29 : w 29 = ob 3 [.ref 30, .int (nI tl.length)]) (w_30 : w 30 = ia 16 f30) (h_tl : hs f30 tl) (k_tl : tl.length ≤ 16) {a b n : Nat} (hab : (a = 12 ∧ b = 13) ∨ (a = 1 ∧ b = 2)) {f : Nat → Int32} {ys : List Nat} (w_a : w a = ob 3 [.ref b, .int (nI ys.length)]) (w_b : w b = ia n f) (h_ys : hs f ys) (k_ys : ys.length ≤ n) (hn : n ≤ 1048576) (hby : byt ys) : Ctr mX1_deriveOwnerKey [.ref 5, .ref a] w (PV fun w' => ∃ fg' tA tB tC tD fw' ft', w' = wset (wset (wset (wset (wset (wset (w) 27 (ob 3 [.ref 28, .int (nI (padd ys).length)])) 28 (ia 136 fg')) 18 (ob 2 [.ref 19, .int tA, .int tB, .int tC, .int tD])) 19 (ia 16 fw')) 29 (ob 3 [.ref 30, .int (nI (ownKey rv ln ys).length)])) 30 (ia 16 ft') ∧ hs fg' (padd ys) ∧ hs ft' (ownKey rv ln ys)) := by
  refine Ctr_intro okX1_deriveOwnerKey rfl (Nat.le_of_ble_eq_true rfl) (L := [some (.ref 5), some (.ref a), none]) rfl (fun g ct C T_ => ?_)
  refine r_aload_n C dX1_deriveOwnerKey_0 rfl ?_
  refine r_get C dX1_deriveOwnerKey_1 fgRX1_70 (by decide) w_5 rfl ?_
  refine r_callVv C (As := []) (rest := []) dX1_deriveOwnerKey_4 (cX3_clear9 (by decide) (by decide) (by decide) w_27 w_28 h_gl (by first | omega | (simp only [List.length_append, List.length_nil, List.length_cons, List.length_take, List.length_replicate, List.length_range, List.length_map, lof_len, pad_len, padd_len, md5_len, strm_len, strms_len, entOf_len, hif_len]; omega)) (by decide)) okX3_clear mlRX1_89 imX3_clear seX3_clear ⟨by decide, by decide⟩ rfl rfl (by decide) w_27 rfl rfl (Nat.le_of_ble_eq_true rfl) (by decide) (by decide) (fun w9 h9 => ?_)
  obtain rfl := h9
  refine r_aload_n C dX1_deriveOwnerKey_7 rfl ?_
  refine r_get C dX1_deriveOwnerKey_8 fgRX1_70 (by decide) (ws_ne (by decide) w_5) rfl ?_
  refine r_aload_n C dX1_deriveOwnerKey_11 rfl ?_
  refine r_callSv C (As := [.ref 27, .ref a]) (rest := []) dX1_deriveOwnerKey_12 (cX1_addPadded9 (by decide) (by decide) (by unfold NW; omega) (by unfold NW; omega) (by decide) (by omega) (by omega) (by omega) (by omega) (by omega) ws_eq (ws_ne (by decide) w_28) (hs_nil _) (by first | omega | (simp only [List.length_append, List.length_nil, List.length_cons, List.length_take, List.length_replicate, List.length_range, List.length_map, lof_len, pad_len, padd_len, md5_len, strm_len, strms_len, entOf_len, hif_len]; omega)) (by decide) (ws_ne (by omega) w_a) (ws_ne (by omega) w_b) h_ys (by first | omega | (simp only [List.length_append, List.length_nil, List.length_cons, List.length_take, List.length_replicate, List.length_range, List.length_map, lof_len, pad_len, padd_len, md5_len, strm_len, strms_len, entOf_len, hif_len]; omega)) (by omega) hby (by first | omega | (simp only [List.length_append, List.length_nil, List.length_cons, List.length_take, List.length_replicate, List.length_range, List.length_map, lof_len, pad_len, padd_len, md5_len, strm_len, strms_len, entOf_len, hif_len]; omega))) okX1_addPadded mlRX1_92 stX1_addPadded ⟨by decide, by decide⟩ rfl rfl (Nat.le_of_ble_eq_true rfl) (by decide) (by decide) (fun w9 h9 => ?_)
  obtain ⟨f_1, rfl, h_2⟩ := h9
  simp only [List.nil_append] at h_2 ⊢
  refine r_eq rfl rfl ((ws_comm (by decide)).trans (congrArg (fun z => wset z 28 (ia 136 f_1)) ws_same)) ?_
  refine r_aload_n C dX1_deriveOwnerKey_15 rfl ?_
  refine r_get C dX1_deriveOwnerKey_16 fgRX1_52 (by decide) (ws_ne (by decide) (ws_ne (by decide) w_5)) rfl ?_
  refine r_aload_n C dX1_deriveOwnerKey_19 rfl ?_
  refine r_get C dX1_deriveOwnerKey_20 fgRX1_70 (by decide) (ws_ne (by decide) (ws_ne (by decide) w_5)) rfl ?_
  refine r_aload_n C dX1_deriveOwnerKey_23 rfl ?_
  refine r_get C dX1_deriveOwnerKey_24 fgRX1_73 (by decide) (ws_ne (by decide) (ws_ne (by decide) w_5)) rfl ?_
  refine r_callVv C (As := [.ref 27, .ref 29]) (rest := []) dX1_deriveOwnerKey_27 (cX2_hash9 (by decide) (by decide) (by decide) (by decide) (by decide) (by decide) (by decide) (by decide) (by decide) (by decide) (by decide) (by decide) (by decide) (by decide) (by decide) (by decide) (by decide) (by decide) (by decide) (by decide) (by decide) (ws_ne (by decide) (ws_ne (by decide) w_18)) (ws_ne (by decide) (ws_ne (by decide) w_19)) (ws_ne (by decide) ws_eq) ws_eq h_2 (by first | omega | (simp only [List.length_append, List.length_nil, List.length_cons, List.length_take, List.length_replicate, List.length_range, List.length_map, lof_len, pad_len, padd_len, md5_len, strm_len, strms_len, entOf_len, hif_len]; omega)) (by decide) (ws_ne (by decide) (ws_ne (by decide) w_29)) (ws_ne (by decide) (ws_ne (by decide) w_30)) h_tl (by first | omega | (simp only [List.length_append, List.length_nil, List.length_cons, List.length_take, List.length_replicate, List.length_range, List.length_map, lof_len, pad_len, padd_len, md5_len, strm_len, strms_len, entOf_len, hif_len]; omega)) (by decide) (by decide)) okX2_hash mlRX1_120 imX2_hash seX2_hash ⟨by decide, by decide⟩ rfl rfl (by decide) (ws_ne (by decide) (ws_ne (by decide) w_18)) rfl rfl (Nat.le_of_ble_eq_true rfl) (by decide) (by decide) (fun w9 h9 => ?_)
  obtain ⟨t_3, t_4, t_5, t_6, fw_7, f_8, rfl, h_9⟩ := h9
  refine r_aload_n C dX1_deriveOwnerKey_30 rfl ?_
  refine r_get C dX1_deriveOwnerKey_31 fgRX1_9 (by decide) (ws_ne (by decide) (ws_ne (by decide) (ws_ne (by decide) (ws_ne (by decide) (ws_ne (by decide) (ws_ne (by decide) w_5)))))) rfl ?_
  refine r_iconst C dX1_deriveOwnerKey_34 (v := 3) (by decide) ?_
  refine r_icmp_lt C 67 dX1_deriveOwnerKey_35 (by decide) (fun c_35 => ?_) (fun c_35 => ?_)
  · skip
    refine r_aload_n C dX1_deriveOwnerKey_67 rfl ?_
    refine r_get C dX1_deriveOwnerKey_68 fgRX1_73 (by decide) (ws_ne (by decide) (ws_ne (by decide) (ws_ne (by decide) (ws_ne (by decide) (ws_ne (by decide) (ws_ne (by decide) w_5)))))) rfl ?_
    refine r_aload_n C dX1_deriveOwnerKey_71 rfl ?_
    refine r_get C dX1_deriveOwnerKey_72 fgRX1_15 (by decide) (ws_ne (by decide) (ws_ne (by decide) (ws_ne (by decide) (ws_ne (by decide) (ws_ne (by decide) (ws_ne (by decide) w_5)))))) rfl ?_
    refine r_callVv C (As := [.int (nI ln)]) (rest := []) dX1_deriveOwnerKey_75 (cX3_shorten9 (by decide) (by decide) (by decide) (ws_ne (by decide) ws_eq) ws_eq h_9 (by first | omega | (simp only [List.length_append, List.length_nil, List.length_cons, List.length_take, List.length_replicate, List.length_range, List.length_map, lof_len, pad_len, padd_len, md5_len, strm_len, strms_len, entOf_len, hif_len]; omega)) (by decide) (nI ln)) okX3_shorten mlRX1_123 imX3_shorten seX3_shorten ⟨by decide, by decide⟩ rfl rfl (by decide) (ws_ne (by decide) ws_eq) rfl rfl (Nat.le_of_ble_eq_true rfl) (by decide) (by decide) (fun w9 h9 => ?_)
    obtain rfl := h9
    refine r_eq rfl rfl ((ws_comm (by decide)).trans (congrArg (fun z => wset z 30 (ia 16 f_8)) ws_same)) ?_
    rw [cutTo_n (md5 (padd ys)) (show ln < 2 ^ 31 by omega)]
    exact r_return C T_ rfl dX1_deriveOwnerKey_78 (⟨rfl, _, _, _, _, _, _, _, by rw [show ownKey rv ln ys = (md5 (padd ys)).take ln by unfold ownKey; rw [if_neg (Int32.not_le.mpr c_35)]], h_2, by rw [show ownKey rv ln ys = (md5 (padd ys)).take ln by unfold ownKey; rw [if_neg (Int32.not_le.mpr c_35)]]; exact (hs_take h_9)⟩)
  · skip
    refine r_iconst C dX1_deriveOwnerKey_38 (v := 0) (by decide) ?_
    refine r_istore_n C dX1_deriveOwnerKey_39 (L' := [some (.ref 5), some (.ref a), some (.int 0)]) (by decide) rfl ?_
    have loop_40 : ∀ (d9 : Nat) (t : Nat) (zs : List Nat) (f1 : Nat → Int32) (vA : Int32) (vB : Int32) (vC : Int32) (vD : Int32) (fv : Nat → Int32), 50 - t < d9 → t ≤ 50 → zs = again 16 t (md5 (padd ys)) → hs f1 zs → Az g mX1_deriveOwnerKey ct 0 0 40 [some (.ref 5), some (.ref a), some (.int (nI t))] [] (wset (wset (wset (wset (wset (wset w 27 (ob 3 [.ref 28, .int (nI ((padd ys).length))])) 28 (ia 136 f_1)) 18 (ob 2 [.ref 19, .int vA, .int vB, .int vC, .int vD])) 19 (ia 16 fv)) 29 (ob 3 [.ref 30, .int (nI zs.length)])) 30 (ia 16 f1)) := by
      intro d9
      induction d9 with
      | zero => intro t zs f1 vA vB vC vD fv hd9; exact absurd hd9 (Nat.not_lt_zero _)
      | succ d9 ih_40 =>
        intro t zs f1 vA vB vC vD fv hd9 ht hz hf1
        have hzl : zs.length = 16 := by rw [hz]; exact again_len (md5_len _) t
        refine r_iload_n C dX1_deriveOwnerKey_40 rfl ?_
        refine r_bipush C dX1_deriveOwnerKey_41 (v := 50) (by decide) ?_
        refine r_icmp_ge C 67 dX1_deriveOwnerKey_43 (by decide) (fun c_43 => ?_) (fun c_43 => ?_)
        · skip
          have c_43 : 50 ≤ t := (nI_leI (a := 50) (b := t) (by omega) (by omega)).mp c_43
          refine r_aload_n C dX1_deriveOwnerKey_67 rfl ?_
          refine r_get C dX1_deriveOwnerKey_68 fgRX1_73 (by decide) (ws_ne (by decide) (ws_ne (by decide) (ws_ne (by decide) (ws_ne (by decide) (ws_ne (by decide) (ws_ne (by decide) w_5)))))) rfl ?_
          refine r_aload_n C dX1_deriveOwnerKey_71 rfl ?_
          refine r_get C dX1_deriveOwnerKey_72 fgRX1_15 (by decide) (ws_ne (by decide) (ws_ne (by decide) (ws_ne (by decide) (ws_ne (by decide) (ws_ne (by decide) (ws_ne (by decide) w_5)))))) rfl ?_
          refine r_callVv C (As := [.int (nI ln)]) (rest := []) dX1_deriveOwnerKey_75 (cX3_shorten9 (by decide) (by decide) (by decide) (ws_ne (by decide) ws_eq) ws_eq hf1 (by first | omega | (simp only [List.length_append, List.length_nil, List.length_cons, List.length_take, List.length_replicate, List.length_range, List.length_map, lof_len, pad_len, padd_len, md5_len, strm_len, strms_len, entOf_len, hif_len]; omega)) (by decide) (nI ln)) okX3_shorten mlRX1_123 imX3_shorten seX3_shorten ⟨by decide, by decide⟩ rfl rfl (by decide) (ws_ne (by decide) ws_eq) rfl rfl (Nat.le_of_ble_eq_true rfl) (by decide) (by decide) (fun w9 h9 => ?_)
          obtain rfl := h9
          refine r_eq rfl rfl ((ws_comm (by decide)).trans (congrArg (fun z => wset z 30 (ia 16 f1)) ws_same)) ?_
          rw [cutTo_n zs (show ln < 2 ^ 31 by omega)]
          exact r_return C T_ rfl dX1_deriveOwnerKey_78 (⟨rfl, _, _, _, _, _, _, _, by rw [show ownKey rv ln ys = zs.take ln by unfold ownKey; rw [if_pos (Int32.not_lt.mp c_35)]; rw [hz, show t = 50 by omega]], h_2, by rw [show ownKey rv ln ys = zs.take ln by unfold ownKey; rw [if_pos (Int32.not_lt.mp c_35)]; rw [hz, show t = 50 by omega]]; exact (hs_take hf1)⟩)
        · skip
          have c_43 : ¬ (50 ≤ t) := fun h9 => c_43 ((nI_leI (a := 50) (b := t) (by omega) (by omega)).mpr h9)
          refine r_aload_n C dX1_deriveOwnerKey_46 rfl ?_
          refine r_get C dX1_deriveOwnerKey_47 fgRX1_52 (by decide) (ws_ne (by decide) (ws_ne (by decide) (ws_ne (by decide) (ws_ne (by decide) (ws_ne (by decide) (ws_ne (by decide) w_5)))))) rfl ?_
          refine r_aload_n C dX1_deriveOwnerKey_50 rfl ?_
          refine r_get C dX1_deriveOwnerKey_51 fgRX1_73 (by decide) (ws_ne (by decide) (ws_ne (by decide) (ws_ne (by decide) (ws_ne (by decide) (ws_ne (by decide) (ws_ne (by decide) w_5)))))) rfl ?_
          refine r_aload_n C dX1_deriveOwnerKey_54 rfl ?_
          refine r_get C dX1_deriveOwnerKey_55 fgRX1_73 (by decide) (ws_ne (by decide) (ws_ne (by decide) (ws_ne (by decide) (ws_ne (by decide) (ws_ne (by decide) (ws_ne (by decide) w_5)))))) rfl ?_
          refine r_callVv C (As := [.ref 29, .ref 29]) (rest := []) dX1_deriveOwnerKey_58 (cX2_hash9s (by decide) (by decide) (by decide) (by decide) (by decide) (by decide) (by decide) (by decide) (by decide) (by decide) (ws_ne (by decide) (ws_ne (by decide) (ws_ne (by decide) ws_eq))) (ws_ne (by decide) (ws_ne (by decide) ws_eq)) (ws_ne (by decide) ws_eq) ws_eq hf1 (by first | omega | (simp only [List.length_append, List.length_nil, List.length_cons, List.length_take, List.length_replicate, List.length_range, List.length_map, lof_len, pad_len, padd_len, md5_len, strm_len, strms_len, entOf_len, hif_len]; omega)) (by decide) (by decide)) okX2_hash mlRX1_120 imX2_hash seX2_hash ⟨by decide, by decide⟩ rfl rfl (by decide) (ws_ne (by decide) (ws_ne (by decide) (ws_ne (by decide) ws_eq))) rfl rfl (Nat.le_of_ble_eq_true rfl) (by decide) (by decide) (fun w9 h9 => ?_)
          obtain ⟨t_10, t_11, t_12, t_13, fw_14, f_15, rfl, h_16⟩ := h9
          refine r_eq rfl rfl ((((congrArg (fun z => wset (wset (wset (z) 19 (ia 16 fw_14)) 29 (ob 3 [.ref 30, .int (nI ((md5 zs).length))])) 30 (ia 16 f_15)) ((ws_comm (by decide)).trans (congrArg (fun z => wset z 30 (ia 16 f1)) ((ws_comm (by decide)).trans (congrArg (fun z => wset z 29 (ob 3 [.ref 30, .int (nI zs.length)])) ((ws_comm (by decide)).trans (congrArg (fun z => wset z 19 (ia 16 fv)) ws_same))))))).trans (congrArg (fun z => wset (wset (z) 29 (ob 3 [.ref 30, .int (nI ((md5 zs).length))])) 30 (ia 16 f_15)) ((ws_comm (by decide)).trans (congrArg (fun z => wset z 30 (ia 16 f1)) ((ws_comm (by decide)).trans (congrArg (fun z => wset z 29 (ob 3 [.ref 30, .int (nI zs.length)])) ws_same)))))).trans (congrArg (fun z => wset (z) 30 (ia 16 f_15)) ((ws_comm (by decide)).trans (congrArg (fun z => wset z 30 (ia 16 f1)) ws_same)))).trans ws_same) ?_
          refine r_iinc C dX1_deriveOwnerKey_61 (v := nI (t + 1)) (L' := [some (.ref 5), some (.ref a), some (.int (nI (t + 1)))]) rfl (nI_add t 1) (by decide) rfl ?_
          refine r_goto C 40 dX1_deriveOwnerKey_64 (by decide) ?_
          exact ih_40 (t + 1) _ _ t_10 t_11 t_12 t_13 _ (by omega) (by omega) (by rw [again, ← hz, take_all (by omega)]) h_16
    exact loop_40 _ 0 _ _ t_3 t_4 t_5 t_6 _ (Nat.lt_succ_self _) (by omega) rfl h_9
set_option maxHeartbeats 4000000 in
set_option maxRecDepth 100000 in
theorem cX1_deriveKey9 {w : Wo} {rv lo pm : Int32} {ln : Nat} (w_5 : w 5 = ob 1 [.int rv, .int (nI ln), .int pm, .int lo, .ref 6, .ref 8, .ref 10, .ref 12, .ref 14, .ref 16, .ref 18, .ref 20, .ref 22, .ref 27, .ref 29, .ref 31, .ref 33]) (hln : 5 ≤ ln ∧ ln ≤ 16) {fw : Nat → Int32} {sA sB sC sD : Int32} (w_18 : w 18 = ob 2 [.ref 19, .int sA, .int sB, .int sC, .int sD]) (w_19 : w 19 = ia 16 fw) {f28 : Nat → Int32} {gl : List Nat} (w_27 : w 27 = ob 3 [.ref 28, .int (nI gl.length)]) (w_28 : w 28 = ia 136 f28) (h_gl : hs f28 gl) (k_gl : gl.length ≤ 136) {f30 : Nat → Int32} {tl : List Nat} (w_29 : w 29 = ob 3 [.ref 30, .int (nI tl.length)]) (w_30 : w 30 = ia 16 f30) (h_tl : hs f30 tl) (k_tl : tl.length ≤ 16) {f7 : Nat → Int32} {ow : List Nat} (w_6 : w 6 = ob 3 [.ref 7, .int (nI ow.length)]) (w_7 : w 7 = ia 32 f7) (h_ow : hs f7 ow) (k_ow : ow.length ≤ 32) (how : ow.length = 32) {f11 : Nat → Int32} {nb : List Nat} (w_10 : w 10 = ob 3 [.ref 11, .int (nI nb.length)]) (w_11 : w 11 = ia 64 f11) (h_nb : hs f11 nb) (k_nb : nb.length ≤ 64) {a b n : Nat} (hab : (a = 1 ∧ b = 2) ∨ (a = 14 ∧ b = 15) ∨ (a = 33 ∧ b = 34)) {f : Nat → Int32} {ys : List Nat} (w_a : w a = ob 3 [.ref b, .int (nI ys.length)]) (w_b : w b = ia n f) (h_ys : hs f ys) (k_ys : ys.length ≤ n) (hn : n ≤ 1048576) (hby : byt ys) : Ctr mX1_deriveKey [.ref 5, .ref a] w (PV fun w' => ∃ fg' tA tB tC tD fw' ft', w' = wset (wset (wset (wset (wset (wset (w) 27 (ob 3 [.ref 28, .int (nI (keyMsg rv pm lo ow nb ys).length)])) 28 (ia 136 fg')) 18 (ob 2 [.ref 19, .int tA, .int tB, .int tC, .int tD])) 19 (ia 16 fw')) 29 (ob 3 [.ref 30, .int (nI (keyOf rv ln pm lo ow nb ys).length)])) 30 (ia 16 ft') ∧ hs fg' (keyMsg rv pm lo ow nb ys) ∧ hs ft' (keyOf rv ln pm lo ow nb ys)) := by
  refine Ctr_intro okX1_deriveKey rfl (Nat.le_of_ble_eq_true rfl) (L := [some (.ref 5), some (.ref a), none]) rfl (fun g ct C T_ => ?_)
  refine r_aload_n C dX1_deriveKey_0 rfl ?_
  refine r_get C dX1_deriveKey_1 fgRX1_70 (by decide) w_5 rfl ?_
  refine r_callVv C (As := []) (rest := []) dX1_deriveKey_4 (cX3_clear9 (by decide) (by decide) (by decide) w_27 w_28 h_gl (by first | omega | (simp only [List.length_append, List.length_nil, List.length_cons, List.length_take, List.length_replicate, List.length_range, List.length_map, lof_len, pad_len, padd_len, md5_len, strm_len, strms_len, entOf_len, hif_len]; omega)) (by decide)) okX3_clear mlRX1_89 imX3_clear seX3_clear ⟨by decide, by decide⟩ rfl rfl (by decide) w_27 rfl rfl (Nat.le_of_ble_eq_true rfl) (by decide) (by decide) (fun w9 h9 => ?_)
  obtain rfl := h9
  refine r_aload_n C dX1_deriveKey_7 rfl ?_
  refine r_get C dX1_deriveKey_8 fgRX1_70 (by decide) (ws_ne (by decide) w_5) rfl ?_
  refine r_aload_n C dX1_deriveKey_11 rfl ?_
  refine r_callSv C (As := [.ref 27, .ref a]) (rest := []) dX1_deriveKey_12 (cX1_addPadded9 (by decide) (by decide) (by unfold NW; omega) (by unfold NW; omega) (by decide) (by omega) (by omega) (by omega) (by omega) (by omega) ws_eq (ws_ne (by decide) w_28) (hs_nil _) (by first | omega | (simp only [List.length_append, List.length_nil, List.length_cons, List.length_take, List.length_replicate, List.length_range, List.length_map, lof_len, pad_len, padd_len, md5_len, strm_len, strms_len, entOf_len, hif_len]; omega)) (by decide) (ws_ne (by omega) w_a) (ws_ne (by omega) w_b) h_ys (by first | omega | (simp only [List.length_append, List.length_nil, List.length_cons, List.length_take, List.length_replicate, List.length_range, List.length_map, lof_len, pad_len, padd_len, md5_len, strm_len, strms_len, entOf_len, hif_len]; omega)) (by omega) hby (by first | omega | (simp only [List.length_append, List.length_nil, List.length_cons, List.length_take, List.length_replicate, List.length_range, List.length_map, lof_len, pad_len, padd_len, md5_len, strm_len, strms_len, entOf_len, hif_len]; omega))) okX1_addPadded mlRX1_92 stX1_addPadded ⟨by decide, by decide⟩ rfl rfl (Nat.le_of_ble_eq_true rfl) (by decide) (by decide) (fun w9 h9 => ?_)
  obtain ⟨f_1, rfl, h_2⟩ := h9
  simp only [List.nil_append] at h_2 ⊢
  refine r_eq rfl rfl ((ws_comm (by decide)).trans (congrArg (fun z => wset z 28 (ia 136 f_1)) ws_same)) ?_
  refine r_aload_n C dX1_deriveKey_15 rfl ?_
  refine r_get C dX1_deriveKey_16 fgRX1_70 (by decide) (ws_ne (by decide) (ws_ne (by decide) w_5)) rfl ?_
  refine r_aload_n C dX1_deriveKey_19 rfl ?_
  refine r_get C dX1_deriveKey_20 fgRX1_30 (by decide) (ws_ne (by decide) (ws_ne (by decide) w_5)) rfl ?_
  refine r_callVv C (As := [.ref 6]) (rest := []) dX1_deriveKey_23 (cX3_addRow9 (by decide) (by decide) (by decide) (ws_ne (by decide) ws_eq) ws_eq h_2 (by first | omega | (simp only [List.length_append, List.length_nil, List.length_cons, List.length_take, List.length_replicate, List.length_range, List.length_map, lof_len, pad_len, padd_len, md5_len, strm_len, strms_len, entOf_len, hif_len]; omega)) (by decide) (by decide) (by decide) (by decide) (by decide) (by decide) (by decide) (ws_ne (by decide) (ws_ne (by decide) w_6)) (ws_ne (by decide) (ws_ne (by decide) w_7)) h_ow (by first | omega | (simp only [List.length_append, List.length_nil, List.length_cons, List.length_take, List.length_replicate, List.length_range, List.length_map, lof_len, pad_len, padd_len, md5_len, strm_len, strms_len, entOf_len, hif_len]; omega)) (by decide) (by first | omega | (simp only [List.length_append, List.length_nil, List.length_cons, List.length_take, List.length_replicate, List.length_range, List.length_map, lof_len, pad_len, padd_len, md5_len, strm_len, strms_len, entOf_len, hif_len]; omega))) okX3_addRow mlRX1_142 imX3_addRow seX3_addRow ⟨by decide, by decide⟩ rfl rfl (by decide) (ws_ne (by decide) ws_eq) rfl rfl (Nat.le_of_ble_eq_true rfl) (by decide) (by decide) (fun w9 h9 => ?_)
  obtain ⟨f_3, rfl, h_4⟩ := h9
  refine r_eq rfl rfl ((congrArg (fun z => wset (z) 27 (ob 3 [.ref 28, .int (nI (((padd ys) ++ ow).length))])) ws_same).trans ((ws_comm (by decide)).trans (congrArg (fun z => wset z 28 (ia 136 f_3)) ws_same))) ?_
  refine r_aload_n C dX1_deriveKey_26 rfl ?_
  refine r_get C dX1_deriveKey_27 fgRX1_70 (by decide) (ws_ne (by decide) (ws_ne (by decide) w_5)) rfl ?_
  refine r_aload_n C dX1_deriveKey_30 rfl ?_
  refine r_get C dX1_deriveKey_31 fgRX1_18 (by decide) (ws_ne (by decide) (ws_ne (by decide) w_5)) rfl ?_
  refine r_iconst C dX1_deriveKey_34 (v := 4) (by decide) ?_
  refine r_callVv C (As := [.int pm, .int 4]) (rest := []) dX1_deriveKey_35 (cX3_addLowestFirst9 (by decide) (by decide) (by decide) (ws_ne (by decide) ws_eq) ws_eq h_4 (by first | omega | (simp only [List.length_append, List.length_nil, List.length_cons, List.length_take, List.length_replicate, List.length_range, List.length_map, lof_len, pad_len, padd_len, md5_len, strm_len, strms_len, entOf_len, hif_len]; omega)) (by decide) (x := pm) (t := 4) (by omega) (by first | omega | (simp only [List.length_append, List.length_nil, List.length_cons, List.length_take, List.length_replicate, List.length_range, List.length_map, lof_len, pad_len, padd_len, md5_len, strm_len, strms_len, entOf_len, hif_len]; omega))) okX3_addLowestFirst mlRX1_112 imX3_addLowestFirst seX3_addLowestFirst ⟨by decide, by decide⟩ rfl rfl (by decide) (ws_ne (by decide) ws_eq) rfl rfl (Nat.le_of_ble_eq_true rfl) (by decide) (by decide) (fun w9 h9 => ?_)
  obtain ⟨f_5, rfl, h_6⟩ := h9
  refine r_eq rfl rfl ((congrArg (fun z => wset (z) 27 (ob 3 [.ref 28, .int (nI ((((padd ys) ++ ow) ++ lof pm 4).length))])) ws_same).trans ((ws_comm (by decide)).trans (congrArg (fun z => wset z 28 (ia 136 f_5)) ws_same))) ?_
  refine r_aload_n C dX1_deriveKey_38 rfl ?_
  refine r_get C dX1_deriveKey_39 fgRX1_70 (by decide) (ws_ne (by decide) (ws_ne (by decide) w_5)) rfl ?_
  refine r_aload_n C dX1_deriveKey_42 rfl ?_
  refine r_get C dX1_deriveKey_43 fgRX1_37 (by decide) (ws_ne (by decide) (ws_ne (by decide) w_5)) rfl ?_
  refine r_callVv C (As := [.ref 10]) (rest := []) dX1_deriveKey_46 (cX3_addRow9 (by decide) (by decide) (by decide) (ws_ne (by decide) ws_eq) ws_eq h_6 (by first | omega | (simp only [List.length_append, List.length_nil, List.length_cons, List.length_take, List.length_replicate, List.length_range, List.length_map, lof_len, pad_len, padd_len, md5_len, strm_len, strms_len, entOf_len, hif_len]; omega)) (by decide) (by decide) (by decide) (by decide) (by decide) (by decide) (by decide) (ws_ne (by decide) (ws_ne (by decide) w_10)) (ws_ne (by decide) (ws_ne (by decide) w_11)) h_nb (by first | omega | (simp only [List.length_append, List.length_nil, List.length_cons, List.length_take, List.length_replicate, List.length_range, List.length_map, lof_len, pad_len, padd_len, md5_len, strm_len, strms_len, entOf_len, hif_len]; omega)) (by decide) (by first | omega | (simp only [List.length_append, List.length_nil, List.length_cons, List.length_take, List.length_replicate, List.length_range, List.length_map, lof_len, pad_len, padd_len, md5_len, strm_len, strms_len, entOf_len, hif_len]; omega))) okX3_addRow mlRX1_142 imX3_addRow seX3_addRow ⟨by decide, by decide⟩ rfl rfl (by decide) (ws_ne (by decide) ws_eq) rfl rfl (Nat.le_of_ble_eq_true rfl) (by decide) (by decide) (fun w9 h9 => ?_)
  obtain ⟨f_7, rfl, h_8⟩ := h9
  refine r_eq rfl rfl ((congrArg (fun z => wset (z) 27 (ob 3 [.ref 28, .int (nI (((((padd ys) ++ ow) ++ lof pm 4) ++ nb).length))])) ws_same).trans ((ws_comm (by decide)).trans (congrArg (fun z => wset z 28 (ia 136 f_7)) ws_same))) ?_
  refine r_aload_n C dX1_deriveKey_49 rfl ?_
  refine r_get C dX1_deriveKey_50 fgRX1_9 (by decide) (ws_ne (by decide) (ws_ne (by decide) w_5)) rfl ?_
  refine r_iconst C dX1_deriveKey_53 (v := 4) (by decide) ?_
  refine r_icmp_ne C 75 dX1_deriveKey_54 (by decide) (fun c_54 => ?_) (fun c_54 => ?_)
  · skip
    have hkm : (((padd ys) ++ ow) ++ lof pm 4) ++ nb = keyMsg rv pm lo ow nb ys := (keyMsg_no (fun z => c_54 z.1)).symm
    have h_9 := h_8
    rw [hkm] at h_9
    rw [hkm]
    have hml := keyMsg_le rv pm lo ys how k_nb
    refine r_aload_n C dX1_deriveKey_75 rfl ?_
    refine r_get C dX1_deriveKey_76 fgRX1_52 (by decide) (ws_ne (by decide) (ws_ne (by decide) w_5)) rfl ?_
    refine r_aload_n C dX1_deriveKey_79 rfl ?_
    refine r_get C dX1_deriveKey_80 fgRX1_70 (by decide) (ws_ne (by decide) (ws_ne (by decide) w_5)) rfl ?_
    refine r_aload_n C dX1_deriveKey_83 rfl ?_
    refine r_get C dX1_deriveKey_84 fgRX1_73 (by decide) (ws_ne (by decide) (ws_ne (by decide) w_5)) rfl ?_
    refine r_callVv C (As := [.ref 27, .ref 29]) (rest := []) dX1_deriveKey_87 (cX2_hash9 (by decide) (by decide) (by decide) (by decide) (by decide) (by decide) (by decide) (by decide) (by decide) (by decide) (by decide) (by decide) (by decide) (by decide) (by decide) (by decide) (by decide) (by decide) (by decide) (by decide) (by decide) (ws_ne (by decide) (ws_ne (by decide) w_18)) (ws_ne (by decide) (ws_ne (by decide) w_19)) (ws_ne (by decide) ws_eq) ws_eq h_9 (by first | omega | (simp only [List.length_append, List.length_nil, List.length_cons, List.length_take, List.length_replicate, List.length_range, List.length_map, lof_len, pad_len, padd_len, md5_len, strm_len, strms_len, entOf_len, hif_len]; omega)) (by decide) (ws_ne (by decide) (ws_ne (by decide) w_29)) (ws_ne (by decide) (ws_ne (by decide) w_30)) h_tl (by first | omega | (simp only [List.length_append, List.length_nil, List.length_cons, List.length_take, List.length_replicate, List.length_range, List.length_map, lof_len, pad_len, padd_len, md5_len, strm_len, strms_len, entOf_len, hif_len]; omega)) (by decide) (by decide)) okX2_hash mlRX1_120 imX2_hash seX2_hash ⟨by decide, by decide⟩ rfl rfl (by decide) (ws_ne (by decide) (ws_ne (by decide) w_18)) rfl rfl (Nat.le_of_ble_eq_true rfl) (by decide) (by decide) (fun w9 h9 => ?_)
    obtain ⟨t_10, t_11, t_12, t_13, fw_14, f_15, rfl, h_16⟩ := h9
    refine r_aload_n C dX1_deriveKey_90 rfl ?_
    refine r_get C dX1_deriveKey_91 fgRX1_9 (by decide) (ws_ne (by decide) (ws_ne (by decide) (ws_ne (by decide) (ws_ne (by decide) (ws_ne (by decide) (ws_ne (by decide) w_5)))))) rfl ?_
    refine r_iconst C dX1_deriveKey_94 (v := 3) (by decide) ?_
    refine r_icmp_lt C 138 dX1_deriveKey_95 (by decide) (fun c_95 => ?_) (fun c_95 => ?_)
    · skip
      refine r_aload_n C dX1_deriveKey_138 rfl ?_
      refine r_get C dX1_deriveKey_139 fgRX1_73 (by decide) (ws_ne (by decide) (ws_ne (by decide) (ws_ne (by decide) (ws_ne (by decide) (ws_ne (by decide) (ws_ne (by decide) w_5)))))) rfl ?_
      refine r_aload_n C dX1_deriveKey_142 rfl ?_
      refine r_get C dX1_deriveKey_143 fgRX1_15 (by decide) (ws_ne (by decide) (ws_ne (by decide) (ws_ne (by decide) (ws_ne (by decide) (ws_ne (by decide) (ws_ne (by decide) w_5)))))) rfl ?_
      refine r_callVv C (As := [.int (nI ln)]) (rest := []) dX1_deriveKey_146 (cX3_shorten9 (by decide) (by decide) (by decide) (ws_ne (by decide) ws_eq) ws_eq h_16 (by first | omega | (simp only [List.length_append, List.length_nil, List.length_cons, List.length_take, List.length_replicate, List.length_range, List.length_map, lof_len, pad_len, padd_len, md5_len, strm_len, strms_len, entOf_len, hif_len]; omega)) (by decide) (nI ln)) okX3_shorten mlRX1_123 imX3_shorten seX3_shorten ⟨by decide, by decide⟩ rfl rfl (by decide) (ws_ne (by decide) ws_eq) rfl rfl (Nat.le_of_ble_eq_true rfl) (by decide) (by decide) (fun w9 h9 => ?_)
      obtain rfl := h9
      refine r_eq rfl rfl ((ws_comm (by decide)).trans (congrArg (fun z => wset z 30 (ia 16 f_15)) ws_same)) ?_
      rw [cutTo_n (md5 (keyMsg rv pm lo ow nb ys)) (show ln < 2 ^ 31 by omega)]
      exact r_return C T_ rfl dX1_deriveKey_149 (⟨rfl, _, _, _, _, _, _, _, by rw [show keyOf rv ln pm lo ow nb ys = (md5 (keyMsg rv pm lo ow nb ys)).take ln by unfold keyOf; rw [if_neg (Int32.not_le.mpr c_95)]], h_9, by rw [show keyOf rv ln pm lo ow nb ys = (md5 (keyMsg rv pm lo ow nb ys)).take ln by unfold keyOf; rw [if_neg (Int32.not_le.mpr c_95)]]; exact (hs_take h_16)⟩)
    · skip
      refine r_iconst C dX1_deriveKey_98 (v := 0) (by decide) ?_
      refine r_istore_n C dX1_deriveKey_99 (L' := [some (.ref 5), some (.ref a), some (.int 0)]) (by decide) rfl ?_
      have loop_100 : ∀ (d9 : Nat) (t : Nat) (zs : List Nat) (f1 : Nat → Int32) (vA : Int32) (vB : Int32) (vC : Int32) (vD : Int32) (fv : Nat → Int32), 50 - t < d9 → t ≤ 50 → zs = again ln t (md5 (keyMsg rv pm lo ow nb ys)) → hs f1 zs → Az g mX1_deriveKey ct 0 0 100 [some (.ref 5), some (.ref a), some (.int (nI t))] [] (wset (wset (wset (wset (wset (wset w 27 (ob 3 [.ref 28, .int (nI ((keyMsg rv pm lo ow nb ys).length))])) 28 (ia 136 f_7)) 18 (ob 2 [.ref 19, .int vA, .int vB, .int vC, .int vD])) 19 (ia 16 fv)) 29 (ob 3 [.ref 30, .int (nI zs.length)])) 30 (ia 16 f1)) := by
        intro d9
        induction d9 with
        | zero => intro t zs f1 vA vB vC vD fv hd9; exact absurd hd9 (Nat.not_lt_zero _)
        | succ d9 ih_100 =>
          intro t zs f1 vA vB vC vD fv hd9 ht hz hf1
          have hzl : zs.length = 16 := by rw [hz]; exact again_len (md5_len _) t
          refine r_iload_n C dX1_deriveKey_100 rfl ?_
          refine r_bipush C dX1_deriveKey_101 (v := 50) (by decide) ?_
          refine r_icmp_ge C 138 dX1_deriveKey_103 (by decide) (fun c_103 => ?_) (fun c_103 => ?_)
          · skip
            have c_103 : 50 ≤ t := (nI_leI (a := 50) (b := t) (by omega) (by omega)).mp c_103
            refine r_aload_n C dX1_deriveKey_138 rfl ?_
            refine r_get C dX1_deriveKey_139 fgRX1_73 (by decide) (ws_ne (by decide) (ws_ne (by decide) (ws_ne (by decide) (ws_ne (by decide) (ws_ne (by decide) (ws_ne (by decide) w_5)))))) rfl ?_
            refine r_aload_n C dX1_deriveKey_142 rfl ?_
            refine r_get C dX1_deriveKey_143 fgRX1_15 (by decide) (ws_ne (by decide) (ws_ne (by decide) (ws_ne (by decide) (ws_ne (by decide) (ws_ne (by decide) (ws_ne (by decide) w_5)))))) rfl ?_
            refine r_callVv C (As := [.int (nI ln)]) (rest := []) dX1_deriveKey_146 (cX3_shorten9 (by decide) (by decide) (by decide) (ws_ne (by decide) ws_eq) ws_eq hf1 (by first | omega | (simp only [List.length_append, List.length_nil, List.length_cons, List.length_take, List.length_replicate, List.length_range, List.length_map, lof_len, pad_len, padd_len, md5_len, strm_len, strms_len, entOf_len, hif_len]; omega)) (by decide) (nI ln)) okX3_shorten mlRX1_123 imX3_shorten seX3_shorten ⟨by decide, by decide⟩ rfl rfl (by decide) (ws_ne (by decide) ws_eq) rfl rfl (Nat.le_of_ble_eq_true rfl) (by decide) (by decide) (fun w9 h9 => ?_)
            obtain rfl := h9
            refine r_eq rfl rfl ((ws_comm (by decide)).trans (congrArg (fun z => wset z 30 (ia 16 f1)) ws_same)) ?_
            rw [cutTo_n zs (show ln < 2 ^ 31 by omega)]
            exact r_return C T_ rfl dX1_deriveKey_149 (⟨rfl, _, _, _, _, _, _, _, by rw [show keyOf rv ln pm lo ow nb ys = zs.take ln by unfold keyOf; rw [if_pos (Int32.not_lt.mp c_95)]; rw [hz, show t = 50 by omega]], h_9, by rw [show keyOf rv ln pm lo ow nb ys = zs.take ln by unfold keyOf; rw [if_pos (Int32.not_lt.mp c_95)]; rw [hz, show t = 50 by omega]]; exact (hs_take hf1)⟩)
          · skip
            have c_103 : ¬ (50 ≤ t) := fun h9 => c_103 ((nI_leI (a := 50) (b := t) (by omega) (by omega)).mpr h9)
            refine r_aload_n C dX1_deriveKey_106 rfl ?_
            refine r_get C dX1_deriveKey_107 fgRX1_73 (by decide) (ws_ne (by decide) (ws_ne (by decide) (ws_ne (by decide) (ws_ne (by decide) (ws_ne (by decide) (ws_ne (by decide) w_5)))))) rfl ?_
            refine r_aload_n C dX1_deriveKey_110 rfl ?_
            refine r_get C dX1_deriveKey_111 fgRX1_15 (by decide) (ws_ne (by decide) (ws_ne (by decide) (ws_ne (by decide) (ws_ne (by decide) (ws_ne (by decide) (ws_ne (by decide) w_5)))))) rfl ?_
            refine r_callVv C (As := [.int (nI ln)]) (rest := []) dX1_deriveKey_114 (cX3_shorten9 (by decide) (by decide) (by decide) (ws_ne (by decide) ws_eq) ws_eq hf1 (by first | omega | (simp only [List.length_append, List.length_nil, List.length_cons, List.length_take, List.length_replicate, List.length_range, List.length_map, lof_len, pad_len, padd_len, md5_len, strm_len, strms_len, entOf_len, hif_len]; omega)) (by decide) (nI ln)) okX3_shorten mlRX1_123 imX3_shorten seX3_shorten ⟨by decide, by decide⟩ rfl rfl (by decide) (ws_ne (by decide) ws_eq) rfl rfl (Nat.le_of_ble_eq_true rfl) (by decide) (by decide) (fun w9 h9 => ?_)
            obtain rfl := h9
            refine r_eq rfl rfl ((ws_comm (by decide)).trans (congrArg (fun z => wset z 30 (ia 16 f1)) ws_same)) ?_
            rw [cutTo_n zs (show ln < 2 ^ 31 by omega)]
            refine r_aload_n C dX1_deriveKey_117 rfl ?_
            refine r_get C dX1_deriveKey_118 fgRX1_52 (by decide) (ws_ne (by decide) (ws_ne (by decide) (ws_ne (by decide) (ws_ne (by decide) (ws_ne (by decide) (ws_ne (by decide) w_5)))))) rfl ?_
            refine r_aload_n C dX1_deriveKey_121 rfl ?_
            refine r_get C dX1_deriveKey_122 fgRX1_73 (by decide) (ws_ne (by decide) (ws_ne (by decide) (ws_ne (by decide) (ws_ne (by decide) (ws_ne (by decide) (ws_ne (by decide) w_5)))))) rfl ?_
            refine r_aload_n C dX1_deriveKey_125 rfl ?_
            refine r_get C dX1_deriveKey_126 fgRX1_73 (by decide) (ws_ne (by decide) (ws_ne (by decide) (ws_ne (by decide) (ws_ne (by decide) (ws_ne (by decide) (ws_ne (by decide) w_5)))))) rfl ?_
            refine r_callVv C (As := [.ref 29, .ref 29]) (rest := []) dX1_deriveKey_129 (cX2_hash9s (by decide) (by decide) (by decide) (by decide) (by decide) (by decide) (by decide) (by decide) (by decide) (by decide) (ws_ne (by decide) (ws_ne (by decide) (ws_ne (by decide) ws_eq))) (ws_ne (by decide) (ws_ne (by decide) ws_eq)) (ws_ne (by decide) ws_eq) ws_eq (hs_take hf1) (by first | omega | (simp only [List.length_append, List.length_nil, List.length_cons, List.length_take, List.length_replicate, List.length_range, List.length_map, lof_len, pad_len, padd_len, md5_len, strm_len, strms_len, entOf_len, hif_len]; omega)) (by decide) (by decide)) okX2_hash mlRX1_120 imX2_hash seX2_hash ⟨by decide, by decide⟩ rfl rfl (by decide) (ws_ne (by decide) (ws_ne (by decide) (ws_ne (by decide) ws_eq))) rfl rfl (Nat.le_of_ble_eq_true rfl) (by decide) (by decide) (fun w9 h9 => ?_)
            obtain ⟨t_17, t_18, t_19, t_20, fw_21, f_22, rfl, h_23⟩ := h9
            refine r_eq rfl rfl ((((congrArg (fun z => wset (wset (wset (z) 19 (ia 16 fw_21)) 29 (ob 3 [.ref 30, .int (nI ((md5 (zs.take ln)).length))])) 30 (ia 16 f_22)) ((ws_comm (by decide)).trans (congrArg (fun z => wset z 30 (ia 16 f1)) ((ws_comm (by decide)).trans (congrArg (fun z => wset z 29 (ob 3 [.ref 30, .int (nI ((zs.take ln).length))])) ((ws_comm (by decide)).trans (congrArg (fun z => wset z 19 (ia 16 fv)) ws_same))))))).trans (congrArg (fun z => wset (wset (z) 29 (ob 3 [.ref 30, .int (nI ((md5 (zs.take ln)).length))])) 30 (ia 16 f_22)) ((ws_comm (by decide)).trans (congrArg (fun z => wset z 30 (ia 16 f1)) ((ws_comm (by decide)).trans (congrArg (fun z => wset z 29 (ob 3 [.ref 30, .int (nI ((zs.take ln).length))])) ws_same)))))).trans (congrArg (fun z => wset (z) 30 (ia 16 f_22)) ((ws_comm (by decide)).trans (congrArg (fun z => wset z 30 (ia 16 f1)) ws_same)))).trans ws_same) ?_
            refine r_iinc C dX1_deriveKey_132 (v := nI (t + 1)) (L' := [some (.ref 5), some (.ref a), some (.int (nI (t + 1)))]) rfl (nI_add t 1) (by decide) rfl ?_
            refine r_goto C 100 dX1_deriveKey_135 (by decide) ?_
            exact ih_100 (t + 1) _ _ t_17 t_18 t_19 t_20 _ (by omega) (by omega) (by rw [again, ← hz]) h_23
      exact loop_100 _ 0 _ _ t_10 t_11 t_12 t_13 _ (Nat.lt_succ_self _) (by omega) rfl h_16
  · skip
    refine r_aload_n C dX1_deriveKey_57 rfl ?_
    refine r_get C dX1_deriveKey_58 fgRX1_21 (by decide) (ws_ne (by decide) (ws_ne (by decide) w_5)) rfl ?_
    refine r_if_eq C 75 dX1_deriveKey_61 (by decide) (fun c_61 => ?_) (fun c_61 => ?_)
    · skip
      have hkm : (((padd ys) ++ ow) ++ lof pm 4) ++ nb = keyMsg rv pm lo ow nb ys := (keyMsg_no (fun z => z.2 c_61)).symm
      have h_24 := h_8
      rw [hkm] at h_24
      rw [hkm]
      have hml := keyMsg_le rv pm lo ys how k_nb
      refine r_aload_n C dX1_deriveKey_75 rfl ?_
      refine r_get C dX1_deriveKey_76 fgRX1_52 (by decide) (ws_ne (by decide) (ws_ne (by decide) w_5)) rfl ?_
      refine r_aload_n C dX1_deriveKey_79 rfl ?_
      refine r_get C dX1_deriveKey_80 fgRX1_70 (by decide) (ws_ne (by decide) (ws_ne (by decide) w_5)) rfl ?_
      refine r_aload_n C dX1_deriveKey_83 rfl ?_
      refine r_get C dX1_deriveKey_84 fgRX1_73 (by decide) (ws_ne (by decide) (ws_ne (by decide) w_5)) rfl ?_
      refine r_callVv C (As := [.ref 27, .ref 29]) (rest := []) dX1_deriveKey_87 (cX2_hash9 (by decide) (by decide) (by decide) (by decide) (by decide) (by decide) (by decide) (by decide) (by decide) (by decide) (by decide) (by decide) (by decide) (by decide) (by decide) (by decide) (by decide) (by decide) (by decide) (by decide) (by decide) (ws_ne (by decide) (ws_ne (by decide) w_18)) (ws_ne (by decide) (ws_ne (by decide) w_19)) (ws_ne (by decide) ws_eq) ws_eq h_24 (by first | omega | (simp only [List.length_append, List.length_nil, List.length_cons, List.length_take, List.length_replicate, List.length_range, List.length_map, lof_len, pad_len, padd_len, md5_len, strm_len, strms_len, entOf_len, hif_len]; omega)) (by decide) (ws_ne (by decide) (ws_ne (by decide) w_29)) (ws_ne (by decide) (ws_ne (by decide) w_30)) h_tl (by first | omega | (simp only [List.length_append, List.length_nil, List.length_cons, List.length_take, List.length_replicate, List.length_range, List.length_map, lof_len, pad_len, padd_len, md5_len, strm_len, strms_len, entOf_len, hif_len]; omega)) (by decide) (by decide)) okX2_hash mlRX1_120 imX2_hash seX2_hash ⟨by decide, by decide⟩ rfl rfl (by decide) (ws_ne (by decide) (ws_ne (by decide) w_18)) rfl rfl (Nat.le_of_ble_eq_true rfl) (by decide) (by decide) (fun w9 h9 => ?_)
      obtain ⟨t_25, t_26, t_27, t_28, fw_29, f_30, rfl, h_31⟩ := h9
      refine r_aload_n C dX1_deriveKey_90 rfl ?_
      refine r_get C dX1_deriveKey_91 fgRX1_9 (by decide) (ws_ne (by decide) (ws_ne (by decide) (ws_ne (by decide) (ws_ne (by decide) (ws_ne (by decide) (ws_ne (by decide) w_5)))))) rfl ?_
      refine r_iconst C dX1_deriveKey_94 (v := 3) (by decide) ?_
      refine r_icmp_lt C 138 dX1_deriveKey_95 (by decide) (fun c_95 => ?_) (fun c_95 => ?_)
      · skip
        refine r_aload_n C dX1_deriveKey_138 rfl ?_
        refine r_get C dX1_deriveKey_139 fgRX1_73 (by decide) (ws_ne (by decide) (ws_ne (by decide) (ws_ne (by decide) (ws_ne (by decide) (ws_ne (by decide) (ws_ne (by decide) w_5)))))) rfl ?_
        refine r_aload_n C dX1_deriveKey_142 rfl ?_
        refine r_get C dX1_deriveKey_143 fgRX1_15 (by decide) (ws_ne (by decide) (ws_ne (by decide) (ws_ne (by decide) (ws_ne (by decide) (ws_ne (by decide) (ws_ne (by decide) w_5)))))) rfl ?_
        refine r_callVv C (As := [.int (nI ln)]) (rest := []) dX1_deriveKey_146 (cX3_shorten9 (by decide) (by decide) (by decide) (ws_ne (by decide) ws_eq) ws_eq h_31 (by first | omega | (simp only [List.length_append, List.length_nil, List.length_cons, List.length_take, List.length_replicate, List.length_range, List.length_map, lof_len, pad_len, padd_len, md5_len, strm_len, strms_len, entOf_len, hif_len]; omega)) (by decide) (nI ln)) okX3_shorten mlRX1_123 imX3_shorten seX3_shorten ⟨by decide, by decide⟩ rfl rfl (by decide) (ws_ne (by decide) ws_eq) rfl rfl (Nat.le_of_ble_eq_true rfl) (by decide) (by decide) (fun w9 h9 => ?_)
        obtain rfl := h9
        refine r_eq rfl rfl ((ws_comm (by decide)).trans (congrArg (fun z => wset z 30 (ia 16 f_30)) ws_same)) ?_
        rw [cutTo_n (md5 (keyMsg rv pm lo ow nb ys)) (show ln < 2 ^ 31 by omega)]
        exact r_return C T_ rfl dX1_deriveKey_149 (⟨rfl, _, _, _, _, _, _, _, by rw [show keyOf rv ln pm lo ow nb ys = (md5 (keyMsg rv pm lo ow nb ys)).take ln by unfold keyOf; rw [if_neg (Int32.not_le.mpr c_95)]], h_24, by rw [show keyOf rv ln pm lo ow nb ys = (md5 (keyMsg rv pm lo ow nb ys)).take ln by unfold keyOf; rw [if_neg (Int32.not_le.mpr c_95)]]; exact (hs_take h_31)⟩)
      · skip
        refine r_iconst C dX1_deriveKey_98 (v := 0) (by decide) ?_
        refine r_istore_n C dX1_deriveKey_99 (L' := [some (.ref 5), some (.ref a), some (.int 0)]) (by decide) rfl ?_
        have loop_100 : ∀ (d9 : Nat) (t : Nat) (zs : List Nat) (f1 : Nat → Int32) (vA : Int32) (vB : Int32) (vC : Int32) (vD : Int32) (fv : Nat → Int32), 50 - t < d9 → t ≤ 50 → zs = again ln t (md5 (keyMsg rv pm lo ow nb ys)) → hs f1 zs → Az g mX1_deriveKey ct 0 0 100 [some (.ref 5), some (.ref a), some (.int (nI t))] [] (wset (wset (wset (wset (wset (wset w 27 (ob 3 [.ref 28, .int (nI ((keyMsg rv pm lo ow nb ys).length))])) 28 (ia 136 f_7)) 18 (ob 2 [.ref 19, .int vA, .int vB, .int vC, .int vD])) 19 (ia 16 fv)) 29 (ob 3 [.ref 30, .int (nI zs.length)])) 30 (ia 16 f1)) := by
          intro d9
          induction d9 with
          | zero => intro t zs f1 vA vB vC vD fv hd9; exact absurd hd9 (Nat.not_lt_zero _)
          | succ d9 ih_100 =>
            intro t zs f1 vA vB vC vD fv hd9 ht hz hf1
            have hzl : zs.length = 16 := by rw [hz]; exact again_len (md5_len _) t
            refine r_iload_n C dX1_deriveKey_100 rfl ?_
            refine r_bipush C dX1_deriveKey_101 (v := 50) (by decide) ?_
            refine r_icmp_ge C 138 dX1_deriveKey_103 (by decide) (fun c_103 => ?_) (fun c_103 => ?_)
            · skip
              have c_103 : 50 ≤ t := (nI_leI (a := 50) (b := t) (by omega) (by omega)).mp c_103
              refine r_aload_n C dX1_deriveKey_138 rfl ?_
              refine r_get C dX1_deriveKey_139 fgRX1_73 (by decide) (ws_ne (by decide) (ws_ne (by decide) (ws_ne (by decide) (ws_ne (by decide) (ws_ne (by decide) (ws_ne (by decide) w_5)))))) rfl ?_
              refine r_aload_n C dX1_deriveKey_142 rfl ?_
              refine r_get C dX1_deriveKey_143 fgRX1_15 (by decide) (ws_ne (by decide) (ws_ne (by decide) (ws_ne (by decide) (ws_ne (by decide) (ws_ne (by decide) (ws_ne (by decide) w_5)))))) rfl ?_
              refine r_callVv C (As := [.int (nI ln)]) (rest := []) dX1_deriveKey_146 (cX3_shorten9 (by decide) (by decide) (by decide) (ws_ne (by decide) ws_eq) ws_eq hf1 (by first | omega | (simp only [List.length_append, List.length_nil, List.length_cons, List.length_take, List.length_replicate, List.length_range, List.length_map, lof_len, pad_len, padd_len, md5_len, strm_len, strms_len, entOf_len, hif_len]; omega)) (by decide) (nI ln)) okX3_shorten mlRX1_123 imX3_shorten seX3_shorten ⟨by decide, by decide⟩ rfl rfl (by decide) (ws_ne (by decide) ws_eq) rfl rfl (Nat.le_of_ble_eq_true rfl) (by decide) (by decide) (fun w9 h9 => ?_)
              obtain rfl := h9
              refine r_eq rfl rfl ((ws_comm (by decide)).trans (congrArg (fun z => wset z 30 (ia 16 f1)) ws_same)) ?_
              rw [cutTo_n zs (show ln < 2 ^ 31 by omega)]
              exact r_return C T_ rfl dX1_deriveKey_149 (⟨rfl, _, _, _, _, _, _, _, by rw [show keyOf rv ln pm lo ow nb ys = zs.take ln by unfold keyOf; rw [if_pos (Int32.not_lt.mp c_95)]; rw [hz, show t = 50 by omega]], h_24, by rw [show keyOf rv ln pm lo ow nb ys = zs.take ln by unfold keyOf; rw [if_pos (Int32.not_lt.mp c_95)]; rw [hz, show t = 50 by omega]]; exact (hs_take hf1)⟩)
            · skip
              have c_103 : ¬ (50 ≤ t) := fun h9 => c_103 ((nI_leI (a := 50) (b := t) (by omega) (by omega)).mpr h9)
              refine r_aload_n C dX1_deriveKey_106 rfl ?_
              refine r_get C dX1_deriveKey_107 fgRX1_73 (by decide) (ws_ne (by decide) (ws_ne (by decide) (ws_ne (by decide) (ws_ne (by decide) (ws_ne (by decide) (ws_ne (by decide) w_5)))))) rfl ?_
              refine r_aload_n C dX1_deriveKey_110 rfl ?_
              refine r_get C dX1_deriveKey_111 fgRX1_15 (by decide) (ws_ne (by decide) (ws_ne (by decide) (ws_ne (by decide) (ws_ne (by decide) (ws_ne (by decide) (ws_ne (by decide) w_5)))))) rfl ?_
              refine r_callVv C (As := [.int (nI ln)]) (rest := []) dX1_deriveKey_114 (cX3_shorten9 (by decide) (by decide) (by decide) (ws_ne (by decide) ws_eq) ws_eq hf1 (by first | omega | (simp only [List.length_append, List.length_nil, List.length_cons, List.length_take, List.length_replicate, List.length_range, List.length_map, lof_len, pad_len, padd_len, md5_len, strm_len, strms_len, entOf_len, hif_len]; omega)) (by decide) (nI ln)) okX3_shorten mlRX1_123 imX3_shorten seX3_shorten ⟨by decide, by decide⟩ rfl rfl (by decide) (ws_ne (by decide) ws_eq) rfl rfl (Nat.le_of_ble_eq_true rfl) (by decide) (by decide) (fun w9 h9 => ?_)
              obtain rfl := h9
              refine r_eq rfl rfl ((ws_comm (by decide)).trans (congrArg (fun z => wset z 30 (ia 16 f1)) ws_same)) ?_
              rw [cutTo_n zs (show ln < 2 ^ 31 by omega)]
              refine r_aload_n C dX1_deriveKey_117 rfl ?_
              refine r_get C dX1_deriveKey_118 fgRX1_52 (by decide) (ws_ne (by decide) (ws_ne (by decide) (ws_ne (by decide) (ws_ne (by decide) (ws_ne (by decide) (ws_ne (by decide) w_5)))))) rfl ?_
              refine r_aload_n C dX1_deriveKey_121 rfl ?_
              refine r_get C dX1_deriveKey_122 fgRX1_73 (by decide) (ws_ne (by decide) (ws_ne (by decide) (ws_ne (by decide) (ws_ne (by decide) (ws_ne (by decide) (ws_ne (by decide) w_5)))))) rfl ?_
              refine r_aload_n C dX1_deriveKey_125 rfl ?_
              refine r_get C dX1_deriveKey_126 fgRX1_73 (by decide) (ws_ne (by decide) (ws_ne (by decide) (ws_ne (by decide) (ws_ne (by decide) (ws_ne (by decide) (ws_ne (by decide) w_5)))))) rfl ?_
              refine r_callVv C (As := [.ref 29, .ref 29]) (rest := []) dX1_deriveKey_129 (cX2_hash9s (by decide) (by decide) (by decide) (by decide) (by decide) (by decide) (by decide) (by decide) (by decide) (by decide) (ws_ne (by decide) (ws_ne (by decide) (ws_ne (by decide) ws_eq))) (ws_ne (by decide) (ws_ne (by decide) ws_eq)) (ws_ne (by decide) ws_eq) ws_eq (hs_take hf1) (by first | omega | (simp only [List.length_append, List.length_nil, List.length_cons, List.length_take, List.length_replicate, List.length_range, List.length_map, lof_len, pad_len, padd_len, md5_len, strm_len, strms_len, entOf_len, hif_len]; omega)) (by decide) (by decide)) okX2_hash mlRX1_120 imX2_hash seX2_hash ⟨by decide, by decide⟩ rfl rfl (by decide) (ws_ne (by decide) (ws_ne (by decide) (ws_ne (by decide) ws_eq))) rfl rfl (Nat.le_of_ble_eq_true rfl) (by decide) (by decide) (fun w9 h9 => ?_)
              obtain ⟨t_32, t_33, t_34, t_35, fw_36, f_37, rfl, h_38⟩ := h9
              refine r_eq rfl rfl ((((congrArg (fun z => wset (wset (wset (z) 19 (ia 16 fw_36)) 29 (ob 3 [.ref 30, .int (nI ((md5 (zs.take ln)).length))])) 30 (ia 16 f_37)) ((ws_comm (by decide)).trans (congrArg (fun z => wset z 30 (ia 16 f1)) ((ws_comm (by decide)).trans (congrArg (fun z => wset z 29 (ob 3 [.ref 30, .int (nI ((zs.take ln).length))])) ((ws_comm (by decide)).trans (congrArg (fun z => wset z 19 (ia 16 fv)) ws_same))))))).trans (congrArg (fun z => wset (wset (z) 29 (ob 3 [.ref 30, .int (nI ((md5 (zs.take ln)).length))])) 30 (ia 16 f_37)) ((ws_comm (by decide)).trans (congrArg (fun z => wset z 30 (ia 16 f1)) ((ws_comm (by decide)).trans (congrArg (fun z => wset z 29 (ob 3 [.ref 30, .int (nI ((zs.take ln).length))])) ws_same)))))).trans (congrArg (fun z => wset (z) 30 (ia 16 f_37)) ((ws_comm (by decide)).trans (congrArg (fun z => wset z 30 (ia 16 f1)) ws_same)))).trans ws_same) ?_
              refine r_iinc C dX1_deriveKey_132 (v := nI (t + 1)) (L' := [some (.ref 5), some (.ref a), some (.int (nI (t + 1)))]) rfl (nI_add t 1) (by decide) rfl ?_
              refine r_goto C 100 dX1_deriveKey_135 (by decide) ?_
              exact ih_100 (t + 1) _ _ t_32 t_33 t_34 t_35 _ (by omega) (by omega) (by rw [again, ← hz]) h_38
        exact loop_100 _ 0 _ _ t_25 t_26 t_27 t_28 _ (Nat.lt_succ_self _) (by omega) rfl h_31
    · skip
      refine r_aload_n C dX1_deriveKey_64 rfl ?_
      refine r_get C dX1_deriveKey_65 fgRX1_70 (by decide) (ws_ne (by decide) (ws_ne (by decide) w_5)) rfl ?_
      refine r_sipush C dX1_deriveKey_68 (v := 255) (by decide) ?_
      refine r_iconst C dX1_deriveKey_71 (v := 4) (by decide) ?_
      refine r_callVv C (As := [.int 255, .int 4]) (rest := []) dX1_deriveKey_72 (cX3_addTimes9 (by decide) (by decide) (by decide) (ws_ne (by decide) ws_eq) ws_eq h_8 (by first | omega | (simp only [List.length_append, List.length_nil, List.length_cons, List.length_take, List.length_replicate, List.length_range, List.length_map, lof_len, pad_len, padd_len, md5_len, strm_len, strms_len, entOf_len, hif_len]; omega)) (by decide) (y := 255) (t := 4) (by decide) (by first | omega | (simp only [List.length_append, List.length_nil, List.length_cons, List.length_take, List.length_replicate, List.length_range, List.length_map, lof_len, pad_len, padd_len, md5_len, strm_len, strms_len, entOf_len, hif_len]; omega))) okX3_addTimes mlRX1_145 imX3_addTimes seX3_addTimes ⟨by decide, by decide⟩ rfl rfl (by decide) (ws_ne (by decide) ws_eq) rfl rfl (Nat.le_of_ble_eq_true rfl) (by decide) (by decide) (fun w9 h9 => ?_)
      obtain ⟨f_39, rfl, h_40⟩ := h9
      refine r_eq rfl rfl ((congrArg (fun z => wset (z) 27 (ob 3 [.ref 28, .int (nI ((((((padd ys) ++ ow) ++ lof pm 4) ++ nb) ++ List.replicate 4 255).length))])) ws_same).trans ((ws_comm (by decide)).trans (congrArg (fun z => wset z 28 (ia 136 f_39)) ws_same))) ?_
      have hkm : ((((padd ys) ++ ow) ++ lof pm 4) ++ nb) ++ List.replicate 4 255 = keyMsg rv pm lo ow nb ys := (keyMsg_yes ⟨c_54, c_61⟩).symm
      have h_41 := h_40
      rw [hkm] at h_41
      rw [hkm]
      have hml := keyMsg_le rv pm lo ys how k_nb
      refine r_aload_n C dX1_deriveKey_75 rfl ?_
      refine r_get C dX1_deriveKey_76 fgRX1_52 (by decide) (ws_ne (by decide) (ws_ne (by decide) w_5)) rfl ?_
      refine r_aload_n C dX1_deriveKey_79 rfl ?_
      refine r_get C dX1_deriveKey_80 fgRX1_70 (by decide) (ws_ne (by decide) (ws_ne (by decide) w_5)) rfl ?_
      refine r_aload_n C dX1_deriveKey_83 rfl ?_
      refine r_get C dX1_deriveKey_84 fgRX1_73 (by decide) (ws_ne (by decide) (ws_ne (by decide) w_5)) rfl ?_
      refine r_callVv C (As := [.ref 27, .ref 29]) (rest := []) dX1_deriveKey_87 (cX2_hash9 (by decide) (by decide) (by decide) (by decide) (by decide) (by decide) (by decide) (by decide) (by decide) (by decide) (by decide) (by decide) (by decide) (by decide) (by decide) (by decide) (by decide) (by decide) (by decide) (by decide) (by decide) (ws_ne (by decide) (ws_ne (by decide) w_18)) (ws_ne (by decide) (ws_ne (by decide) w_19)) (ws_ne (by decide) ws_eq) ws_eq h_41 (by first | omega | (simp only [List.length_append, List.length_nil, List.length_cons, List.length_take, List.length_replicate, List.length_range, List.length_map, lof_len, pad_len, padd_len, md5_len, strm_len, strms_len, entOf_len, hif_len]; omega)) (by decide) (ws_ne (by decide) (ws_ne (by decide) w_29)) (ws_ne (by decide) (ws_ne (by decide) w_30)) h_tl (by first | omega | (simp only [List.length_append, List.length_nil, List.length_cons, List.length_take, List.length_replicate, List.length_range, List.length_map, lof_len, pad_len, padd_len, md5_len, strm_len, strms_len, entOf_len, hif_len]; omega)) (by decide) (by decide)) okX2_hash mlRX1_120 imX2_hash seX2_hash ⟨by decide, by decide⟩ rfl rfl (by decide) (ws_ne (by decide) (ws_ne (by decide) w_18)) rfl rfl (Nat.le_of_ble_eq_true rfl) (by decide) (by decide) (fun w9 h9 => ?_)
      obtain ⟨t_42, t_43, t_44, t_45, fw_46, f_47, rfl, h_48⟩ := h9
      refine r_aload_n C dX1_deriveKey_90 rfl ?_
      refine r_get C dX1_deriveKey_91 fgRX1_9 (by decide) (ws_ne (by decide) (ws_ne (by decide) (ws_ne (by decide) (ws_ne (by decide) (ws_ne (by decide) (ws_ne (by decide) w_5)))))) rfl ?_
      refine r_iconst C dX1_deriveKey_94 (v := 3) (by decide) ?_
      refine r_icmp_lt C 138 dX1_deriveKey_95 (by decide) (fun c_95 => ?_) (fun c_95 => ?_)
      · skip
        refine r_aload_n C dX1_deriveKey_138 rfl ?_
        refine r_get C dX1_deriveKey_139 fgRX1_73 (by decide) (ws_ne (by decide) (ws_ne (by decide) (ws_ne (by decide) (ws_ne (by decide) (ws_ne (by decide) (ws_ne (by decide) w_5)))))) rfl ?_
        refine r_aload_n C dX1_deriveKey_142 rfl ?_
        refine r_get C dX1_deriveKey_143 fgRX1_15 (by decide) (ws_ne (by decide) (ws_ne (by decide) (ws_ne (by decide) (ws_ne (by decide) (ws_ne (by decide) (ws_ne (by decide) w_5)))))) rfl ?_
        refine r_callVv C (As := [.int (nI ln)]) (rest := []) dX1_deriveKey_146 (cX3_shorten9 (by decide) (by decide) (by decide) (ws_ne (by decide) ws_eq) ws_eq h_48 (by first | omega | (simp only [List.length_append, List.length_nil, List.length_cons, List.length_take, List.length_replicate, List.length_range, List.length_map, lof_len, pad_len, padd_len, md5_len, strm_len, strms_len, entOf_len, hif_len]; omega)) (by decide) (nI ln)) okX3_shorten mlRX1_123 imX3_shorten seX3_shorten ⟨by decide, by decide⟩ rfl rfl (by decide) (ws_ne (by decide) ws_eq) rfl rfl (Nat.le_of_ble_eq_true rfl) (by decide) (by decide) (fun w9 h9 => ?_)
        obtain rfl := h9
        refine r_eq rfl rfl ((ws_comm (by decide)).trans (congrArg (fun z => wset z 30 (ia 16 f_47)) ws_same)) ?_
        rw [cutTo_n (md5 (keyMsg rv pm lo ow nb ys)) (show ln < 2 ^ 31 by omega)]
        exact r_return C T_ rfl dX1_deriveKey_149 (⟨rfl, _, _, _, _, _, _, _, by rw [show keyOf rv ln pm lo ow nb ys = (md5 (keyMsg rv pm lo ow nb ys)).take ln by unfold keyOf; rw [if_neg (Int32.not_le.mpr c_95)]], h_41, by rw [show keyOf rv ln pm lo ow nb ys = (md5 (keyMsg rv pm lo ow nb ys)).take ln by unfold keyOf; rw [if_neg (Int32.not_le.mpr c_95)]]; exact (hs_take h_48)⟩)
      · skip
        refine r_iconst C dX1_deriveKey_98 (v := 0) (by decide) ?_
        refine r_istore_n C dX1_deriveKey_99 (L' := [some (.ref 5), some (.ref a), some (.int 0)]) (by decide) rfl ?_
        have loop_100 : ∀ (d9 : Nat) (t : Nat) (zs : List Nat) (f1 : Nat → Int32) (vA : Int32) (vB : Int32) (vC : Int32) (vD : Int32) (fv : Nat → Int32), 50 - t < d9 → t ≤ 50 → zs = again ln t (md5 (keyMsg rv pm lo ow nb ys)) → hs f1 zs → Az g mX1_deriveKey ct 0 0 100 [some (.ref 5), some (.ref a), some (.int (nI t))] [] (wset (wset (wset (wset (wset (wset w 27 (ob 3 [.ref 28, .int (nI ((keyMsg rv pm lo ow nb ys).length))])) 28 (ia 136 f_39)) 18 (ob 2 [.ref 19, .int vA, .int vB, .int vC, .int vD])) 19 (ia 16 fv)) 29 (ob 3 [.ref 30, .int (nI zs.length)])) 30 (ia 16 f1)) := by
          intro d9
          induction d9 with
          | zero => intro t zs f1 vA vB vC vD fv hd9; exact absurd hd9 (Nat.not_lt_zero _)
          | succ d9 ih_100 =>
            intro t zs f1 vA vB vC vD fv hd9 ht hz hf1
            have hzl : zs.length = 16 := by rw [hz]; exact again_len (md5_len _) t
            refine r_iload_n C dX1_deriveKey_100 rfl ?_
            refine r_bipush C dX1_deriveKey_101 (v := 50) (by decide) ?_
            refine r_icmp_ge C 138 dX1_deriveKey_103 (by decide) (fun c_103 => ?_) (fun c_103 => ?_)
            · skip
              have c_103 : 50 ≤ t := (nI_leI (a := 50) (b := t) (by omega) (by omega)).mp c_103
              refine r_aload_n C dX1_deriveKey_138 rfl ?_
              refine r_get C dX1_deriveKey_139 fgRX1_73 (by decide) (ws_ne (by decide) (ws_ne (by decide) (ws_ne (by decide) (ws_ne (by decide) (ws_ne (by decide) (ws_ne (by decide) w_5)))))) rfl ?_
              refine r_aload_n C dX1_deriveKey_142 rfl ?_
              refine r_get C dX1_deriveKey_143 fgRX1_15 (by decide) (ws_ne (by decide) (ws_ne (by decide) (ws_ne (by decide) (ws_ne (by decide) (ws_ne (by decide) (ws_ne (by decide) w_5)))))) rfl ?_
              refine r_callVv C (As := [.int (nI ln)]) (rest := []) dX1_deriveKey_146 (cX3_shorten9 (by decide) (by decide) (by decide) (ws_ne (by decide) ws_eq) ws_eq hf1 (by first | omega | (simp only [List.length_append, List.length_nil, List.length_cons, List.length_take, List.length_replicate, List.length_range, List.length_map, lof_len, pad_len, padd_len, md5_len, strm_len, strms_len, entOf_len, hif_len]; omega)) (by decide) (nI ln)) okX3_shorten mlRX1_123 imX3_shorten seX3_shorten ⟨by decide, by decide⟩ rfl rfl (by decide) (ws_ne (by decide) ws_eq) rfl rfl (Nat.le_of_ble_eq_true rfl) (by decide) (by decide) (fun w9 h9 => ?_)
              obtain rfl := h9
              refine r_eq rfl rfl ((ws_comm (by decide)).trans (congrArg (fun z => wset z 30 (ia 16 f1)) ws_same)) ?_
              rw [cutTo_n zs (show ln < 2 ^ 31 by omega)]
              exact r_return C T_ rfl dX1_deriveKey_149 (⟨rfl, _, _, _, _, _, _, _, by rw [show keyOf rv ln pm lo ow nb ys = zs.take ln by unfold keyOf; rw [if_pos (Int32.not_lt.mp c_95)]; rw [hz, show t = 50 by omega]], h_41, by rw [show keyOf rv ln pm lo ow nb ys = zs.take ln by unfold keyOf; rw [if_pos (Int32.not_lt.mp c_95)]; rw [hz, show t = 50 by omega]]; exact (hs_take hf1)⟩)
            · skip
              have c_103 : ¬ (50 ≤ t) := fun h9 => c_103 ((nI_leI (a := 50) (b := t) (by omega) (by omega)).mpr h9)
              refine r_aload_n C dX1_deriveKey_106 rfl ?_
              refine r_get C dX1_deriveKey_107 fgRX1_73 (by decide) (ws_ne (by decide) (ws_ne (by decide) (ws_ne (by decide) (ws_ne (by decide) (ws_ne (by decide) (ws_ne (by decide) w_5)))))) rfl ?_
              refine r_aload_n C dX1_deriveKey_110 rfl ?_
              refine r_get C dX1_deriveKey_111 fgRX1_15 (by decide) (ws_ne (by decide) (ws_ne (by decide) (ws_ne (by decide) (ws_ne (by decide) (ws_ne (by decide) (ws_ne (by decide) w_5)))))) rfl ?_
              refine r_callVv C (As := [.int (nI ln)]) (rest := []) dX1_deriveKey_114 (cX3_shorten9 (by decide) (by decide) (by decide) (ws_ne (by decide) ws_eq) ws_eq hf1 (by first | omega | (simp only [List.length_append, List.length_nil, List.length_cons, List.length_take, List.length_replicate, List.length_range, List.length_map, lof_len, pad_len, padd_len, md5_len, strm_len, strms_len, entOf_len, hif_len]; omega)) (by decide) (nI ln)) okX3_shorten mlRX1_123 imX3_shorten seX3_shorten ⟨by decide, by decide⟩ rfl rfl (by decide) (ws_ne (by decide) ws_eq) rfl rfl (Nat.le_of_ble_eq_true rfl) (by decide) (by decide) (fun w9 h9 => ?_)
              obtain rfl := h9
              refine r_eq rfl rfl ((ws_comm (by decide)).trans (congrArg (fun z => wset z 30 (ia 16 f1)) ws_same)) ?_
              rw [cutTo_n zs (show ln < 2 ^ 31 by omega)]
              refine r_aload_n C dX1_deriveKey_117 rfl ?_
              refine r_get C dX1_deriveKey_118 fgRX1_52 (by decide) (ws_ne (by decide) (ws_ne (by decide) (ws_ne (by decide) (ws_ne (by decide) (ws_ne (by decide) (ws_ne (by decide) w_5)))))) rfl ?_
              refine r_aload_n C dX1_deriveKey_121 rfl ?_
              refine r_get C dX1_deriveKey_122 fgRX1_73 (by decide) (ws_ne (by decide) (ws_ne (by decide) (ws_ne (by decide) (ws_ne (by decide) (ws_ne (by decide) (ws_ne (by decide) w_5)))))) rfl ?_
              refine r_aload_n C dX1_deriveKey_125 rfl ?_
              refine r_get C dX1_deriveKey_126 fgRX1_73 (by decide) (ws_ne (by decide) (ws_ne (by decide) (ws_ne (by decide) (ws_ne (by decide) (ws_ne (by decide) (ws_ne (by decide) w_5)))))) rfl ?_
              refine r_callVv C (As := [.ref 29, .ref 29]) (rest := []) dX1_deriveKey_129 (cX2_hash9s (by decide) (by decide) (by decide) (by decide) (by decide) (by decide) (by decide) (by decide) (by decide) (by decide) (ws_ne (by decide) (ws_ne (by decide) (ws_ne (by decide) ws_eq))) (ws_ne (by decide) (ws_ne (by decide) ws_eq)) (ws_ne (by decide) ws_eq) ws_eq (hs_take hf1) (by first | omega | (simp only [List.length_append, List.length_nil, List.length_cons, List.length_take, List.length_replicate, List.length_range, List.length_map, lof_len, pad_len, padd_len, md5_len, strm_len, strms_len, entOf_len, hif_len]; omega)) (by decide) (by decide)) okX2_hash mlRX1_120 imX2_hash seX2_hash ⟨by decide, by decide⟩ rfl rfl (by decide) (ws_ne (by decide) (ws_ne (by decide) (ws_ne (by decide) ws_eq))) rfl rfl (Nat.le_of_ble_eq_true rfl) (by decide) (by decide) (fun w9 h9 => ?_)
              obtain ⟨t_49, t_50, t_51, t_52, fw_53, f_54, rfl, h_55⟩ := h9
              refine r_eq rfl rfl ((((congrArg (fun z => wset (wset (wset (z) 19 (ia 16 fw_53)) 29 (ob 3 [.ref 30, .int (nI ((md5 (zs.take ln)).length))])) 30 (ia 16 f_54)) ((ws_comm (by decide)).trans (congrArg (fun z => wset z 30 (ia 16 f1)) ((ws_comm (by decide)).trans (congrArg (fun z => wset z 29 (ob 3 [.ref 30, .int (nI ((zs.take ln).length))])) ((ws_comm (by decide)).trans (congrArg (fun z => wset z 19 (ia 16 fv)) ws_same))))))).trans (congrArg (fun z => wset (wset (z) 29 (ob 3 [.ref 30, .int (nI ((md5 (zs.take ln)).length))])) 30 (ia 16 f_54)) ((ws_comm (by decide)).trans (congrArg (fun z => wset z 30 (ia 16 f1)) ((ws_comm (by decide)).trans (congrArg (fun z => wset z 29 (ob 3 [.ref 30, .int (nI ((zs.take ln).length))])) ws_same)))))).trans (congrArg (fun z => wset (z) 30 (ia 16 f_54)) ((ws_comm (by decide)).trans (congrArg (fun z => wset z 30 (ia 16 f1)) ws_same)))).trans ws_same) ?_
              refine r_iinc C dX1_deriveKey_132 (v := nI (t + 1)) (L' := [some (.ref 5), some (.ref a), some (.int (nI (t + 1)))]) rfl (nI_add t 1) (by decide) rfl ?_
              refine r_goto C 100 dX1_deriveKey_135 (by decide) ?_
              exact ih_100 (t + 1) _ _ t_49 t_50 t_51 t_52 _ (by omega) (by omega) (by rw [again, ← hz]) h_55
        exact loop_100 _ 0 _ _ t_42 t_43 t_44 t_45 _ (Nat.lt_succ_self _) (by omega) rfl h_48
set_option maxHeartbeats 4000000 in
set_option maxRecDepth 100000 in
theorem cX1_streamEntry9 {w : Wo} {rv lo pm : Int32} {ln : Nat} (w_5 : w 5 = ob 1 [.int rv, .int (nI ln), .int pm, .int lo, .ref 6, .ref 8, .ref 10, .ref 12, .ref 14, .ref 16, .ref 18, .ref 20, .ref 22, .ref 27, .ref 29, .ref 31, .ref 33]) {ftb : Nat → Int32} (w_20 : w 20 = ob 4 [.ref 21]) (w_21 : w 21 = ia 256 ftb) {f30 : Nat → Int32} {tl : List Nat} (w_29 : w 29 = ob 3 [.ref 30, .int (nI tl.length)]) (w_30 : w 30 = ia 16 f30) (h_tl : hs f30 tl) (k_tl : tl.length ≤ 16) (htl : 0 < tl.length) (hbt : byt tl) {a b n m : Nat} (hab : (a = 6 ∧ b = 7) ∨ (a = 33 ∧ b = 34) ∨ (a = 31 ∧ b = 32)) {f : Nat → Int32} {xs : List Nat} (w_a : w a = ob 3 [.ref b, .int (nI m)]) (w_b : w b = ia n f) (h_xs : hs f xs) (hm : m = xs.length) (k_xs : xs.length ≤ n) (hn : n ≤ 1048576) : Ctr mX1_streamEntry [.ref 5, .ref a] w (PV fun w' => ∃ ft' f', w' = wset (wset w 21 (ia 256 ft')) b (ia n f') ∧ hs f' (strms tl (turnsOf rv) xs)) := by
  refine Ctr_intro okX1_streamEntry rfl (Nat.le_of_ble_eq_true rfl) (L := [some (.ref 5), some (.ref a), none, none]) rfl (fun g ct C T_ => ?_)
  refine r_aload_n C dX1_streamEntry_0 rfl ?_
  refine r_get C dX1_streamEntry_1 fgRX1_9 (by decide) w_5 rfl ?_
  refine r_iconst C dX1_streamEntry_4 (v := 3) (by decide) ?_
  refine r_icmp_lt C 13 dX1_streamEntry_5 (by decide) (fun c_5 => ?_) (fun c_5 => ?_)
  · skip
    refine r_iconst C dX1_streamEntry_13 (v := 1) (by decide) ?_
    refine r_istore_n C dX1_streamEntry_14 (L' := [some (.ref 5), some (.ref a), some (.int 1), none]) (by decide) rfl ?_
    refine r_iconst C dX1_streamEntry_15 (v := 0) (by decide) ?_
    refine r_istore_n C dX1_streamEntry_16 (L' := [some (.ref 5), some (.ref a), some (.int 1), some (.int 0)]) (by decide) rfl ?_
    have loop_17 : ∀ (d9 : Nat) (i : Nat) (zs : List Nat) (f1 : Nat → Int32) (ft1 : Nat → Int32), 1 - i < d9 → i ≤ 1 → zs = strms tl i xs → hs f1 zs → Az g mX1_streamEntry ct 0 0 17 [some (.ref 5), some (.ref a), some (.int 1), some (.int (nI i))] [] (wset (wset w 21 (ia 256 ft1)) b (ia n f1)) := by
      intro d9
      induction d9 with
      | zero => intro i zs f1 ft1 hd9; exact absurd hd9 (Nat.not_lt_zero _)
      | succ d9 ih_17 =>
        intro i zs f1 ft1 hd9 hi hz hf1
        have hzl : zs.length = xs.length := by rw [hz]; exact strms_len _ _ _
        refine r_iload_n C dX1_streamEntry_17 rfl ?_
        refine r_iload_n C dX1_streamEntry_18 rfl ?_
        refine r_icmp_ge C 41 dX1_streamEntry_19 (by decide) (fun c_19 => ?_) (fun c_19 => ?_)
        · skip
          have c_19 : 1 ≤ i := (nI_leI (a := 1) (b := i) (by omega) (by omega)).mp c_19
          exact r_return C T_ rfl dX1_streamEntry_41 (⟨rfl, _, _, rfl, by rw [show strms tl (turnsOf rv) xs = zs by rw [hz]; unfold turnsOf; rw [if_neg (Int32.not_le.mpr c_5), show i = 1 by omega]]; exact hf1⟩)
        · skip
          have c_19 : ¬ (1 ≤ i) := fun h9 => c_19 ((nI_leI (a := 1) (b := i) (by omega) (by omega)).mpr h9)
          refine r_aload_n C dX1_streamEntry_22 rfl ?_
          refine r_get C dX1_streamEntry_23 fgRX1_59 (by decide) (ws_ne (by omega) (ws_ne (by decide) w_5)) rfl ?_
          refine r_aload_n C dX1_streamEntry_26 rfl ?_
          refine r_aload_n C dX1_streamEntry_27 rfl ?_
          refine r_get C dX1_streamEntry_28 fgRX1_73 (by decide) (ws_ne (by omega) (ws_ne (by decide) w_5)) rfl ?_
          refine r_iload_n C dX1_streamEntry_31 rfl ?_
          refine r_callVv C (As := [.ref a, .ref 29, .int (nI i)]) (rest := []) dX1_streamEntry_32 (cX4_stream9 (by decide) (by decide) (by decide) (by decide) (by unfold NW; omega) (by unfold NW; omega) (by decide) (by decide) (by decide) (by omega) (by omega) (by decide) (by decide) (by omega) (by omega) (by decide) (by omega) (by omega) (by omega) (by omega) (by omega) (ws_ne (by omega) (ws_ne (by decide) w_20)) (ws_ne (by omega) ws_eq) (ws_ne (by omega) (ws_ne (by decide) w_29)) (ws_ne (by omega) (ws_ne (by decide) w_30)) h_tl (by first | omega | (simp only [List.length_append, List.length_nil, List.length_cons, List.length_take, List.length_replicate, List.length_range, List.length_map, lof_len, pad_len, padd_len, md5_len, strm_len, strms_len, entOf_len, hif_len]; omega)) (by decide) (ch := i) (by omega) htl hbt (cnt (ws_ne (by omega) (ws_ne (by omega) w_a)) (by first | omega | (simp only [List.length_append, List.length_nil, List.length_cons, List.length_take, List.length_replicate, List.length_range, List.length_map, lof_len, pad_len, padd_len, md5_len, strm_len, strms_len, entOf_len, hif_len]; omega))) ws_eq hf1 (by first | omega | (simp only [List.length_append, List.length_nil, List.length_cons, List.length_take, List.length_replicate, List.length_range, List.length_map, lof_len, pad_len, padd_len, md5_len, strm_len, strms_len, entOf_len, hif_len]; omega)) (by omega)) okX4_stream mlRX1_148 imX4_stream seX4_stream ⟨by decide, by decide⟩ rfl rfl (by decide) (ws_ne (by omega) (ws_ne (by decide) w_20)) rfl rfl (Nat.le_of_ble_eq_true rfl) (by decide) (by decide) (fun w9 h9 => ?_)
          obtain ⟨ft_1, f_2, rfl, h_3⟩ := h9
          refine r_eq rfl rfl ((congrArg (fun z => wset (z) b (ia n f_2)) ((ws_comm (by omega)).trans (congrArg (fun z => wset z b (ia n f1)) ws_same))).trans ws_same) ?_
          refine r_iinc C dX1_streamEntry_35 (v := nI (i + 1)) (L' := [some (.ref 5), some (.ref a), some (.int 1), some (.int (nI (i + 1)))]) rfl (nI_add i 1) (by decide) rfl ?_
          refine r_goto C 17 dX1_streamEntry_38 (by decide) ?_
          exact ih_17 (i + 1) _ _ _ (by omega) (by omega) (by rw [hz]; rfl) h_3
    refine r_eq rfl rfl (ws_self w_21).symm ?_
    refine r_eq rfl rfl (ws_self (ws_ne (by omega) w_b)).symm ?_
    exact loop_17 _ 0 _ _ _ (Nat.lt_succ_self _) (by omega) rfl h_xs
  · skip
    refine r_bipush C dX1_streamEntry_8 (v := 20) (by decide) ?_
    refine r_goto C 14 dX1_streamEntry_10 (by decide) ?_
    refine r_istore_n C dX1_streamEntry_14 (L' := [some (.ref 5), some (.ref a), some (.int 20), none]) (by decide) rfl ?_
    refine r_iconst C dX1_streamEntry_15 (v := 0) (by decide) ?_
    refine r_istore_n C dX1_streamEntry_16 (L' := [some (.ref 5), some (.ref a), some (.int 20), some (.int 0)]) (by decide) rfl ?_
    have loop_17 : ∀ (d9 : Nat) (i : Nat) (zs : List Nat) (f1 : Nat → Int32) (ft1 : Nat → Int32), 20 - i < d9 → i ≤ 20 → zs = strms tl i xs → hs f1 zs → Az g mX1_streamEntry ct 0 0 17 [some (.ref 5), some (.ref a), some (.int 20), some (.int (nI i))] [] (wset (wset w 21 (ia 256 ft1)) b (ia n f1)) := by
      intro d9
      induction d9 with
      | zero => intro i zs f1 ft1 hd9; exact absurd hd9 (Nat.not_lt_zero _)
      | succ d9 ih_17 =>
        intro i zs f1 ft1 hd9 hi hz hf1
        have hzl : zs.length = xs.length := by rw [hz]; exact strms_len _ _ _
        refine r_iload_n C dX1_streamEntry_17 rfl ?_
        refine r_iload_n C dX1_streamEntry_18 rfl ?_
        refine r_icmp_ge C 41 dX1_streamEntry_19 (by decide) (fun c_19 => ?_) (fun c_19 => ?_)
        · skip
          have c_19 : 20 ≤ i := (nI_leI (a := 20) (b := i) (by omega) (by omega)).mp c_19
          exact r_return C T_ rfl dX1_streamEntry_41 (⟨rfl, _, _, rfl, by rw [show strms tl (turnsOf rv) xs = zs by rw [hz]; unfold turnsOf; rw [if_pos (Int32.not_lt.mp c_5), show i = 20 by omega]]; exact hf1⟩)
        · skip
          have c_19 : ¬ (20 ≤ i) := fun h9 => c_19 ((nI_leI (a := 20) (b := i) (by omega) (by omega)).mpr h9)
          refine r_aload_n C dX1_streamEntry_22 rfl ?_
          refine r_get C dX1_streamEntry_23 fgRX1_59 (by decide) (ws_ne (by omega) (ws_ne (by decide) w_5)) rfl ?_
          refine r_aload_n C dX1_streamEntry_26 rfl ?_
          refine r_aload_n C dX1_streamEntry_27 rfl ?_
          refine r_get C dX1_streamEntry_28 fgRX1_73 (by decide) (ws_ne (by omega) (ws_ne (by decide) w_5)) rfl ?_
          refine r_iload_n C dX1_streamEntry_31 rfl ?_
          refine r_callVv C (As := [.ref a, .ref 29, .int (nI i)]) (rest := []) dX1_streamEntry_32 (cX4_stream9 (by decide) (by decide) (by decide) (by decide) (by unfold NW; omega) (by unfold NW; omega) (by decide) (by decide) (by decide) (by omega) (by omega) (by decide) (by decide) (by omega) (by omega) (by decide) (by omega) (by omega) (by omega) (by omega) (by omega) (ws_ne (by omega) (ws_ne (by decide) w_20)) (ws_ne (by omega) ws_eq) (ws_ne (by omega) (ws_ne (by decide) w_29)) (ws_ne (by omega) (ws_ne (by decide) w_30)) h_tl (by first | omega | (simp only [List.length_append, List.length_nil, List.length_cons, List.length_take, List.length_replicate, List.length_range, List.length_map, lof_len, pad_len, padd_len, md5_len, strm_len, strms_len, entOf_len, hif_len]; omega)) (by decide) (ch := i) (by omega) htl hbt (cnt (ws_ne (by omega) (ws_ne (by omega) w_a)) (by first | omega | (simp only [List.length_append, List.length_nil, List.length_cons, List.length_take, List.length_replicate, List.length_range, List.length_map, lof_len, pad_len, padd_len, md5_len, strm_len, strms_len, entOf_len, hif_len]; omega))) ws_eq hf1 (by first | omega | (simp only [List.length_append, List.length_nil, List.length_cons, List.length_take, List.length_replicate, List.length_range, List.length_map, lof_len, pad_len, padd_len, md5_len, strm_len, strms_len, entOf_len, hif_len]; omega)) (by omega)) okX4_stream mlRX1_148 imX4_stream seX4_stream ⟨by decide, by decide⟩ rfl rfl (by decide) (ws_ne (by omega) (ws_ne (by decide) w_20)) rfl rfl (Nat.le_of_ble_eq_true rfl) (by decide) (by decide) (fun w9 h9 => ?_)
          obtain ⟨ft_4, f_5, rfl, h_6⟩ := h9
          refine r_eq rfl rfl ((congrArg (fun z => wset (z) b (ia n f_5)) ((ws_comm (by omega)).trans (congrArg (fun z => wset z b (ia n f1)) ws_same))).trans ws_same) ?_
          refine r_iinc C dX1_streamEntry_35 (v := nI (i + 1)) (L' := [some (.ref 5), some (.ref a), some (.int 20), some (.int (nI (i + 1)))]) rfl (nI_add i 1) (by decide) rfl ?_
          refine r_goto C 17 dX1_streamEntry_38 (by decide) ?_
          exact ih_17 (i + 1) _ _ _ (by omega) (by omega) (by rw [hz]; rfl) h_6
    refine r_eq rfl rfl (ws_self w_21).symm ?_
    refine r_eq rfl rfl (ws_self (ws_ne (by omega) w_b)).symm ?_
    exact loop_17 _ 0 _ _ _ (Nat.lt_succ_self _) (by omega) rfl h_xs
