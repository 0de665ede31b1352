set_option maxHeartbeats 4000000 in
set_option maxRecDepth 100000 in
theorem mX6_cut9 {w : Wo} {fa : Int32} {xs rs : List Nat} {rv : Int32} {ln : Nat} {pm lo : Int32} {ow us nb op up kn : List Nat} (mw : MW fa (xs, rs, rv, ln, pm, lo, ow, us, nb, op, up, kn) w) (ps : PSok (xs, rs, rv, ln, pm, lo, ow, us, nb, op, up, kn)) {p1 : Int32} : Ctr mX6_cut [.ref 35, .int p1] w (PI fun r w' => MW (cutO xs p1).1 ((cutO xs p1).2.2, rs, rv, ln, pm, lo, ow, us, nb, op, up, kn) w' ∧ frm w w' ∧ r = (cutO xs p1).2.1) := by
  refine Ctr_intro okX6_cut rfl (Nat.le_of_ble_eq_true rfl) (L := [some (.ref 35), some (.int p1), none]) rfl (fun g ct C T_ => ?_)
  refine MW_open mw (fun fx fr9 fo fus fn fop fup fk fh hl fm fd vA vB vC vD fsn ftn fpd ft fe fp fot K B SW BK ik w_35 w_36 h_xs k_xs w_37 h_rs k_rs w_38 h_ow k_ow w_39 h_us k_us w_40 h_nb k_nb w_41 h_op k_op w_42 h_up k_up w_43 h_kn k_kn w_50 h_hl k_hl w_44 w_45 w_46 w_47 hsn w_48 htn w_49 hpd w_51 w_52 w_53 w_54 w_55 w_56 w_57 w_58 hik => ?_)
  obtain ⟨bx, br, bo, bu, bn, bp, bq, bk9, lo9, lu9, hkn, hrv, hln, hlo⟩ := ps
  refine r_aload_n C dX6_cut_0 rfl ?_
  refine r_iload_n C dX6_cut_1 rfl ?_
  refine r_if_ge C 9 dX6_cut_2 (by decide) (fun c_2 => ?_) (fun c_2 => ?_)
  · skip
    refine r_iconst C dX6_cut_9 (v := 0) (by decide) ?_
    refine r_callVi C (As := [.int 0]) (rest := []) dX6_cut_10 (cX6_refused9 w_35 (p1 := 0)) okX6_refused mlRX6_159 imX6_refused seX6_refused ⟨by decide, by decide⟩ rfl rfl (Nat.le_of_ble_eq_true rfl) w_35 rfl rfl (Nat.le_of_ble_eq_true rfl) (by decide) (by decide) (fun r_1 w9 h9 => ?_)
    obtain ⟨rfl, er_⟩ := h9
    have er_ : r_1 = 0 := er_.trans (if_pos (by decide))
    subst er_
    refine r_if_eq C 18 dX6_cut_13 (by decide) (fun c_13 => ?_) (fun c_13 => ?_)
    · skip
      obtain ⟨j, hj, rfl⟩ := nI_of (Int32.not_lt.mpr c_2)
      refine r_aload_n C dX6_cut_18 rfl ?_
      refine r_get C dX6_cut_19 fgRX6_156 (Nat.le_of_ble_eq_true rfl) ws_eq rfl ?_
      refine r_iload_n C dX6_cut_22 rfl ?_
      refine r_icmp_le C 35 dX6_cut_23 (by decide) (fun c_23 => ?_) (fun c_23 => ?_)
      · skip
        have c_23 : xs.length ≤ j := (nI_leI (a := xs.length) (b := j) (by omega) (by omega)).mp c_23
        refine r_iconst C dX6_cut_35 (v := 0) (by decide) ?_
        refine r_istore_n C dX6_cut_36 (L' := [some (.ref 35), some (.int (nI j)), some (.int 0)]) (by decide) rfl ?_
        refine r_aload_n C dX6_cut_37 rfl ?_
        refine r_aload_n C dX6_cut_38 rfl ?_
        refine r_get C dX6_cut_39 fgRX6_156 (Nat.le_of_ble_eq_true rfl) ws_eq rfl ?_
        refine r_iload_n C dX6_cut_42 rfl ?_
        refine r_isub C dX6_cut_43 ?_
        refine r_top (y := nI (xs.length - 0)) (pk_sub (a := xs.length) (b := 0) (by omega)) ?_
        refine r_put C dX6_cut_44 fpRX6_156 (Nat.le_of_ble_eq_true rfl) ws_eq rfl rfl (Nat.le_of_ble_eq_true rfl) (fs' := [.int 0, .int (nI (xs.length - 0)), .ref 36, .int (nI rs.length), .ref 37, .int rv, .int (nI ln), .int pm, .int lo, .ref 38, .ref 39, .int (nI nb.length), .ref 40, .int (nI op.length), .ref 41, .int (nI up.length), .ref 42, .int ik, .ref 43, .int (nI (([] : List Nat).length)), .ref 44, .ref 45, .ref 46, .ref 47, .ref 48, .ref 49, .int (nI hl.length), .ref 50, .ref 51, .ref 52, .ref 53, .ref 54, .ref 55, .ref 56, .ref 57, .ref 58]) rfl ?_
        refine r_eq rfl rfl ws_same ?_
        refine r_eq rfl rfl (show _ = _ from by rw [show nI (xs.length - 0) = nI (xs.take j).length from congrArg nI (by rw [List.length_take]; omega)]) ?_
        refine r_iload_n C dX6_cut_47 rfl ?_
        exact r_ireturn C T_ rfl rfl dX6_cut_48 (⟨_, rfl, by rw [show cutO xs (nI j) = (0, nI (xs.length - (xs.take j).length), xs.take j) by unfold cutO; rw [if_neg (nI_pos hj), cutTo_n _ hj]]; exact MW_mk ws_eq (ws_ne (Nat.ne_of_beq_eq_false rfl) w_36) (hs_take h_xs) (by first | omega | (simp only [List.length_append, List.length_nil, List.length_cons, List.length_take, List.length_replicate, List.length_range, List.length_map, lof_len, pad_len, padd_len, md5_len, strm_len, strms_len, entOf_len, hif_len] <;> omega)) (ws_ne (Nat.ne_of_beq_eq_false rfl) w_37) h_rs (by first | omega | (simp only [List.length_append, List.length_nil, List.length_cons, List.length_take, List.length_replicate, List.length_range, List.length_map, lof_len, pad_len, padd_len, md5_len, strm_len, strms_len, entOf_len, hif_len] <;> omega)) (ws_ne (Nat.ne_of_beq_eq_false rfl) w_38) h_ow (by first | omega | (simp only [List.length_append, List.length_nil, List.length_cons, List.length_take, List.length_replicate, List.length_range, List.length_map, lof_len, pad_len, padd_len, md5_len, strm_len, strms_len, entOf_len, hif_len] <;> omega)) (ws_ne (Nat.ne_of_beq_eq_false rfl) w_39) h_us (by first | omega | (simp only [List.length_append, List.length_nil, List.length_cons, List.length_take, List.length_replicate, List.length_range, List.length_map, lof_len, pad_len, padd_len, md5_len, strm_len, strms_len, entOf_len, hif_len] <;> omega)) (ws_ne (Nat.ne_of_beq_eq_false rfl) w_40) h_nb (by first | omega | (simp only [List.length_append, List.length_nil, List.length_cons, List.length_take, List.length_replicate, List.length_range, List.length_map, lof_len, pad_len, padd_len, md5_len, strm_len, strms_len, entOf_len, hif_len] <;> omega)) (ws_ne (Nat.ne_of_beq_eq_false rfl) w_41) h_op (by first | omega | (simp only [List.length_append, List.length_nil, List.length_cons, List.length_take, List.length_replicate, List.length_range, List.length_map, lof_len, pad_len, padd_len, md5_len, strm_len, strms_len, entOf_len, hif_len] <;> omega)) (ws_ne (Nat.ne_of_beq_eq_false rfl) w_42) h_up (by first | omega | (simp only [List.length_append, List.length_nil, List.length_cons, List.length_take, List.length_replicate, List.length_range, List.length_map, lof_len, pad_len, padd_len, md5_len, strm_len, strms_len, entOf_len, hif_len] <;> omega)) (ws_ne (Nat.ne_of_beq_eq_false rfl) w_43) h_kn (by first | omega | (simp only [List.length_append, List.length_nil, List.length_cons, List.length_take, List.length_replicate, List.length_range, List.length_map, lof_len, pad_len, padd_len, md5_len, strm_len, strms_len, entOf_len, hif_len] <;> omega)) (ws_ne (Nat.ne_of_beq_eq_false rfl) w_50) h_hl (by first | omega | (simp only [List.length_append, List.length_nil, List.length_cons, List.length_take, List.length_replicate, List.length_range, List.length_map, lof_len, pad_len, padd_len, md5_len, strm_len, strms_len, entOf_len, hif_len] <;> omega)) (ws_ne (Nat.ne_of_beq_eq_false rfl) w_44) (ws_ne (Nat.ne_of_beq_eq_false rfl) w_45) (ws_ne (Nat.ne_of_beq_eq_false rfl) w_46) (ws_ne (Nat.ne_of_beq_eq_false rfl) w_47) hsn (ws_ne (Nat.ne_of_beq_eq_false rfl) w_48) htn (ws_ne (Nat.ne_of_beq_eq_false rfl) w_49) hpd (ws_ne (Nat.ne_of_beq_eq_false rfl) w_51) (ws_ne (Nat.ne_of_beq_eq_false rfl) w_52) (ws_ne (Nat.ne_of_beq_eq_false rfl) w_53) (ws_ne (Nat.ne_of_beq_eq_false rfl) w_54) (ws_ne (Nat.ne_of_beq_eq_false rfl) w_55) (ws_ne (Nat.ne_of_beq_eq_false rfl) w_56) (ws_ne (Nat.ne_of_beq_eq_false rfl) w_57) (ws_ne (Nat.ne_of_beq_eq_false rfl) w_58) hik, (frm_set (Nat.le_of_ble_eq_true rfl) (Nat.le_of_ble_eq_true rfl) (frm_rf _)), by rw [show cutO xs (nI j) = (0, nI (xs.length - (xs.take j).length), xs.take j) by unfold cutO; rw [if_neg (nI_pos hj), cutTo_n _ hj], List.length_take]; first | rfl | (congr 1; omega) | (rw [show xs.length - min j xs.length = 0 by omega]; rfl)⟩)
      · skip
        have c_23 : ¬ (xs.length ≤ j) := fun h9 => c_23 ((nI_leI (a := xs.length) (b := j) (by omega) (by omega)).mpr h9)
        refine r_aload_n C dX6_cut_26 rfl ?_
        refine r_get C dX6_cut_27 fgRX6_156 (Nat.le_of_ble_eq_true rfl) ws_eq rfl ?_
        refine r_iload_n C dX6_cut_30 rfl ?_
        refine r_isub C dX6_cut_31 ?_
        refine r_top (y := nI (xs.length - j)) (pk_sub (a := xs.length) (b := j) (by omega)) ?_
        refine r_goto C 36 dX6_cut_32 (by decide) ?_
        refine r_istore_n C dX6_cut_36 (L' := [some (.ref 35), some (.int (nI j)), some (.int (nI (xs.length - j)))]) (by decide) rfl ?_
        refine r_aload_n C dX6_cut_37 rfl ?_
        refine r_aload_n C dX6_cut_38 rfl ?_
        refine r_get C dX6_cut_39 fgRX6_156 (Nat.le_of_ble_eq_true rfl) ws_eq rfl ?_
        refine r_iload_n C dX6_cut_42 rfl ?_
        refine r_isub C dX6_cut_43 ?_
        refine r_top (y := nI (xs.length - (xs.length - j))) (pk_sub (a := xs.length) (b := xs.length - j) (by omega)) ?_
        refine r_put C dX6_cut_44 fpRX6_156 (Nat.le_of_ble_eq_true rfl) ws_eq rfl rfl (Nat.le_of_ble_eq_true rfl) (fs' := [.int 0, .int (nI (xs.length - (xs.length - j))), .ref 36, .int (nI rs.length), .ref 37, .int rv, .int (nI ln), .int pm, .int lo, .ref 38, .ref 39, .int (nI nb.length), .ref 40, .int (nI op.length), .ref 41, .int (nI up.length), .ref 42, .int ik, .ref 43, .int (nI (([] : List Nat).length)), .ref 44, .ref 45, .ref 46, .ref 47, .ref 48, .ref 49, .int (nI hl.length), .ref 50, .ref 51, .ref 52, .ref 53, .ref 54, .ref 55, .ref 56, .ref 57, .ref 58]) rfl ?_
        refine r_eq rfl rfl ws_same ?_
        refine r_eq rfl rfl (show _ = _ from by rw [show nI (xs.length - (xs.length - j)) = nI (xs.take j).length from congrArg nI (by rw [List.length_take]; omega)]) ?_
        refine r_iload_n C dX6_cut_47 rfl ?_
        exact r_ireturn C T_ rfl rfl dX6_cut_48 (⟨_, rfl, by rw [show cutO xs (nI j) = (0, nI (xs.length - (xs.take j).length), xs.take j) by unfold cutO; rw [if_neg (nI_pos hj), cutTo_n _ hj]]; exact MW_mk ws_eq (ws_ne (Nat.ne_of_beq_eq_false rfl) w_36) (hs_take h_xs) (by first | omega | (simp only [List.length_append, List.length_nil, List.length_cons, List.length_take, List.length_replicate, List.length_range, List.length_map, lof_len, pad_len, padd_len, md5_len, strm_len, strms_len, entOf_len, hif_len] <;> omega)) (ws_ne (Nat.ne_of_beq_eq_false rfl) w_37) h_rs (by first | omega | (simp only [List.length_append, List.length_nil, List.length_cons, List.length_take, List.length_replicate, List.length_range, List.length_map, lof_len, pad_len, padd_len, md5_len, strm_len, strms_len, entOf_len, hif_len] <;> omega)) (ws_ne (Nat.ne_of_beq_eq_false rfl) w_38) h_ow (by first | omega | (simp only [List.length_append, List.length_nil, List.length_cons, List.length_take, List.length_replicate, List.length_range, List.length_map, lof_len, pad_len, padd_len, md5_len, strm_len, strms_len, entOf_len, hif_len] <;> omega)) (ws_ne (Nat.ne_of_beq_eq_false rfl) w_39) h_us (by first | omega | (simp only [List.length_append, List.length_nil, List.length_cons, List.length_take, List.length_replicate, List.length_range, List.length_map, lof_len, pad_len, padd_len, md5_len, strm_len, strms_len, entOf_len, hif_len] <;> omega)) (ws_ne (Nat.ne_of_beq_eq_false rfl) w_40) h_nb (by first | omega | (simp only [List.length_append, List.length_nil, List.length_cons, List.length_take, List.length_replicate, List.length_range, List.length_map, lof_len, pad_len, padd_len, md5_len, strm_len, strms_len, entOf_len, hif_len] <;> omega)) (ws_ne (Nat.ne_of_beq_eq_false rfl) w_41) h_op (by first | omega | (simp only [List.length_append, List.length_nil, List.length_cons, List.length_take, List.length_replicate, List.length_range, List.length_map, lof_len, pad_len, padd_len, md5_len, strm_len, strms_len, entOf_len, hif_len] <;> omega)) (ws_ne (Nat.ne_of_beq_eq_false rfl) w_42) h_up (by first | omega | (simp only [List.length_append, List.length_nil, List.length_cons, List.length_take, List.length_replicate, List.length_range, List.length_map, lof_len, pad_len, padd_len, md5_len, strm_len, strms_len, entOf_len, hif_len] <;> omega)) (ws_ne (Nat.ne_of_beq_eq_false rfl) w_43) h_kn (by first | omega | (simp only [List.length_append, List.length_nil, List.length_cons, List.length_take, List.length_replicate, List.length_range, List.length_map, lof_len, pad_len, padd_len, md5_len, strm_len, strms_len, entOf_len, hif_len] <;> omega)) (ws_ne (Nat.ne_of_beq_eq_false rfl) w_50) h_hl (by first | omega | (simp only [List.length_append, List.length_nil, List.length_cons, List.length_take, List.length_replicate, List.length_range, List.length_map, lof_len, pad_len, padd_len, md5_len, strm_len, strms_len, entOf_len, hif_len] <;> omega)) (ws_ne (Nat.ne_of_beq_eq_false rfl) w_44) (ws_ne (Nat.ne_of_beq_eq_false rfl) w_45) (ws_ne (Nat.ne_of_beq_eq_false rfl) w_46) (ws_ne (Nat.ne_of_beq_eq_false rfl) w_47) hsn (ws_ne (Nat.ne_of_beq_eq_false rfl) w_48) htn (ws_ne (Nat.ne_of_beq_eq_false rfl) w_49) hpd (ws_ne (Nat.ne_of_beq_eq_false rfl) w_51) (ws_ne (Nat.ne_of_beq_eq_false rfl) w_52) (ws_ne (Nat.ne_of_beq_eq_false rfl) w_53) (ws_ne (Nat.ne_of_beq_eq_false rfl) w_54) (ws_ne (Nat.ne_of_beq_eq_false rfl) w_55) (ws_ne (Nat.ne_of_beq_eq_false rfl) w_56) (ws_ne (Nat.ne_of_beq_eq_false rfl) w_57) (ws_ne (Nat.ne_of_beq_eq_false rfl) w_58) hik, (frm_set (Nat.le_of_ble_eq_true rfl) (Nat.le_of_ble_eq_true rfl) (frm_rf _)), by rw [show cutO xs (nI j) = (0, nI (xs.length - (xs.take j).length), xs.take j) by unfold cutO; rw [if_neg (nI_pos hj), cutTo_n _ hj], List.length_take]; first | rfl | (congr 1; omega) | (rw [show xs.length - min j xs.length = 0 by omega]; rfl)⟩)
    · skip
      exact absurd c_13 (by decide)
  · skip
    refine r_iconst C dX6_cut_5 (v := 1) (by decide) ?_
    refine r_goto C 10 dX6_cut_6 (by decide) ?_
    refine r_callVi C (As := [.int 1]) (rest := []) dX6_cut_10 (cX6_refused9 w_35 (p1 := 1)) okX6_refused mlRX6_159 imX6_refused seX6_refused ⟨by decide, by decide⟩ rfl rfl (Nat.le_of_ble_eq_true rfl) w_35 rfl rfl (Nat.le_of_ble_eq_true rfl) (by decide) (by decide) (fun r_2 w9 h9 => ?_)
    obtain ⟨rfl, er_⟩ := h9
    have er_ : r_2 = 1 := er_.trans (if_neg (by decide))
    subst er_
    refine r_if_eq C 18 dX6_cut_13 (by decide) (fun c_13 => ?_) (fun c_13 => ?_)
    · skip
      exact absurd c_13 (by decide)
    · skip
      refine r_iconst C dX6_cut_16 (v := 0) (by decide) ?_
      exact r_ireturn C T_ rfl rfl dX6_cut_17 (⟨_, rfl, by rw [show cutO xs p1 = (1, 0, xs) by unfold cutO; rw [if_pos (Int32.not_le.mp c_2)]]; exact MW_mk ws_eq (ws_ne (Nat.ne_of_beq_eq_false rfl) w_36) h_xs (by first | omega | (simp only [List.length_append, List.length_nil, List.length_cons, List.length_take, List.length_replicate, List.length_range, List.length_map, lof_len, pad_len, padd_len, md5_len, strm_len, strms_len, entOf_len, hif_len] <;> omega)) (ws_ne (Nat.ne_of_beq_eq_false rfl) w_37) h_rs (by first | omega | (simp only [List.length_append, List.length_nil, List.length_cons, List.length_take, List.length_replicate, List.length_range, List.length_map, lof_len, pad_len, padd_len, md5_len, strm_len, strms_len, entOf_len, hif_len] <;> omega)) (ws_ne (Nat.ne_of_beq_eq_false rfl) w_38) h_ow (by first | omega | (simp only [List.length_append, List.length_nil, List.length_cons, List.length_take, List.length_replicate, List.length_range, List.length_map, lof_len, pad_len, padd_len, md5_len, strm_len, strms_len, entOf_len, hif_len] <;> omega)) (ws_ne (Nat.ne_of_beq_eq_false rfl) w_39) h_us (by first | omega | (simp only [List.length_append, List.length_nil, List.length_cons, List.length_take, List.length_replicate, List.length_range, List.length_map, lof_len, pad_len, padd_len, md5_len, strm_len, strms_len, entOf_len, hif_len] <;> omega)) (ws_ne (Nat.ne_of_beq_eq_false rfl) w_40) h_nb (by first | omega | (simp only [List.length_append, List.length_nil, List.length_cons, List.length_take, List.length_replicate, List.length_range, List.length_map, lof_len, pad_len, padd_len, md5_len, strm_len, strms_len, entOf_len, hif_len] <;> omega)) (ws_ne (Nat.ne_of_beq_eq_false rfl) w_41) h_op (by first | omega | (simp only [List.length_append, List.length_nil, List.length_cons, List.length_take, List.length_replicate, List.length_range, List.length_map, lof_len, pad_len, padd_len, md5_len, strm_len, strms_len, entOf_len, hif_len] <;> omega)) (ws_ne (Nat.ne_of_beq_eq_false rfl) w_42) h_up (by first | omega | (simp only [List.length_append, List.length_nil, List.length_cons, List.length_take, List.length_replicate, List.length_range, List.length_map, lof_len, pad_len, padd_len, md5_len, strm_len, strms_len, entOf_len, hif_len] <;> omega)) (ws_ne (Nat.ne_of_beq_eq_false rfl) w_43) h_kn (by first | omega | (simp only [List.length_append, List.length_nil, List.length_cons, List.length_take, List.length_replicate, List.length_range, List.length_map, lof_len, pad_len, padd_len, md5_len, strm_len, strms_len, entOf_len, hif_len] <;> omega)) (ws_ne (Nat.ne_of_beq_eq_false rfl) w_50) h_hl (by first | omega | (simp only [List.length_append, List.length_nil, List.length_cons, List.length_take, List.length_replicate, List.length_range, List.length_map, lof_len, pad_len, padd_len, md5_len, strm_len, strms_len, entOf_len, hif_len] <;> omega)) (ws_ne (Nat.ne_of_beq_eq_false rfl) w_44) (ws_ne (Nat.ne_of_beq_eq_false rfl) w_45) (ws_ne (Nat.ne_of_beq_eq_false rfl) w_46) (ws_ne (Nat.ne_of_beq_eq_false rfl) w_47) hsn (ws_ne (Nat.ne_of_beq_eq_false rfl) w_48) htn (ws_ne (Nat.ne_of_beq_eq_false rfl) w_49) hpd (ws_ne (Nat.ne_of_beq_eq_false rfl) w_51) (ws_ne (Nat.ne_of_beq_eq_false rfl) w_52) (ws_ne (Nat.ne_of_beq_eq_false rfl) w_53) (ws_ne (Nat.ne_of_beq_eq_false rfl) w_54) (ws_ne (Nat.ne_of_beq_eq_false rfl) w_55) (ws_ne (Nat.ne_of_beq_eq_false rfl) w_56) (ws_ne (Nat.ne_of_beq_eq_false rfl) w_57) (ws_ne (Nat.ne_of_beq_eq_false rfl) w_58) hik, (frm_set (Nat.le_of_ble_eq_true rfl) (Nat.le_of_ble_eq_true rfl) (frm_rf _)), by rw [show cutO xs p1 = (1, 0, xs) by unfold cutO; rw [if_pos (Int32.not_le.mp c_2)]]⟩)
def hanS (r l : Int32) : Prop := ¬ r < 2 ∧ ¬ 4 < r ∧ ¬ l < 5 ∧ ¬ 16 < l ∧ (2 < r ∨ l = 5)
set_option maxHeartbeats 4000000 in
set_option maxRecDepth 100000 in
theorem mX6_handler9 {w : Wo} {fa : Int32} {xs rs : List Nat} {rv : Int32} {ln : Nat} {pm lo : Int32} {ow us nb op up kn : List Nat} (mw : MW fa (xs, rs, rv, ln, pm, lo, ow, us, nb, op, up, kn) w) (ps : PSok (xs, rs, rv, ln, pm, lo, ow, us, nb, op, up, kn)) {p1 p2 p3 p4 : Int32} (h4 : p4 = 0 ∨ p4 = 1) : Ctr mX6_handler [.ref 35, .int p1, .int p2, .int p3, .int p4] w (PV fun w' => ((hanS p1 p2 ∧ MW 0 (xs, rs, p1, p2.toNatClampNeg, p3, p4, ow, us, nb, op, up, []) w') ∨ (¬ hanS p1 p2 ∧ MW 1 (xs, rs, rv, ln, pm, lo, ow, us, nb, op, up, kn) w')) ∧ frm w w') := by
  refine Ctr_intro okX6_handler rfl (Nat.le_of_ble_eq_true rfl) (L := [some (.ref 35), some (.int p1), some (.int p2), some (.int p3), some (.int p4), none]) rfl (fun g ct C T_ => ?_)
  refine MW_open mw (fun fx fr9 fo fus fn fop fup fk fh hl fm fd vA vB vC vD fsn ftn fpd ft fe fp fot K B SW BK ik w_35 w_36 h_xs k_xs w_37 h_rs k_rs w_38 h_ow k_ow w_39 h_us k_us w_40 h_nb k_nb w_41 h_op k_op w_42 h_up k_up w_43 h_kn k_kn w_50 h_hl k_hl w_44 w_45 w_46 w_47 hsn w_48 htn w_49 hpd w_51 w_52 w_53 w_54 w_55 w_56 w_57 w_58 hik => ?_)
  obtain ⟨bx, br, bo, bu, bn, bp, bq, bk9, lo9, lu9, hkn, hrv, hln, hlo⟩ := ps
  refine r_iload_n C dX6_handler_0 rfl ?_
  refine r_iconst C dX6_handler_1 (v := 2) (by decide) ?_
  refine r_icmp_lt C 35 dX6_handler_2 (by decide) (fun c_2 => ?_) (fun c_2 => ?_)
  · skip
    refine r_iconst C dX6_handler_35 (v := 0) (by decide) ?_
    refine r_istore C dX6_handler_36 (L' := [some (.ref 35), some (.int p1), some (.int p2), some (.int p3), some (.int p4), some (.int 0)]) (by decide) rfl ?_
    refine r_aload_n C dX6_handler_38 rfl ?_
    refine r_iload C dX6_handler_39 rfl ?_
    refine r_if_eq C 48 dX6_handler_41 (by decide) (fun c_41 => ?_) (fun c_41 => ?_)
    · skip
      refine r_iconst C dX6_handler_48 (v := 1) (by decide) ?_
      refine r_callVi C (As := [.int 1]) (rest := []) dX6_handler_49 (cX6_refused9 w_35 (p1 := 1)) okX6_refused mlRX6_159 imX6_refused seX6_refused ⟨by decide, by decide⟩ rfl rfl (Nat.le_of_ble_eq_true rfl) w_35 rfl rfl (Nat.le_of_ble_eq_true rfl) (by decide) (by decide) (fun r_1 w9 h9 => ?_)
      obtain ⟨rfl, er_⟩ := h9
      have er_ : r_1 = 1 := er_.trans (if_neg (by decide))
      subst er_
      refine r_if_eq C 56 dX6_handler_52 (by decide) (fun c_52 => ?_) (fun c_52 => ?_)
      · skip
        exact absurd c_52 (by decide)
      · skip
        exact r_return C T_ rfl dX6_handler_55 (⟨rfl, Or.inr ⟨fun z => z.1 c_2, MW_mk ws_eq (ws_ne (Nat.ne_of_beq_eq_false rfl) w_36) h_xs (by first | omega | (simp only [List.length_append, List.length_nil, List.length_cons, List.length_take, List.length_replicate, List.length_range, List.length_map, lof_len, pad_len, padd_len, md5_len, strm_len, strms_len, entOf_len, hif_len] <;> omega)) (ws_ne (Nat.ne_of_beq_eq_false rfl) w_37) h_rs (by first | omega | (simp only [List.length_append, List.length_nil, List.length_cons, List.length_take, List.length_replicate, List.length_range, List.length_map, lof_len, pad_len, padd_len, md5_len, strm_len, strms_len, entOf_len, hif_len] <;> omega)) (ws_ne (Nat.ne_of_beq_eq_false rfl) w_38) h_ow (by first | omega | (simp only [List.length_append, List.length_nil, List.length_cons, List.length_take, List.length_replicate, List.length_range, List.length_map, lof_len, pad_len, padd_len, md5_len, strm_len, strms_len, entOf_len, hif_len] <;> omega)) (ws_ne (Nat.ne_of_beq_eq_false rfl) w_39) h_us (by first | omega | (simp only [List.length_append, List.length_nil, List.length_cons, List.length_take, List.length_replicate, List.length_range, List.length_map, lof_len, pad_len, padd_len, md5_len, strm_len, strms_len, entOf_len, hif_len] <;> omega)) (ws_ne (Nat.ne_of_beq_eq_false rfl) w_40) h_nb (by first | omega | (simp only [List.length_append, List.length_nil, List.length_cons, List.length_take, List.length_replicate, List.length_range, List.length_map, lof_len, pad_len, padd_len, md5_len, strm_len, strms_len, entOf_len, hif_len] <;> omega)) (ws_ne (Nat.ne_of_beq_eq_false rfl) w_41) h_op (by first | omega | (simp only [List.length_append, List.length_nil, List.length_cons, List.length_take, List.length_replicate, List.length_range, List.length_map, lof_len, pad_len, padd_len, md5_len, strm_len, strms_len, entOf_len, hif_len] <;> omega)) (ws_ne (Nat.ne_of_beq_eq_false rfl) w_42) h_up (by first | omega | (simp only [List.length_append, List.length_nil, List.length_cons, List.length_take, List.length_replicate, List.length_range, List.length_map, lof_len, pad_len, padd_len, md5_len, strm_len, strms_len, entOf_len, hif_len] <;> omega)) (ws_ne (Nat.ne_of_beq_eq_false rfl) w_43) h_kn (by first | omega | (simp only [List.length_append, List.length_nil, List.length_cons, List.length_take, List.length_replicate, List.length_range, List.length_map, lof_len, pad_len, padd_len, md5_len, strm_len, strms_len, entOf_len, hif_len] <;> omega)) (ws_ne (Nat.ne_of_beq_eq_false rfl) w_50) h_hl (by first | omega | (simp only [List.length_append, List.length_nil, List.length_cons, List.length_take, List.length_replicate, List.length_range, List.length_map, lof_len, pad_len, padd_len, md5_len, strm_len, strms_len, entOf_len, hif_len] <;> omega)) (ws_ne (Nat.ne_of_beq_eq_false rfl) w_44) (ws_ne (Nat.ne_of_beq_eq_false rfl) w_45) (ws_ne (Nat.ne_of_beq_eq_false rfl) w_46) (ws_ne (Nat.ne_of_beq_eq_false rfl) w_47) hsn (ws_ne (Nat.ne_of_beq_eq_false rfl) w_48) htn (ws_ne (Nat.ne_of_beq_eq_false rfl) w_49) hpd (ws_ne (Nat.ne_of_beq_eq_false rfl) w_51) (ws_ne (Nat.ne_of_beq_eq_false rfl) w_52) (ws_ne (Nat.ne_of_beq_eq_false rfl) w_53) (ws_ne (Nat.ne_of_beq_eq_false rfl) w_54) (ws_ne (Nat.ne_of_beq_eq_false rfl) w_55) (ws_ne (Nat.ne_of_beq_eq_false rfl) w_56) (ws_ne (Nat.ne_of_beq_eq_false rfl) w_57) (ws_ne (Nat.ne_of_beq_eq_false rfl) w_58) hik⟩, (frm_set (Nat.le_of_ble_eq_true rfl) (Nat.le_of_ble_eq_true rfl) (frm_rf _))⟩)
    · skip
      exact absurd c_41 (by decide)
  · skip
    refine r_iload_n C dX6_handler_5 rfl ?_
    refine r_iconst C dX6_handler_6 (v := 4) (by decide) ?_
    refine r_icmp_gt C 35 dX6_handler_7 (by decide) (fun c_7 => ?_) (fun c_7 => ?_)
    · skip
      refine r_iconst C dX6_handler_35 (v := 0) (by decide) ?_
      refine r_istore C dX6_handler_36 (L' := [some (.ref 35), some (.int p1), some (.int p2), some (.int p3), some (.int p4), some (.int 0)]) (by decide) rfl ?_
      refine r_aload_n C dX6_handler_38 rfl ?_
      refine r_iload C dX6_handler_39 rfl ?_
      refine r_if_eq C 48 dX6_handler_41 (by decide) (fun c_41 => ?_) (fun c_41 => ?_)
      · skip
        refine r_iconst C dX6_handler_48 (v := 1) (by decide) ?_
        refine r_callVi C (As := [.int 1]) (rest := []) dX6_handler_49 (cX6_refused9 w_35 (p1 := 1)) okX6_refused mlRX6_159 imX6_refused seX6_refused ⟨by decide, by decide⟩ rfl rfl (Nat.le_of_ble_eq_true rfl) w_35 rfl rfl (Nat.le_of_ble_eq_true rfl) (by decide) (by decide) (fun r_2 w9 h9 => ?_)
        obtain ⟨rfl, er_⟩ := h9
        have er_ : r_2 = 1 := er_.trans (if_neg (by decide))
        subst er_
        refine r_if_eq C 56 dX6_handler_52 (by decide) (fun c_52 => ?_) (fun c_52 => ?_)
        · skip
          exact absurd c_52 (by decide)
        · skip
          exact r_return C T_ rfl dX6_handler_55 (⟨rfl, Or.inr ⟨fun z => z.2.1 c_7, MW_mk ws_eq (ws_ne (Nat.ne_of_beq_eq_false rfl) w_36) h_xs (by first | omega | (simp only [List.length_append, List.length_nil, List.length_cons, List.length_take, List.length_replicate, List.length_range, List.length_map, lof_len, pad_len, padd_len, md5_len, strm_len, strms_len, entOf_len, hif_len] <;> omega)) (ws_ne (Nat.ne_of_beq_eq_false rfl) w_37) h_rs (by first | omega | (simp only [List.length_append, List.length_nil, List.length_cons, List.length_take, List.length_replicate, List.length_range, List.length_map, lof_len, pad_len, padd_len, md5_len, strm_len, strms_len, entOf_len, hif_len] <;> omega)) (ws_ne (Nat.ne_of_beq_eq_false rfl) w_38) h_ow (by first | omega | (simp only [List.length_append, List.length_nil, List.length_cons, List.length_take, List.length_replicate, List.length_range, List.length_map, lof_len, pad_len, padd_len, md5_len, strm_len, strms_len, entOf_len, hif_len] <;> omega)) (ws_ne (Nat.ne_of_beq_eq_false rfl) w_39) h_us (by first | omega | (simp only [List.length_append, List.length_nil, List.length_cons, List.length_take, List.length_replicate, List.length_range, List.length_map, lof_len, pad_len, padd_len, md5_len, strm_len, strms_len, entOf_len, hif_len] <;> omega)) (ws_ne (Nat.ne_of_beq_eq_false rfl) w_40) h_nb (by first | omega | (simp only [List.length_append, List.length_nil, List.length_cons, List.length_take, List.length_replicate, List.length_range, List.length_map, lof_len, pad_len, padd_len, md5_len, strm_len, strms_len, entOf_len, hif_len] <;> omega)) (ws_ne (Nat.ne_of_beq_eq_false rfl) w_41) h_op (by first | omega | (simp only [List.length_append, List.length_nil, List.length_cons, List.length_take, List.length_replicate, List.length_range, List.length_map, lof_len, pad_len, padd_len, md5_len, strm_len, strms_len, entOf_len, hif_len] <;> omega)) (ws_ne (Nat.ne_of_beq_eq_false rfl) w_42) h_up (by first | omega | (simp only [List.length_append, List.length_nil, List.length_cons, List.length_take, List.length_replicate, List.length_range, List.length_map, lof_len, pad_len, padd_len, md5_len, strm_len, strms_len, entOf_len, hif_len] <;> omega)) (ws_ne (Nat.ne_of_beq_eq_false rfl) w_43) h_kn (by first | omega | (simp only [List.length_append, List.length_nil, List.length_cons, List.length_take, List.length_replicate, List.length_range, List.length_map, lof_len, pad_len, padd_len, md5_len, strm_len, strms_len, entOf_len, hif_len] <;> omega)) (ws_ne (Nat.ne_of_beq_eq_false rfl) w_50) h_hl (by first | omega | (simp only [List.length_append, List.length_nil, List.length_cons, List.length_take, List.length_replicate, List.length_range, List.length_map, lof_len, pad_len, padd_len, md5_len, strm_len, strms_len, entOf_len, hif_len] <;> omega)) (ws_ne (Nat.ne_of_beq_eq_false rfl) w_44) (ws_ne (Nat.ne_of_beq_eq_false rfl) w_45) (ws_ne (Nat.ne_of_beq_eq_false rfl) w_46) (ws_ne (Nat.ne_of_beq_eq_false rfl) w_47) hsn (ws_ne (Nat.ne_of_beq_eq_false rfl) w_48) htn (ws_ne (Nat.ne_of_beq_eq_false rfl) w_49) hpd (ws_ne (Nat.ne_of_beq_eq_false rfl) w_51) (ws_ne (Nat.ne_of_beq_eq_false rfl) w_52) (ws_ne (Nat.ne_of_beq_eq_false rfl) w_53) (ws_ne (Nat.ne_of_beq_eq_false rfl) w_54) (ws_ne (Nat.ne_of_beq_eq_false rfl) w_55) (ws_ne (Nat.ne_of_beq_eq_false rfl) w_56) (ws_ne (Nat.ne_of_beq_eq_false rfl) w_57) (ws_ne (Nat.ne_of_beq_eq_false rfl) w_58) hik⟩, (frm_set (Nat.le_of_ble_eq_true rfl) (Nat.le_of_ble_eq_true rfl) (frm_rf _))⟩)
      · skip
        exact absurd c_41 (by decide)
    · skip
      refine r_iload_n C dX6_handler_10 rfl ?_
      refine r_iconst C dX6_handler_11 (v := 5) (by decide) ?_
      refine r_icmp_lt C 35 dX6_handler_12 (by decide) (fun c_12 => ?_) (fun c_12 => ?_)
      · skip
        refine r_iconst C dX6_handler_35 (v := 0) (by decide) ?_
        refine r_istore C dX6_handler_36 (L' := [some (.ref 35), some (.int p1), some (.int p2), some (.int p3), some (.int p4), some (.int 0)]) (by decide) rfl ?_
        refine r_aload_n C dX6_handler_38 rfl ?_
        refine r_iload C dX6_handler_39 rfl ?_
        refine r_if_eq C 48 dX6_handler_41 (by decide) (fun c_41 => ?_) (fun c_41 => ?_)
        · skip
          refine r_iconst C dX6_handler_48 (v := 1) (by decide) ?_
          refine r_callVi C (As := [.int 1]) (rest := []) dX6_handler_49 (cX6_refused9 w_35 (p1 := 1)) okX6_refused mlRX6_159 imX6_refused seX6_refused ⟨by decide, by decide⟩ rfl rfl (Nat.le_of_ble_eq_true rfl) w_35 rfl rfl (Nat.le_of_ble_eq_true rfl) (by decide) (by decide) (fun r_3 w9 h9 => ?_)
          obtain ⟨rfl, er_⟩ := h9
          have er_ : r_3 = 1 := er_.trans (if_neg (by decide))
          subst er_
          refine r_if_eq C 56 dX6_handler_52 (by decide) (fun c_52 => ?_) (fun c_52 => ?_)
          · skip
            exact absurd c_52 (by decide)
          · skip
            exact r_return C T_ rfl dX6_handler_55 (⟨rfl, Or.inr ⟨fun z => z.2.2.1 c_12, MW_mk ws_eq (ws_ne (Nat.ne_of_beq_eq_false rfl) w_36) h_xs (by first | omega | (simp only [List.length_append, List.length_nil, List.length_cons, List.length_take, List.length_replicate, List.length_range, List.length_map, lof_len, pad_len, padd_len, md5_len, strm_len, strms_len, entOf_len, hif_len] <;> omega)) (ws_ne (Nat.ne_of_beq_eq_false rfl) w_37) h_rs (by first | omega | (simp only [List.length_append, List.length_nil, List.length_cons, List.length_take, List.length_replicate, List.length_range, List.length_map, lof_len, pad_len, padd_len, md5_len, strm_len, strms_len, entOf_len, hif_len] <;> omega)) (ws_ne (Nat.ne_of_beq_eq_false rfl) w_38) h_ow (by first | omega | (simp only [List.length_append, List.length_nil, List.length_cons, List.length_take, List.length_replicate, List.length_range, List.length_map, lof_len, pad_len, padd_len, md5_len, strm_len, strms_len, entOf_len, hif_len] <;> omega)) (ws_ne (Nat.ne_of_beq_eq_false rfl) w_39) h_us (by first | omega | (simp only [List.length_append, List.length_nil, List.length_cons, List.length_take, List.length_replicate, List.length_range, List.length_map, lof_len, pad_len, padd_len, md5_len, strm_len, strms_len, entOf_len, hif_len] <;> omega)) (ws_ne (Nat.ne_of_beq_eq_false rfl) w_40) h_nb (by first | omega | (simp only [List.length_append, List.length_nil, List.length_cons, List.length_take, List.length_replicate, List.length_range, List.length_map, lof_len, pad_len, padd_len, md5_len, strm_len, strms_len, entOf_len, hif_len] <;> omega)) (ws_ne (Nat.ne_of_beq_eq_false rfl) w_41) h_op (by first | omega | (simp only [List.length_append, List.length_nil, List.length_cons, List.length_take, List.length_replicate, List.length_range, List.length_map, lof_len, pad_len, padd_len, md5_len, strm_len, strms_len, entOf_len, hif_len] <;> omega)) (ws_ne (Nat.ne_of_beq_eq_false rfl) w_42) h_up (by first | omega | (simp only [List.length_append, List.length_nil, List.length_cons, List.length_take, List.length_replicate, List.length_range, List.length_map, lof_len, pad_len, padd_len, md5_len, strm_len, strms_len, entOf_len, hif_len] <;> omega)) (ws_ne (Nat.ne_of_beq_eq_false rfl) w_43) h_kn (by first | omega | (simp only [List.length_append, List.length_nil, List.length_cons, List.length_take, List.length_replicate, List.length_range, List.length_map, lof_len, pad_len, padd_len, md5_len, strm_len, strms_len, entOf_len, hif_len] <;> omega)) (ws_ne (Nat.ne_of_beq_eq_false rfl) w_50) h_hl (by first | omega | (simp only [List.length_append, List.length_nil, List.length_cons, List.length_take, List.length_replicate, List.length_range, List.length_map, lof_len, pad_len, padd_len, md5_len, strm_len, strms_len, entOf_len, hif_len] <;> omega)) (ws_ne (Nat.ne_of_beq_eq_false rfl) w_44) (ws_ne (Nat.ne_of_beq_eq_false rfl) w_45) (ws_ne (Nat.ne_of_beq_eq_false rfl) w_46) (ws_ne (Nat.ne_of_beq_eq_false rfl) w_47) hsn (ws_ne (Nat.ne_of_beq_eq_false rfl) w_48) htn (ws_ne (Nat.ne_of_beq_eq_false rfl) w_49) hpd (ws_ne (Nat.ne_of_beq_eq_false rfl) w_51) (ws_ne (Nat.ne_of_beq_eq_false rfl) w_52) (ws_ne (Nat.ne_of_beq_eq_false rfl) w_53) (ws_ne (Nat.ne_of_beq_eq_false rfl) w_54) (ws_ne (Nat.ne_of_beq_eq_false rfl) w_55) (ws_ne (Nat.ne_of_beq_eq_false rfl) w_56) (ws_ne (Nat.ne_of_beq_eq_false rfl) w_57) (ws_ne (Nat.ne_of_beq_eq_false rfl) w_58) hik⟩, (frm_set (Nat.le_of_ble_eq_true rfl) (Nat.le_of_ble_eq_true rfl) (frm_rf _))⟩)
        · skip
          exact absurd c_41 (by decide)
      · skip
        refine r_iload_n C dX6_handler_15 rfl ?_
        refine r_bipush C dX6_handler_16 (v := 16) (by decide) ?_
        refine r_icmp_gt C 35 dX6_handler_18 (by decide) (fun c_18 => ?_) (fun c_18 => ?_)
        · skip
          refine r_iconst C dX6_handler_35 (v := 0) (by decide) ?_
          refine r_istore C dX6_handler_36 (L' := [some (.ref 35), some (.int p1), some (.int p2), some (.int p3), some (.int p4), some (.int 0)]) (by decide) rfl ?_
          refine r_aload_n C dX6_handler_38 rfl ?_
          refine r_iload C dX6_handler_39 rfl ?_
          refine r_if_eq C 48 dX6_handler_41 (by decide) (fun c_41 => ?_) (fun c_41 => ?_)
          · skip
            refine r_iconst C dX6_handler_48 (v := 1) (by decide) ?_
            refine r_callVi C (As := [.int 1]) (rest := []) dX6_handler_49 (cX6_refused9 w_35 (p1 := 1)) okX6_refused mlRX6_159 imX6_refused seX6_refused ⟨by decide, by decide⟩ rfl rfl (Nat.le_of_ble_eq_true rfl) w_35 rfl rfl (Nat.le_of_ble_eq_true rfl) (by decide) (by decide) (fun r_4 w9 h9 => ?_)
            obtain ⟨rfl, er_⟩ := h9
            have er_ : r_4 = 1 := er_.trans (if_neg (by decide))
            subst er_
            refine r_if_eq C 56 dX6_handler_52 (by decide) (fun c_52 => ?_) (fun c_52 => ?_)
            · skip
              exact absurd c_52 (by decide)
            · skip
              exact r_return C T_ rfl dX6_handler_55 (⟨rfl, Or.inr ⟨fun z => z.2.2.2.1 c_18, MW_mk ws_eq (ws_ne (Nat.ne_of_beq_eq_false rfl) w_36) h_xs (by first | omega | (simp only [List.length_append, List.length_nil, List.length_cons, List.length_take, List.length_replicate, List.length_range, List.length_map, lof_len, pad_len, padd_len, md5_len, strm_len, strms_len, entOf_len, hif_len] <;> omega)) (ws_ne (Nat.ne_of_beq_eq_false rfl) w_37) h_rs (by first | omega | (simp only [List.length_append, List.length_nil, List.length_cons, List.length_take, List.length_replicate, List.length_range, List.length_map, lof_len, pad_len, padd_len, md5_len, strm_len, strms_len, entOf_len, hif_len] <;> omega)) (ws_ne (Nat.ne_of_beq_eq_false rfl) w_38) h_ow (by first | omega | (simp only [List.length_append, List.length_nil, List.length_cons, List.length_take, List.length_replicate, List.length_range, List.length_map, lof_len, pad_len, padd_len, md5_len, strm_len, strms_len, entOf_len, hif_len] <;> omega)) (ws_ne (Nat.ne_of_beq_eq_false rfl) w_39) h_us (by first | omega | (simp only [List.length_append, List.length_nil, List.length_cons, List.length_take, List.length_replicate, List.length_range, List.length_map, lof_len, pad_len, padd_len, md5_len, strm_len, strms_len, entOf_len, hif_len] <;> omega)) (ws_ne (Nat.ne_of_beq_eq_false rfl) w_40) h_nb (by first | omega | (simp only [List.length_append, List.length_nil, List.length_cons, List.length_take, List.length_replicate, List.length_range, List.length_map, lof_len, pad_len, padd_len, md5_len, strm_len, strms_len, entOf_len, hif_len] <;> omega)) (ws_ne (Nat.ne_of_beq_eq_false rfl) w_41) h_op (by first | omega | (simp only [List.length_append, List.length_nil, List.length_cons, List.length_take, List.length_replicate, List.length_range, List.length_map, lof_len, pad_len, padd_len, md5_len, strm_len, strms_len, entOf_len, hif_len] <;> omega)) (ws_ne (Nat.ne_of_beq_eq_false rfl) w_42) h_up (by first | omega | (simp only [List.length_append, List.length_nil, List.length_cons, List.length_take, List.length_replicate, List.length_range, List.length_map, lof_len, pad_len, padd_len, md5_len, strm_len, strms_len, entOf_len, hif_len] <;> omega)) (ws_ne (Nat.ne_of_beq_eq_false rfl) w_43) h_kn (by first | omega | (simp only [List.length_append, List.length_nil, List.length_cons, List.length_take, List.length_replicate, List.length_range, List.length_map, lof_len, pad_len, padd_len, md5_len, strm_len, strms_len, entOf_len, hif_len] <;> omega)) (ws_ne (Nat.ne_of_beq_eq_false rfl) w_50) h_hl (by first | omega | (simp only [List.length_append, List.length_nil, List.length_cons, List.length_take, List.length_replicate, List.length_range, List.length_map, lof_len, pad_len, padd_len, md5_len, strm_len, strms_len, entOf_len, hif_len] <;> omega)) (ws_ne (Nat.ne_of_beq_eq_false rfl) w_44) (ws_ne (Nat.ne_of_beq_eq_false rfl) w_45) (ws_ne (Nat.ne_of_beq_eq_false rfl) w_46) (ws_ne (Nat.ne_of_beq_eq_false rfl) w_47) hsn (ws_ne (Nat.ne_of_beq_eq_false rfl) w_48) htn (ws_ne (Nat.ne_of_beq_eq_false rfl) w_49) hpd (ws_ne (Nat.ne_of_beq_eq_false rfl) w_51) (ws_ne (Nat.ne_of_beq_eq_false rfl) w_52) (ws_ne (Nat.ne_of_beq_eq_false rfl) w_53) (ws_ne (Nat.ne_of_beq_eq_false rfl) w_54) (ws_ne (Nat.ne_of_beq_eq_false rfl) w_55) (ws_ne (Nat.ne_of_beq_eq_false rfl) w_56) (ws_ne (Nat.ne_of_beq_eq_false rfl) w_57) (ws_ne (Nat.ne_of_beq_eq_false rfl) w_58) hik⟩, (frm_set (Nat.le_of_ble_eq_true rfl) (Nat.le_of_ble_eq_true rfl) (frm_rf _))⟩)
          · skip
            exact absurd c_41 (by decide)
        · skip
          refine r_iload_n C dX6_handler_21 rfl ?_
          refine r_iconst C dX6_handler_22 (v := 2) (by decide) ?_
          refine r_icmp_gt C 31 dX6_handler_23 (by decide) (fun c_23 => ?_) (fun c_23 => ?_)
          · skip
            refine r_iconst C dX6_handler_31 (v := 1) (by decide) ?_
            refine r_goto C 36 dX6_handler_32 (by decide) ?_
            refine r_istore C dX6_handler_36 (L' := [some (.ref 35), some (.int p1), some (.int p2), some (.int p3), some (.int p4), some (.int 1)]) (by decide) rfl ?_
            refine r_aload_n C dX6_handler_38 rfl ?_
            refine r_iload C dX6_handler_39 rfl ?_
            refine r_if_eq C 48 dX6_handler_41 (by decide) (fun c_41 => ?_) (fun c_41 => ?_)
            · skip
              exact absurd c_41 (by decide)
            · skip
              refine r_iconst C dX6_handler_44 (v := 0) (by decide) ?_
              refine r_goto C 49 dX6_handler_45 (by decide) ?_
              refine r_callVi C (As := [.int 0]) (rest := []) dX6_handler_49 (cX6_refused9 w_35 (p1 := 0)) okX6_refused mlRX6_159 imX6_refused seX6_refused ⟨by decide, by decide⟩ rfl rfl (Nat.le_of_ble_eq_true rfl) w_35 rfl rfl (Nat.le_of_ble_eq_true rfl) (by decide) (by decide) (fun r_5 w9 h9 => ?_)
              obtain ⟨rfl, er_⟩ := h9
              have er_ : r_5 = 0 := er_.trans (if_pos (by decide))
              subst er_
              refine r_if_eq C 56 dX6_handler_52 (by decide) (fun c_52 => ?_) (fun c_52 => ?_)
              · skip
                obtain ⟨l9, hl9, rfl⟩ := nI_of (x := p2) (fun z => c_12 (Int32.lt_of_lt_of_le z (by decide)))
                refine r_aload_n C dX6_handler_56 rfl ?_
                refine r_iload_n C dX6_handler_57 rfl ?_
                refine r_put C dX6_handler_58 fpRX6_16 (Nat.le_of_ble_eq_true rfl) ws_eq rfl rfl (Nat.le_of_ble_eq_true rfl) (fs' := [.int 0, .int (nI xs.length), .ref 36, .int (nI rs.length), .ref 37, .int p1, .int (nI ln), .int pm, .int lo, .ref 38, .ref 39, .int (nI nb.length), .ref 40, .int (nI op.length), .ref 41, .int (nI up.length), .ref 42, .int ik, .ref 43, .int (nI (([] : List Nat).length)), .ref 44, .ref 45, .ref 46, .ref 47, .ref 48, .ref 49, .int (nI hl.length), .ref 50, .ref 51, .ref 52, .ref 53, .ref 54, .ref 55, .ref 56, .ref 57, .ref 58]) rfl ?_
                refine r_eq rfl rfl ws_same ?_
                refine r_aload_n C dX6_handler_61 rfl ?_
                refine r_iload_n C dX6_handler_62 rfl ?_
                refine r_put C dX6_handler_63 fpRX6_20 (Nat.le_of_ble_eq_true rfl) ws_eq rfl rfl (Nat.le_of_ble_eq_true rfl) (fs' := [.int 0, .int (nI xs.length), .ref 36, .int (nI rs.length), .ref 37, .int p1, .int (nI l9), .int pm, .int lo, .ref 38, .ref 39, .int (nI nb.length), .ref 40, .int (nI op.length), .ref 41, .int (nI up.length), .ref 42, .int ik, .ref 43, .int (nI (([] : List Nat).length)), .ref 44, .ref 45, .ref 46, .ref 47, .ref 48, .ref 49, .int (nI hl.length), .ref 50, .ref 51, .ref 52, .ref 53, .ref 54, .ref 55, .ref 56, .ref 57, .ref 58]) rfl ?_
                refine r_eq rfl rfl ws_same ?_
                refine r_aload_n C dX6_handler_66 rfl ?_
                refine r_iload_n C dX6_handler_67 rfl ?_
                refine r_put C dX6_handler_68 fpRX6_23 (Nat.le_of_ble_eq_true rfl) ws_eq rfl rfl (Nat.le_of_ble_eq_true rfl) (fs' := [.int 0, .int (nI xs.length), .ref 36, .int (nI rs.length), .ref 37, .int p1, .int (nI l9), .int p3, .int lo, .ref 38, .ref 39, .int (nI nb.length), .ref 40, .int (nI op.length), .ref 41, .int (nI up.length), .ref 42, .int ik, .ref 43, .int (nI (([] : List Nat).length)), .ref 44, .ref 45, .ref 46, .ref 47, .ref 48, .ref 49, .int (nI hl.length), .ref 50, .ref 51, .ref 52, .ref 53, .ref 54, .ref 55, .ref 56, .ref 57, .ref 58]) rfl ?_
                refine r_eq rfl rfl ws_same ?_
                refine r_aload_n C dX6_handler_71 rfl ?_
                refine r_iload C dX6_handler_72 rfl ?_
                refine r_put C dX6_handler_74 fpRX6_206 (Nat.le_of_ble_eq_true rfl) ws_eq (by rcases h4 with h | h <;> rw [h] <;> rfl) (by rcases h4 with h | h <;> rw [h] <;> rfl) (Nat.le_of_ble_eq_true rfl) (fs' := [.int 0, .int (nI xs.length), .ref 36, .int (nI rs.length), .ref 37, .int p1, .int (nI l9), .int p3, .int p4, .ref 38, .ref 39, .int (nI nb.length), .ref 40, .int (nI op.length), .ref 41, .int (nI up.length), .ref 42, .int ik, .ref 43, .int (nI (([] : List Nat).length)), .ref 44, .ref 45, .ref 46, .ref 47, .ref 48, .ref 49, .int (nI hl.length), .ref 50, .ref 51, .ref 52, .ref 53, .ref 54, .ref 55, .ref 56, .ref 57, .ref 58]) rfl ?_
                refine r_eq rfl rfl ws_same ?_
                refine r_aload_n C dX6_handler_77 rfl ?_
                refine r_iconst C dX6_handler_78 (v := 0) (by decide) ?_
                refine r_put C dX6_handler_79 fpRX6_220 (Nat.le_of_ble_eq_true rfl) ws_eq (by decide) (by decide) (Nat.le_of_ble_eq_true rfl) (fs' := [.int 0, .int (nI xs.length), .ref 36, .int (nI rs.length), .ref 37, .int p1, .int (nI l9), .int p3, .int p4, .ref 38, .ref 39, .int (nI nb.length), .ref 40, .int (nI op.length), .ref 41, .int (nI up.length), .ref 42, .int 0, .ref 43, .int (nI (([] : List Nat).length)), .ref 44, .ref 45, .ref 46, .ref 47, .ref 48, .ref 49, .int (nI hl.length), .ref 50, .ref 51, .ref 52, .ref 53, .ref 54, .ref 55, .ref 56, .ref 57, .ref 58]) rfl ?_
                refine r_eq rfl rfl ws_same ?_
                exact r_return C T_ rfl dX6_handler_82 (⟨rfl, Or.inl ⟨⟨c_2, c_7, c_12, c_18, Or.inl c_23⟩, by rw [show (nI l9).toNatClampNeg = l9 from nI_clamp (by omega)]; exact MW_mk ws_eq (ws_ne (Nat.ne_of_beq_eq_false rfl) w_36) h_xs (by first | omega | (simp only [List.length_append, List.length_nil, List.length_cons, List.length_take, List.length_replicate, List.length_range, List.length_map, lof_len, pad_len, padd_len, md5_len, strm_len, strms_len, entOf_len, hif_len] <;> omega)) (ws_ne (Nat.ne_of_beq_eq_false rfl) w_37) h_rs (by first | omega | (simp only [List.length_append, List.length_nil, List.length_cons, List.length_take, List.length_replicate, List.length_range, List.length_map, lof_len, pad_len, padd_len, md5_len, strm_len, strms_len, entOf_len, hif_len] <;> omega)) (ws_ne (Nat.ne_of_beq_eq_false rfl) w_38) h_ow (by first | omega | (simp only [List.length_append, List.length_nil, List.length_cons, List.length_take, List.length_replicate, List.length_range, List.length_map, lof_len, pad_len, padd_len, md5_len, strm_len, strms_len, entOf_len, hif_len] <;> omega)) (ws_ne (Nat.ne_of_beq_eq_false rfl) w_39) h_us (by first | omega | (simp only [List.length_append, List.length_nil, List.length_cons, List.length_take, List.length_replicate, List.length_range, List.length_map, lof_len, pad_len, padd_len, md5_len, strm_len, strms_len, entOf_len, hif_len] <;> omega)) (ws_ne (Nat.ne_of_beq_eq_false rfl) w_40) h_nb (by first | omega | (simp only [List.length_append, List.length_nil, List.length_cons, List.length_take, List.length_replicate, List.length_range, List.length_map, lof_len, pad_len, padd_len, md5_len, strm_len, strms_len, entOf_len, hif_len] <;> omega)) (ws_ne (Nat.ne_of_beq_eq_false rfl) w_41) h_op (by first | omega | (simp only [List.length_append, List.length_nil, List.length_cons, List.length_take, List.length_replicate, List.length_range, List.length_map, lof_len, pad_len, padd_len, md5_len, strm_len, strms_len, entOf_len, hif_len] <;> omega)) (ws_ne (Nat.ne_of_beq_eq_false rfl) w_42) h_up (by first | omega | (simp only [List.length_append, List.length_nil, List.length_cons, List.length_take, List.length_replicate, List.length_range, List.length_map, lof_len, pad_len, padd_len, md5_len, strm_len, strms_len, entOf_len, hif_len] <;> omega)) (ws_ne (Nat.ne_of_beq_eq_false rfl) w_43) (hs_nil _) (by first | omega | (simp only [List.length_append, List.length_nil, List.length_cons, List.length_take, List.length_replicate, List.length_range, List.length_map, lof_len, pad_len, padd_len, md5_len, strm_len, strms_len, entOf_len, hif_len] <;> omega)) (ws_ne (Nat.ne_of_beq_eq_false rfl) w_50) h_hl (by first | omega | (simp only [List.length_append, List.length_nil, List.length_cons, List.length_take, List.length_replicate, List.length_range, List.length_map, lof_len, pad_len, padd_len, md5_len, strm_len, strms_len, entOf_len, hif_len] <;> omega)) (ws_ne (Nat.ne_of_beq_eq_false rfl) w_44) (ws_ne (Nat.ne_of_beq_eq_false rfl) w_45) (ws_ne (Nat.ne_of_beq_eq_false rfl) w_46) (ws_ne (Nat.ne_of_beq_eq_false rfl) w_47) hsn (ws_ne (Nat.ne_of_beq_eq_false rfl) w_48) htn (ws_ne (Nat.ne_of_beq_eq_false rfl) w_49) hpd (ws_ne (Nat.ne_of_beq_eq_false rfl) w_51) (ws_ne (Nat.ne_of_beq_eq_false rfl) w_52) (ws_ne (Nat.ne_of_beq_eq_false rfl) w_53) (ws_ne (Nat.ne_of_beq_eq_false rfl) w_54) (ws_ne (Nat.ne_of_beq_eq_false rfl) w_55) (ws_ne (Nat.ne_of_beq_eq_false rfl) w_56) (ws_ne (Nat.ne_of_beq_eq_false rfl) w_57) (ws_ne (Nat.ne_of_beq_eq_false rfl) w_58) (Or.inl ⟨rfl, rfl⟩)⟩, (frm_set (Nat.le_of_ble_eq_true rfl) (Nat.le_of_ble_eq_true rfl) (frm_rf _))⟩)
              · skip
                exact absurd c_52 (by decide)
          · skip
            refine r_iload_n C dX6_handler_26 rfl ?_
            refine r_iconst C dX6_handler_27 (v := 5) (by decide) ?_
            refine r_icmp_ne C 35 dX6_handler_28 (by decide) (fun c_28 => ?_) (fun c_28 => ?_)
            · skip
              refine r_iconst C dX6_handler_35 (v := 0) (by decide) ?_
              refine r_istore C dX6_handler_36 (L' := [some (.ref 35), some (.int p1), some (.int p2), some (.int p3), some (.int p4), some (.int 0)]) (by decide) rfl ?_
              refine r_aload_n C dX6_handler_38 rfl ?_
              refine r_iload C dX6_handler_39 rfl ?_
              refine r_if_eq C 48 dX6_handler_41 (by decide) (fun c_41 => ?_) (fun c_41 => ?_)
              · skip
                refine r_iconst C dX6_handler_48 (v := 1) (by decide) ?_
                refine r_callVi C (As := [.int 1]) (rest := []) dX6_handler_49 (cX6_refused9 w_35 (p1 := 1)) okX6_refused mlRX6_159 imX6_refused seX6_refused ⟨by decide, by decide⟩ rfl rfl (Nat.le_of_ble_eq_true rfl) w_35 rfl rfl (Nat.le_of_ble_eq_true rfl) (by decide) (by decide) (fun r_6 w9 h9 => ?_)
                obtain ⟨rfl, er_⟩ := h9
                have er_ : r_6 = 1 := er_.trans (if_neg (by decide))
                subst er_
                refine r_if_eq C 56 dX6_handler_52 (by decide) (fun c_52 => ?_) (fun c_52 => ?_)
                · skip
                  exact absurd c_52 (by decide)
                · skip
                  exact r_return C T_ rfl dX6_handler_55 (⟨rfl, Or.inr ⟨fun z => z.2.2.2.2.elim (fun y => c_23 y) (fun y => c_28 y), MW_mk ws_eq (ws_ne (Nat.ne_of_beq_eq_false rfl) w_36) h_xs (by first | omega | (simp only [List.length_append, List.length_nil, List.length_cons, List.length_take, List.length_replicate, List.length_range, List.length_map, lof_len, pad_len, padd_len, md5_len, strm_len, strms_len, entOf_len, hif_len] <;> omega)) (ws_ne (Nat.ne_of_beq_eq_false rfl) w_37) h_rs (by first | omega | (simp only [List.length_append, List.length_nil, List.length_cons, List.length_take, List.length_replicate, List.length_range, List.length_map, lof_len, pad_len, padd_len, md5_len, strm_len, strms_len, entOf_len, hif_len] <;> omega)) (ws_ne (Nat.ne_of_beq_eq_false rfl) w_38) h_ow (by first | omega | (simp only [List.length_append, List.length_nil, List.length_cons, List.length_take, List.length_replicate, List.length_range, List.length_map, lof_len, pad_len, padd_len, md5_len, strm_len, strms_len, entOf_len, hif_len] <;> omega)) (ws_ne (Nat.ne_of_beq_eq_false rfl) w_39) h_us (by first | omega | (simp only [List.length_append, List.length_nil, List.length_cons, List.length_take, List.length_replicate, List.length_range, List.length_map, lof_len, pad_len, padd_len, md5_len, strm_len, strms_len, entOf_len, hif_len] <;> omega)) (ws_ne (Nat.ne_of_beq_eq_false rfl) w_40) h_nb (by first | omega | (simp only [List.length_append, List.length_nil, List.length_cons, List.length_take, List.length_replicate, List.length_range, List.length_map, lof_len, pad_len, padd_len, md5_len, strm_len, strms_len, entOf_len, hif_len] <;> omega)) (ws_ne (Nat.ne_of_beq_eq_false rfl) w_41) h_op (by first | omega | (simp only [List.length_append, List.length_nil, List.length_cons, List.length_take, List.length_replicate, List.length_range, List.length_map, lof_len, pad_len, padd_len, md5_len, strm_len, strms_len, entOf_len, hif_len] <;> omega)) (ws_ne (Nat.ne_of_beq_eq_false rfl) w_42) h_up (by first | omega | (simp only [List.length_append, List.length_nil, List.length_cons, List.length_take, List.length_replicate, List.length_range, List.length_map, lof_len, pad_len, padd_len, md5_len, strm_len, strms_len, entOf_len, hif_len] <;> omega)) (ws_ne (Nat.ne_of_beq_eq_false rfl) w_43) h_kn (by first | omega | (simp only [List.length_append, List.length_nil, List.length_cons, List.length_take, List.length_replicate, List.length_range, List.length_map, lof_len, pad_len, padd_len, md5_len, strm_len, strms_len, entOf_len, hif_len] <;> omega)) (ws_ne (Nat.ne_of_beq_eq_false rfl) w_50) h_hl (by first | omega | (simp only [List.length_append, List.length_nil, List.length_cons, List.length_take, List.length_replicate, List.length_range, List.length_map, lof_len, pad_len, padd_len, md5_len, strm_len, strms_len, entOf_len, hif_len] <;> omega)) (ws_ne (Nat.ne_of_beq_eq_false rfl) w_44) (ws_ne (Nat.ne_of_beq_eq_false rfl) w_45) (ws_ne (Nat.ne_of_beq_eq_false rfl) w_46) (ws_ne (Nat.ne_of_beq_eq_false rfl) w_47) hsn (ws_ne (Nat.ne_of_beq_eq_false rfl) w_48) htn (ws_ne (Nat.ne_of_beq_eq_false rfl) w_49) hpd (ws_ne (Nat.ne_of_beq_eq_false rfl) w_51) (ws_ne (Nat.ne_of_beq_eq_false rfl) w_52) (ws_ne (Nat.ne_of_beq_eq_false rfl) w_53) (ws_ne (Nat.ne_of_beq_eq_false rfl) w_54) (ws_ne (Nat.ne_of_beq_eq_false rfl) w_55) (ws_ne (Nat.ne_of_beq_eq_false rfl) w_56) (ws_ne (Nat.ne_of_beq_eq_false rfl) w_57) (ws_ne (Nat.ne_of_beq_eq_false rfl) w_58) hik⟩, (frm_set (Nat.le_of_ble_eq_true rfl) (Nat.le_of_ble_eq_true rfl) (frm_rf _))⟩)
              · skip
                exact absurd c_41 (by decide)
            · skip
              refine r_iconst C dX6_handler_31 (v := 1) (by decide) ?_
              refine r_goto C 36 dX6_handler_32 (by decide) ?_
              refine r_istore C dX6_handler_36 (L' := [some (.ref 35), some (.int p1), some (.int p2), some (.int p3), some (.int p4), some (.int 1)]) (by decide) rfl ?_
              refine r_aload_n C dX6_handler_38 rfl ?_
              refine r_iload C dX6_handler_39 rfl ?_
              refine r_if_eq C 48 dX6_handler_41 (by decide) (fun c_41 => ?_) (fun c_41 => ?_)
              · skip
                exact absurd c_41 (by decide)
              · skip
                refine r_iconst C dX6_handler_44 (v := 0) (by decide) ?_
                refine r_goto C 49 dX6_handler_45 (by decide) ?_
                refine r_callVi C (As := [.int 0]) (rest := []) dX6_handler_49 (cX6_refused9 w_35 (p1 := 0)) okX6_refused mlRX6_159 imX6_refused seX6_refused ⟨by decide, by decide⟩ rfl rfl (Nat.le_of_ble_eq_true rfl) w_35 rfl rfl (Nat.le_of_ble_eq_true rfl) (by decide) (by decide) (fun r_7 w9 h9 => ?_)
                obtain ⟨rfl, er_⟩ := h9
                have er_ : r_7 = 0 := er_.trans (if_pos (by decide))
                subst er_
                refine r_if_eq C 56 dX6_handler_52 (by decide) (fun c_52 => ?_) (fun c_52 => ?_)
                · skip
                  obtain ⟨l9, hl9, rfl⟩ := nI_of (x := p2) (fun z => c_12 (Int32.lt_of_lt_of_le z (by decide)))
                  refine r_aload_n C dX6_handler_56 rfl ?_
                  refine r_iload_n C dX6_handler_57 rfl ?_
                  refine r_put C dX6_handler_58 fpRX6_16 (Nat.le_of_ble_eq_true rfl) ws_eq rfl rfl (Nat.le_of_ble_eq_true rfl) (fs' := [.int 0, .int (nI xs.length), .ref 36, .int (nI rs.length), .ref 37, .int p1, .int (nI ln), .int pm, .int lo, .ref 38, .ref 39, .int (nI nb.length), .ref 40, .int (nI op.length), .ref 41, .int (nI up.length), .ref 42, .int ik, .ref 43, .int (nI (([] : List Nat).length)), .ref 44, .ref 45, .ref 46, .ref 47, .ref 48, .ref 49, .int (nI hl.length), .ref 50, .ref 51, .ref 52, .ref 53, .ref 54, .ref 55, .ref 56, .ref 57, .ref 58]) rfl ?_
                  refine r_eq rfl rfl ws_same ?_
                  refine r_aload_n C dX6_handler_61 rfl ?_
                  refine r_iload_n C dX6_handler_62 rfl ?_
                  refine r_put C dX6_handler_63 fpRX6_20 (Nat.le_of_ble_eq_true rfl) ws_eq rfl rfl (Nat.le_of_ble_eq_true rfl) (fs' := [.int 0, .int (nI xs.length), .ref 36, .int (nI rs.length), .ref 37, .int p1, .int (nI l9), .int pm, .int lo, .ref 38, .ref 39, .int (nI nb.length), .ref 40, .int (nI op.length), .ref 41, .int (nI up.length), .ref 42, .int ik, .ref 43, .int (nI (([] : List Nat).length)), .ref 44, .ref 45, .ref 46, .ref 47, .ref 48, .ref 49, .int (nI hl.length), .ref 50, .ref 51, .ref 52, .ref 53, .ref 54, .ref 55, .ref 56, .ref 57, .ref 58]) rfl ?_
                  refine r_eq rfl rfl ws_same ?_
                  refine r_aload_n C dX6_handler_66 rfl ?_
                  refine r_iload_n C dX6_handler_67 rfl ?_
                  refine r_put C dX6_handler_68 fpRX6_23 (Nat.le_of_ble_eq_true rfl) ws_eq rfl rfl (Nat.le_of_ble_eq_true rfl) (fs' := [.int 0, .int (nI xs.length), .ref 36, .int (nI rs.length), .ref 37, .int p1, .int (nI l9), .int p3, .int lo, .ref 38, .ref 39, .int (nI nb.length), .ref 40, .int (nI op.length), .ref 41, .int (nI up.length), .ref 42, .int ik, .ref 43, .int (nI (([] : List Nat).length)), .ref 44, .ref 45, .ref 46, .ref 47, .ref 48, .ref 49, .int (nI hl.length), .ref 50, .ref 51, .ref 52, .ref 53, .ref 54, .ref 55, .ref 56, .ref 57, .ref 58]) rfl ?_
                  refine r_eq rfl rfl ws_same ?_
                  refine r_aload_n C dX6_handler_71 rfl ?_
                  refine r_iload C dX6_handler_72 rfl ?_
                  refine r_put C dX6_handler_74 fpRX6_206 (Nat.le_of_ble_eq_true rfl) ws_eq (by rcases h4 with h | h <;> rw [h] <;> rfl) (by rcases h4 with h | h <;> rw [h] <;> rfl) (Nat.le_of_ble_eq_true rfl) (fs' := [.int 0, .int (nI xs.length), .ref 36, .int (nI rs.length), .ref 37, .int p1, .int (nI l9), .int p3, .int p4, .ref 38, .ref 39, .int (nI nb.length), .ref 40, .int (nI op.length), .ref 41, .int (nI up.length), .ref 42, .int ik, .ref 43, .int (nI (([] : List Nat).length)), .ref 44, .ref 45, .ref 46, .ref 47, .ref 48, .ref 49, .int (nI hl.length), .ref 50, .ref 51, .ref 52, .ref 53, .ref 54, .ref 55, .ref 56, .ref 57, .ref 58]) rfl ?_
                  refine r_eq rfl rfl ws_same ?_
                  refine r_aload_n C dX6_handler_77 rfl ?_
                  refine r_iconst C dX6_handler_78 (v := 0) (by decide) ?_
                  refine r_put C dX6_handler_79 fpRX6_220 (Nat.le_of_ble_eq_true rfl) ws_eq (by decide) (by decide) (Nat.le_of_ble_eq_true rfl) (fs' := [.int 0, .int (nI xs.length), .ref 36, .int (nI rs.length), .ref 37, .int p1, .int (nI l9), .int p3, .int p4, .ref 38, .ref 39, .int (nI nb.length), .ref 40, .int (nI op.length), .ref 41, .int (nI up.length), .ref 42, .int 0, .ref 43, .int (nI (([] : List Nat).length)), .ref 44, .ref 45, .ref 46, .ref 47, .ref 48, .ref 49, .int (nI hl.length), .ref 50, .ref 51, .ref 52, .ref 53, .ref 54, .ref 55, .ref 56, .ref 57, .ref 58]) rfl ?_
                  refine r_eq rfl rfl ws_same ?_
                  exact r_return C T_ rfl dX6_handler_82 (⟨rfl, Or.inl ⟨⟨c_2, c_7, c_12, c_18, Or.inr c_28⟩, by rw [show (nI l9).toNatClampNeg = l9 from nI_clamp (by omega)]; exact MW_mk ws_eq (ws_ne (Nat.ne_of_beq_eq_false rfl) w_36) h_xs (by first | omega | (simp only [List.length_append, List.length_nil, List.length_cons, List.length_take, List.length_replicate, List.length_range, List.length_map, lof_len, pad_len, padd_len, md5_len, strm_len, strms_len, entOf_len, hif_len] <;> omega)) (ws_ne (Nat.ne_of_beq_eq_false rfl) w_37) h_rs (by first | omega | (simp only [List.length_append, List.length_nil, List.length_cons, List.length_take, List.length_replicate, List.length_range, List.length_map, lof_len, pad_len, padd_len, md5_len, strm_len, strms_len, entOf_len, hif_len] <;> omega)) (ws_ne (Nat.ne_of_beq_eq_false rfl) w_38) h_ow (by first | omega | (simp only [List.length_append, List.length_nil, List.length_cons, List.length_take, List.length_replicate, List.length_range, List.length_map, lof_len, pad_len, padd_len, md5_len, strm_len, strms_len, entOf_len, hif_len] <;> omega)) (ws_ne (Nat.ne_of_beq_eq_false rfl) w_39) h_us (by first | omega | (simp only [List.length_append, List.length_nil, List.length_cons, List.length_take, List.length_replicate, List.length_range, List.length_map, lof_len, pad_len, padd_len, md5_len, strm_len, strms_len, entOf_len, hif_len] <;> omega)) (ws_ne (Nat.ne_of_beq_eq_false rfl) w_40) h_nb (by first | omega | (simp only [List.length_append, List.length_nil, List.length_cons, List.length_take, List.length_replicate, List.length_range, List.length_map, lof_len, pad_len, padd_len, md5_len, strm_len, strms_len, entOf_len, hif_len] <;> omega)) (ws_ne (Nat.ne_of_beq_eq_false rfl) w_41) h_op (by first | omega | (simp only [List.length_append, List.length_nil, List.length_cons, List.length_take, List.length_replicate, List.length_range, List.length_map, lof_len, pad_len, padd_len, md5_len, strm_len, strms_len, entOf_len, hif_len] <;> omega)) (ws_ne (Nat.ne_of_beq_eq_false rfl) w_42) h_up (by first | omega | (simp only [List.length_append, List.length_nil, List.length_cons, List.length_take, List.length_replicate, List.length_range, List.length_map, lof_len, pad_len, padd_len, md5_len, strm_len, strms_len, entOf_len, hif_len] <;> omega)) (ws_ne (Nat.ne_of_beq_eq_false rfl) w_43) (hs_nil _) (by first | omega | (simp only [List.length_append, List.length_nil, List.length_cons, List.length_take, List.length_replicate, List.length_range, List.length_map, lof_len, pad_len, padd_len, md5_len, strm_len, strms_len, entOf_len, hif_len] <;> omega)) (ws_ne (Nat.ne_of_beq_eq_false rfl) w_50) h_hl (by first | omega | (simp only [List.length_append, List.length_nil, List.length_cons, List.length_take, List.length_replicate, List.length_range, List.length_map, lof_len, pad_len, padd_len, md5_len, strm_len, strms_len, entOf_len, hif_len] <;> omega)) (ws_ne (Nat.ne_of_beq_eq_false rfl) w_44) (ws_ne (Nat.ne_of_beq_eq_false rfl) w_45) (ws_ne (Nat.ne_of_beq_eq_false rfl) w_46) (ws_ne (Nat.ne_of_beq_eq_false rfl) w_47) hsn (ws_ne (Nat.ne_of_beq_eq_false rfl) w_48) htn (ws_ne (Nat.ne_of_beq_eq_false rfl) w_49) hpd (ws_ne (Nat.ne_of_beq_eq_false rfl) w_51) (ws_ne (Nat.ne_of_beq_eq_false rfl) w_52) (ws_ne (Nat.ne_of_beq_eq_false rfl) w_53) (ws_ne (Nat.ne_of_beq_eq_false rfl) w_54) (ws_ne (Nat.ne_of_beq_eq_false rfl) w_55) (ws_ne (Nat.ne_of_beq_eq_false rfl) w_56) (ws_ne (Nat.ne_of_beq_eq_false rfl) w_57) (ws_ne (Nat.ne_of_beq_eq_false rfl) w_58) (Or.inl ⟨rfl, rfl⟩)⟩, (frm_set (Nat.le_of_ble_eq_true rfl) (Nat.le_of_ble_eq_true rfl) (frm_rf _))⟩)
                · skip
                  exact absurd c_52 (by decide)
def f20 (p1 p2 p3 p4 p5 : Int32) : List Nat := ((((hif p1 ++ hif p2) ++ hif p3) ++ hif p4) ++ hif p5)
theorem f20_at (p1 p2 p3 p4 p5 : Int32) : ∀ k, k < 20 → (f20 p1 p2 p3 p4 p5).getD k 0 = byj (if k < 4 then p1 else if k < 8 then p2 else if k < 12 then p3 else if k < 16 then p4 else p5) (3 - k % 4) := by
  intro k hk
  rcases (show k = 0 ∨ k = 1 ∨ k = 2 ∨ k = 3 ∨ k = 4 ∨ k = 5 ∨ k = 6 ∨ k = 7 ∨ k = 8 ∨ k = 9 ∨ k = 10 ∨ k = 11 ∨ k = 12 ∨ k = 13 ∨ k = 14 ∨ k = 15 ∨ k = 16 ∨ k = 17 ∨ k = 18 ∨ k = 19 by omega) with rfl | rfl | rfl | rfl | rfl | rfl | rfl | rfl | rfl | rfl | rfl | rfl | rfl | rfl | rfl | rfl | rfl | rfl | rfl | rfl <;> rfl
theorem f20_len (p1 p2 p3 p4 p5 : Int32) : (f20 p1 p2 p3 p4 p5).length = 20 := rfl
theorem fedd_20 {xs : List Nat} (p1 p2 p3 p4 p5 : Int32) (h : xs.length ≤ 16364) : fedd xs p1 p2 p3 p4 p5 = xs ++ f20 p1 p2 p3 p4 p5 := by
  unfold fedd f20
  rw [if_pos h]
  simp only [List.append_assoc]
set_option maxHeartbeats 4000000 in
set_option maxRecDepth 100000 in
theorem mX6_feed9 {w : Wo} {fa : Int32} {xs rs : List Nat} {rv : Int32} {ln : Nat} {pm lo : Int32} {ow us nb op up kn : List Nat} (mw : MW fa (xs, rs, rv, ln, pm, lo, ow, us, nb, op, up, kn) w) (ps : PSok (xs, rs, rv, ln, pm, lo, ow, us, nb, op, up, kn)) {p1 p2 p3 p4 p5 : Int32} : Ctr mX6_feed [.ref 35, .int p1, .int p2, .int p3, .int p4, .int p5] w (PI fun r w' => MW 0 (fedd xs p1 p2 p3 p4 p5, rs, rv, ln, pm, lo, ow, us, nb, op, up, kn) w' ∧ frm w w' ∧ r = (if xs.length ≤ 16364 then nI (fedd xs p1 p2 p3 p4 p5).length else -1)) := by
  refine Ctr_intro okX6_feed rfl (Nat.le_of_ble_eq_true rfl) (L := [some (.ref 35), some (.int p1), some (.int p2), some (.int p3), some (.int p4), some (.int p5), none, none]) rfl (fun g ct C T_ => ?_)
  refine MW_open mw (fun fx fr9 fo fus fn fop fup fk fh hl fm fd vA vB vC vD fsn ftn fpd ft fe fp fot K B SW BK ik w_35 w_36 h_xs k_xs w_37 h_rs k_rs w_38 h_ow k_ow w_39 h_us k_us w_40 h_nb k_nb w_41 h_op k_op w_42 h_up k_up w_43 h_kn k_kn w_50 h_hl k_hl w_44 w_45 w_46 w_47 hsn w_48 htn w_49 hpd w_51 w_52 w_53 w_54 w_55 w_56 w_57 w_58 hik => ?_)
  obtain ⟨bx, br, bo, bu, bn, bp, bq, bk9, lo9, lu9, hkn, hrv, hln, hlo⟩ := ps
  refine r_aload_n C dX6_feed_0 rfl ?_
  refine r_iconst C dX6_feed_1 (v := 0) (by decide) ?_
  refine r_put C dX6_feed_2 fpRX6_153 (Nat.le_of_ble_eq_true rfl) w_35 rfl rfl (Nat.le_of_ble_eq_true rfl) (fs' := [.int 0, .int (nI xs.length), .ref 36, .int (nI rs.length), .ref 37, .int rv, .int (nI ln), .int pm, .int lo, .ref 38, .ref 39, .int (nI nb.length), .ref 40, .int (nI op.length), .ref 41, .int (nI up.length), .ref 42, .int ik, .ref 43, .int (nI (([] : List Nat).length)), .ref 44, .ref 45, .ref 46, .ref 47, .ref 48, .ref 49, .int (nI hl.length), .ref 50, .ref 51, .ref 52, .ref 53, .ref 54, .ref 55, .ref 56, .ref 57, .ref 58]) rfl ?_
  refine r_aload_n C dX6_feed_5 rfl ?_
  refine r_get C dX6_feed_6 fgRX6_156 (Nat.le_of_ble_eq_true rfl) ws_eq rfl ?_
  refine r_bipush C dX6_feed_9 (v := 20) (by decide) ?_
  refine r_iadd C dX6_feed_11 ?_
  refine r_top (y := nI (xs.length + 20)) (nI_add xs.length 20) ?_
  refine r_sipush C dX6_feed_12 (v := 16384) (by decide) ?_
  refine r_icmp_le C 20 dX6_feed_15 (by decide) (fun c_15 => ?_) (fun c_15 => ?_)
  · skip
    have c_15 : (xs.length + 20) ≤ 16384 := (nI_leI (a := xs.length + 20) (b := 16384) (by omega) (by omega)).mp c_15
    refine r_iconst C dX6_feed_20 (v := 0) (by decide) ?_
    refine r_istore C dX6_feed_21 (L' := [some (.ref 35), some (.int p1), some (.int p2), some (.int p3), some (.int p4), some (.int p5), some (.int 0), none]) (by decide) rfl ?_
    have loop_23 : ∀ (d9 : Nat) (k : Nat) (zs : List Nat) (f1 : Nat → Int32), 20 - k < d9 → k ≤ 20 → zs = xs ++ (f20 p1 p2 p3 p4 p5).take k → hs f1 zs → Az g mX6_feed ct 0 0 23 [some (.ref 35), some (.int p1), some (.int p2), some (.int p3), some (.int p4), some (.int p5), some (.int (nI k)), none] [] (wset (wset w 35 (mo 0 (nI zs.length) (nI rs.length) rv (nI ln) pm lo (nI nb.length) (nI op.length) (nI up.length) ik (nI (([] : List Nat).length)) (nI hl.length))) 36 (ia 16384 f1)) := by
      intro d9
      induction d9 with
      | zero => intro k zs f1 hd9; exact absurd hd9 (Nat.not_lt_zero _)
      | succ d9 ih_23 =>
        intro k zs f1 hd9 hk hz hf1
        have hzl : zs.length = xs.length + k := by rw [hz, List.length_append, List.length_take, f20_len]; omega
        refine r_iload C dX6_feed_23 rfl ?_
        refine r_bipush C dX6_feed_25 (v := 20) (by decide) ?_
        refine r_icmp_ge C 120 dX6_feed_27 (by decide) (fun c_27 => ?_) (fun c_27 => ?_)
        · skip
          have c_27 : 20 ≤ k := (nI_leI (a := 20) (b := k) (by omega) (by omega)).mp c_27
          refine r_aload_n C dX6_feed_120 rfl ?_
          refine r_get C dX6_feed_121 fgRX6_156 (Nat.le_of_ble_eq_true rfl) (ws_ne (Nat.ne_of_beq_eq_false rfl) ws_eq) rfl ?_
          exact r_ireturn C T_ rfl rfl dX6_feed_124 (⟨_, rfl, by rw [show fedd xs p1 p2 p3 p4 p5 = zs by rw [fedd_20 _ _ _ _ _ (by omega), hz, show k = 20 by omega]; rfl]; exact MW_mk (ws_ne (Nat.ne_of_beq_eq_false rfl) ws_eq) ws_eq hf1 (by first | omega | (simp only [List.length_append, List.length_nil, List.length_cons, List.length_take, List.length_replicate, List.length_range, List.length_map, lof_len, pad_len, padd_len, md5_len, strm_len, strms_len, entOf_len, hif_len] <;> omega)) (ws_ne (Nat.ne_of_beq_eq_false rfl) (ws_ne (Nat.ne_of_beq_eq_false rfl) w_37)) h_rs (by first | omega | (simp only [List.length_append, List.length_nil, List.length_cons, List.length_take, List.length_replicate, List.length_range, List.length_map, lof_len, pad_len, padd_len, md5_len, strm_len, strms_len, entOf_len, hif_len] <;> omega)) (ws_ne (Nat.ne_of_beq_eq_false rfl) (ws_ne (Nat.ne_of_beq_eq_false rfl) w_38)) h_ow (by first | omega | (simp only [List.length_append, List.length_nil, List.length_cons, List.length_take, List.length_replicate, List.length_range, List.length_map, lof_len, pad_len, padd_len, md5_len, strm_len, strms_len, entOf_len, hif_len] <;> omega)) (ws_ne (Nat.ne_of_beq_eq_false rfl) (ws_ne (Nat.ne_of_beq_eq_false rfl) w_39)) h_us (by first | omega | (simp only [List.length_append, List.length_nil, List.length_cons, List.length_take, List.length_replicate, List.length_range, List.length_map, lof_len, pad_len, padd_len, md5_len, strm_len, strms_len, entOf_len, hif_len] <;> omega)) (ws_ne (Nat.ne_of_beq_eq_false rfl) (ws_ne (Nat.ne_of_beq_eq_false rfl) w_40)) h_nb (by first | omega | (simp only [List.length_append, List.length_nil, List.length_cons, List.length_take, List.length_replicate, List.length_range, List.length_map, lof_len, pad_len, padd_len, md5_len, strm_len, strms_len, entOf_len, hif_len] <;> omega)) (ws_ne (Nat.ne_of_beq_eq_false rfl) (ws_ne (Nat.ne_of_beq_eq_false rfl) w_41)) h_op (by first | omega | (simp only [List.length_append, List.length_nil, List.length_cons, List.length_take, List.length_replicate, List.length_range, List.length_map, lof_len, pad_len, padd_len, md5_len, strm_len, strms_len, entOf_len, hif_len] <;> omega)) (ws_ne (Nat.ne_of_beq_eq_false rfl) (ws_ne (Nat.ne_of_beq_eq_false rfl) w_42)) h_up (by first | omega | (simp only [List.length_append, List.length_nil, List.length_cons, List.length_take, List.length_replicate, List.length_range, List.length_map, lof_len, pad_len, padd_len, md5_len, strm_len, strms_len, entOf_len, hif_len] <;> omega)) (ws_ne (Nat.ne_of_beq_eq_false rfl) (ws_ne (Nat.ne_of_beq_eq_false rfl) w_43)) h_kn (by first | omega | (simp only [List.length_append, List.length_nil, List.length_cons, List.length_take, List.length_replicate, List.length_range, List.length_map, lof_len, pad_len, padd_len, md5_len, strm_len, strms_len, entOf_len, hif_len] <;> omega)) (ws_ne (Nat.ne_of_beq_eq_false rfl) (ws_ne (Nat.ne_of_beq_eq_false rfl) w_50)) h_hl (by first | omega | (simp only [List.length_append, List.length_nil, List.length_cons, List.length_take, List.length_replicate, List.length_range, List.length_map, lof_len, pad_len, padd_len, md5_len, strm_len, strms_len, entOf_len, hif_len] <;> omega)) (ws_ne (Nat.ne_of_beq_eq_false rfl) (ws_ne (Nat.ne_of_beq_eq_false rfl) w_44)) (ws_ne (Nat.ne_of_beq_eq_false rfl) (ws_ne (Nat.ne_of_beq_eq_false rfl) w_45)) (ws_ne (Nat.ne_of_beq_eq_false rfl) (ws_ne (Nat.ne_of_beq_eq_false rfl) w_46)) (ws_ne (Nat.ne_of_beq_eq_false rfl) (ws_ne (Nat.ne_of_beq_eq_false rfl) w_47)) hsn (ws_ne (Nat.ne_of_beq_eq_false rfl) (ws_ne (Nat.ne_of_beq_eq_false rfl) w_48)) htn (ws_ne (Nat.ne_of_beq_eq_false rfl) (ws_ne (Nat.ne_of_beq_eq_false rfl) w_49)) hpd (ws_ne (Nat.ne_of_beq_eq_false rfl) (ws_ne (Nat.ne_of_beq_eq_false rfl) w_51)) (ws_ne (Nat.ne_of_beq_eq_false rfl) (ws_ne (Nat.ne_of_beq_eq_false rfl) w_52)) (ws_ne (Nat.ne_of_beq_eq_false rfl) (ws_ne (Nat.ne_of_beq_eq_false rfl) w_53)) (ws_ne (Nat.ne_of_beq_eq_false rfl) (ws_ne (Nat.ne_of_beq_eq_false rfl) w_54)) (ws_ne (Nat.ne_of_beq_eq_false rfl) (ws_ne (Nat.ne_of_beq_eq_false rfl) w_55)) (ws_ne (Nat.ne_of_beq_eq_false rfl) (ws_ne (Nat.ne_of_beq_eq_false rfl) w_56)) (ws_ne (Nat.ne_of_beq_eq_false rfl) (ws_ne (Nat.ne_of_beq_eq_false rfl) w_57)) (ws_ne (Nat.ne_of_beq_eq_false rfl) (ws_ne (Nat.ne_of_beq_eq_false rfl) w_58)) hik, (frm_set (Nat.le_of_ble_eq_true rfl) (Nat.le_of_ble_eq_true rfl) (frm_set (Nat.le_of_ble_eq_true rfl) (Nat.le_of_ble_eq_true rfl) (frm_rf _))), by rw [if_pos (by omega), show fedd xs p1 p2 p3 p4 p5 = zs by rw [fedd_20 _ _ _ _ _ (by omega), hz, show k = 20 by omega]; rfl]⟩)
        · skip
          have c_27 : ¬ (20 ≤ k) := fun h9 => c_27 ((nI_leI (a := 20) (b := k) (by omega) (by omega)).mpr h9)
          refine r_iload C dX6_feed_30 rfl ?_
          refine r_iconst C dX6_feed_32 (v := 4) (by decide) ?_
          refine r_icmp_ge C 40 dX6_feed_33 (by decide) (fun c_33 => ?_) (fun c_33 => ?_)
          · skip
            have c_33 : 4 ≤ k := (nI_leI (a := 4) (b := k) (by omega) (by omega)).mp c_33
            refine r_iload C dX6_feed_40 rfl ?_
            refine r_bipush C dX6_feed_42 (v := 8) (by decide) ?_
            refine r_icmp_ge C 51 dX6_feed_44 (by decide) (fun c_44 => ?_) (fun c_44 => ?_)
            · skip
              have c_44 : 8 ≤ k := (nI_leI (a := 8) (b := k) (by omega) (by omega)).mp c_44
              refine r_iload C dX6_feed_51 rfl ?_
              refine r_bipush C dX6_feed_53 (v := 12) (by decide) ?_
              refine r_icmp_ge C 62 dX6_feed_55 (by decide) (fun c_55 => ?_) (fun c_55 => ?_)
              · skip
                have c_55 : 12 ≤ k := (nI_leI (a := 12) (b := k) (by omega) (by omega)).mp c_55
                refine r_iload C dX6_feed_62 rfl ?_
                refine r_bipush C dX6_feed_64 (v := 16) (by decide) ?_
                refine r_icmp_ge C 74 dX6_feed_66 (by decide) (fun c_66 => ?_) (fun c_66 => ?_)
                · skip
                  have c_66 : 16 ≤ k := (nI_leI (a := 16) (b := k) (by omega) (by omega)).mp c_66
                  refine r_iload C dX6_feed_74 rfl ?_
                  refine r_istore C dX6_feed_76 (L' := [some (.ref 35), some (.int p1), some (.int p2), some (.int p3), some (.int p4), some (.int p5), some (.int (nI k)), some (.int p5)]) (by decide) rfl ?_
                  refine r_aload_n C dX6_feed_78 rfl ?_
                  refine r_get C dX6_feed_79 fgRX6_7 (Nat.le_of_ble_eq_true rfl) (ws_ne (Nat.ne_of_beq_eq_false rfl) ws_eq) rfl ?_
                  refine r_aload_n C dX6_feed_82 rfl ?_
                  refine r_get C dX6_feed_83 fgRX6_156 (Nat.le_of_ble_eq_true rfl) (ws_ne (Nat.ne_of_beq_eq_false rfl) ws_eq) rfl ?_
                  refine r_iload C dX6_feed_86 rfl ?_
                  refine r_bipush C dX6_feed_88 (v := 24) (by decide) ?_
                  refine r_bipush C dX6_feed_90 (v := 8) (by decide) ?_
                  refine r_iload C dX6_feed_92 rfl ?_
                  refine r_iconst C dX6_feed_94 (v := 4) (by decide) ?_
                  refine r_irem C dX6_feed_95 (by decide) ?_
                  refine r_top (y := nI (k % 4)) (pk_rem (a := k) (d := 4) (by omega) (by omega) (by omega)) ?_
                  refine r_imul C dX6_feed_96 ?_
                  refine r_top (y := nI (8 * (k % 4))) (pk_mul 8 (k % 4)) ?_
                  refine r_isub C dX6_feed_97 ?_
                  refine r_top (y := nI (24 - (8 * (k % 4)))) (pk_sub (a := 24) (b := 8 * (k % 4)) (by omega)) ?_
                  refine r_ishr C dX6_feed_98 ?_
                  refine r_sipush C dX6_feed_99 (v := 255) (by decide) ?_
                  refine r_iand C dX6_feed_102 ?_
                  refine r_top (y := nI (byj p5 (3 - k % 4))) ((by rw [show 24 - (8 * (k % 4)) = 8 * (3 - k % 4) by omega]; exact shr_and _ (by omega))) ?_
                  refine r_iastN C dX6_feed_103 (Nat.le_of_ble_eq_true rfl) ws_eq (j := zs.length) rfl (by omega) (by decide) ?_
                  refine r_eq rfl rfl ws_same ?_
                  refine r_aload_n C dX6_feed_104 rfl ?_
                  refine r_dup C dX6_feed_105 rfl ?_
                  refine r_get C dX6_feed_106 fgRX6_156 (Nat.le_of_ble_eq_true rfl) (ws_ne (Nat.ne_of_beq_eq_false rfl) ws_eq) rfl ?_
                  refine r_iconst C dX6_feed_109 (v := 1) (by decide) ?_
                  refine r_iadd C dX6_feed_110 ?_
                  refine r_top (y := nI (zs.length + 1)) (nI_add zs.length 1) ?_
                  refine r_put C dX6_feed_111 fpRX6_156 (Nat.le_of_ble_eq_true rfl) (ws_ne (Nat.ne_of_beq_eq_false rfl) ws_eq) rfl rfl (Nat.le_of_ble_eq_true rfl) (fs' := [.int 0, .int (nI (zs.length + 1)), .ref 36, .int (nI rs.length), .ref 37, .int rv, .int (nI ln), .int pm, .int lo, .ref 38, .ref 39, .int (nI nb.length), .ref 40, .int (nI op.length), .ref 41, .int (nI up.length), .ref 42, .int ik, .ref 43, .int (nI (([] : List Nat).length)), .ref 44, .ref 45, .ref 46, .ref 47, .ref 48, .ref 49, .int (nI hl.length), .ref 50, .ref 51, .ref 52, .ref 53, .ref 54, .ref 55, .ref 56, .ref 57, .ref 58]) rfl ?_
                  refine r_eq rfl rfl ((ws_comm (Nat.ne_of_beq_eq_false rfl)).trans (congrArg (fun z => wset z 36 (ia 16384 (upd f1 zs.length (nI (byj p5 (3 - k % 4)))))) ws_same)) ?_
                  refine r_eq rfl rfl (show _ = _ from by rw [show nI (zs.length + 1) = nI (zs ++ [(f20 p1 p2 p3 p4 p5).getD k 0]).length from congrArg nI (len_push _ _).symm]) ?_
                  refine r_iinc C dX6_feed_114 (v := nI (k + 1)) (L' := [some (.ref 35), some (.int p1), some (.int p2), some (.int p3), some (.int p4), some (.int p5), some (.int (nI (k + 1))), some (.int p5)]) rfl (nI_add k 1) (by decide) rfl ?_
                  refine r_goto C 23 dX6_feed_117 (by decide) ?_
                  refine r_forget [some (.ref 35), some (.int p1), some (.int p2), some (.int p3), some (.int p4), some (.int p5), some (.int (nI (k + 1))), none] ⟨Or.inr rfl, Or.inr rfl, Or.inr rfl, Or.inr rfl, Or.inr rfl, Or.inr rfl, Or.inr rfl, Or.inl rfl, trivial⟩ ?_
                  exact ih_23 (k + 1) _ _ (by omega) (by omega) (by rw [hz, take_push (by rw [f20_len]; omega), List.append_assoc]) (hs_push hf1 (by rw [f20_at _ _ _ _ _ k (by omega), if_neg (show ¬ k < 4 by omega), if_neg (show ¬ k < 8 by omega), if_neg (show ¬ k < 12 by omega), if_neg (show ¬ k < 16 by omega)]))
                · skip
                  have c_66 : ¬ (16 ≤ k) := fun h9 => c_66 ((nI_leI (a := 16) (b := k) (by omega) (by omega)).mpr h9)
                  refine r_iload C dX6_feed_69 rfl ?_
                  refine r_goto C 76 dX6_feed_71 (by decide) ?_
                  refine r_istore C dX6_feed_76 (L' := [some (.ref 35), some (.int p1), some (.int p2), some (.int p3), some (.int p4), some (.int p5), some (.int (nI k)), some (.int p4)]) (by decide) rfl ?_
                  refine r_aload_n C dX6_feed_78 rfl ?_
                  refine r_get C dX6_feed_79 fgRX6_7 (Nat.le_of_ble_eq_true rfl) (ws_ne (Nat.ne_of_beq_eq_false rfl) ws_eq) rfl ?_
                  refine r_aload_n C dX6_feed_82 rfl ?_
                  refine r_get C dX6_feed_83 fgRX6_156 (Nat.le_of_ble_eq_true rfl) (ws_ne (Nat.ne_of_beq_eq_false rfl) ws_eq) rfl ?_
                  refine r_iload C dX6_feed_86 rfl ?_
                  refine r_bipush C dX6_feed_88 (v := 24) (by decide) ?_
                  refine r_bipush C dX6_feed_90 (v := 8) (by decide) ?_
                  refine r_iload C dX6_feed_92 rfl ?_
                  refine r_iconst C dX6_feed_94 (v := 4) (by decide) ?_
                  refine r_irem C dX6_feed_95 (by decide) ?_
                  refine r_top (y := nI (k % 4)) (pk_rem (a := k) (d := 4) (by omega) (by omega) (by omega)) ?_
                  refine r_imul C dX6_feed_96 ?_
                  refine r_top (y := nI (8 * (k % 4))) (pk_mul 8 (k % 4)) ?_
                  refine r_isub C dX6_feed_97 ?_
                  refine r_top (y := nI (24 - (8 * (k % 4)))) (pk_sub (a := 24) (b := 8 * (k % 4)) (by omega)) ?_
                  refine r_ishr C dX6_feed_98 ?_
                  refine r_sipush C dX6_feed_99 (v := 255) (by decide) ?_
                  refine r_iand C dX6_feed_102 ?_
                  refine r_top (y := nI (byj p4 (3 - k % 4))) ((by rw [show 24 - (8 * (k % 4)) = 8 * (3 - k % 4) by omega]; exact shr_and _ (by omega))) ?_
                  refine r_iastN C dX6_feed_103 (Nat.le_of_ble_eq_true rfl) ws_eq (j := zs.length) rfl (by omega) (by decide) ?_
                  refine r_eq rfl rfl ws_same ?_
                  refine r_aload_n C dX6_feed_104 rfl ?_
                  refine r_dup C dX6_feed_105 rfl ?_
                  refine r_get C dX6_feed_106 fgRX6_156 (Nat.le_of_ble_eq_true rfl) (ws_ne (Nat.ne_of_beq_eq_false rfl) ws_eq) rfl ?_
                  refine r_iconst C dX6_feed_109 (v := 1) (by decide) ?_
                  refine r_iadd C dX6_feed_110 ?_
                  refine r_top (y := nI (zs.length + 1)) (nI_add zs.length 1) ?_
                  refine r_put C dX6_feed_111 fpRX6_156 (Nat.le_of_ble_eq_true rfl) (ws_ne (Nat.ne_of_beq_eq_false rfl) ws_eq) rfl rfl (Nat.le_of_ble_eq_true rfl) (fs' := [.int 0, .int (nI (zs.length + 1)), .ref 36, .int (nI rs.length), .ref 37, .int rv, .int (nI ln), .int pm, .int lo, .ref 38, .ref 39, .int (nI nb.length), .ref 40, .int (nI op.length), .ref 41, .int (nI up.length), .ref 42, .int ik, .ref 43, .int (nI (([] : List Nat).length)), .ref 44, .ref 45, .ref 46, .ref 47, .ref 48, .ref 49, .int (nI hl.length), .ref 50, .ref 51, .ref 52, .ref 53, .ref 54, .ref 55, .ref 56, .ref 57, .ref 58]) rfl ?_
                  refine r_eq rfl rfl ((ws_comm (Nat.ne_of_beq_eq_false rfl)).trans (congrArg (fun z => wset z 36 (ia 16384 (upd f1 zs.length (nI (byj p4 (3 - k % 4)))))) ws_same)) ?_
                  refine r_eq rfl rfl (show _ = _ from by rw [show nI (zs.length + 1) = nI (zs ++ [(f20 p1 p2 p3 p4 p5).getD k 0]).length from congrArg nI (len_push _ _).symm]) ?_
                  refine r_iinc C dX6_feed_114 (v := nI (k + 1)) (L' := [some (.ref 35), some (.int p1), some (.int p2), some (.int p3), some (.int p4), some (.int p5), some (.int (nI (k + 1))), some (.int p4)]) rfl (nI_add k 1) (by decide) rfl ?_
                  refine r_goto C 23 dX6_feed_117 (by decide) ?_
                  refine r_forget [some (.ref 35), some (.int p1), some (.int p2), some (.int p3), some (.int p4), some (.int p5), some (.int (nI (k + 1))), none] ⟨Or.inr rfl, Or.inr rfl, Or.inr rfl, Or.inr rfl, Or.inr rfl, Or.inr rfl, Or.inr rfl, Or.inl rfl, trivial⟩ ?_
                  exact ih_23 (k + 1) _ _ (by omega) (by omega) (by rw [hz, take_push (by rw [f20_len]; omega), List.append_assoc]) (hs_push hf1 (by rw [f20_at _ _ _ _ _ k (by omega), if_neg (show ¬ k < 4 by omega), if_neg (show ¬ k < 8 by omega), if_neg (show ¬ k < 12 by omega), if_pos (show k < 16 by omega)]))
              · skip
                have c_55 : ¬ (12 ≤ k) := fun h9 => c_55 ((nI_leI (a := 12) (b := k) (by omega) (by omega)).mpr h9)
                refine r_iload_n C dX6_feed_58 rfl ?_
                refine r_goto C 76 dX6_feed_59 (by decide) ?_
                refine r_istore C dX6_feed_76 (L' := [some (.ref 35), some (.int p1), some (.int p2), some (.int p3), some (.int p4), some (.int p5), some (.int (nI k)), some (.int p3)]) (by decide) rfl ?_
                refine r_aload_n C dX6_feed_78 rfl ?_
                refine r_get C dX6_feed_79 fgRX6_7 (Nat.le_of_ble_eq_true rfl) (ws_ne (Nat.ne_of_beq_eq_false rfl) ws_eq) rfl ?_
                refine r_aload_n C dX6_feed_82 rfl ?_
                refine r_get C dX6_feed_83 fgRX6_156 (Nat.le_of_ble_eq_true rfl) (ws_ne (Nat.ne_of_beq_eq_false rfl) ws_eq) rfl ?_
                refine r_iload C dX6_feed_86 rfl ?_
                refine r_bipush C dX6_feed_88 (v := 24) (by decide) ?_
                refine r_bipush C dX6_feed_90 (v := 8) (by decide) ?_
                refine r_iload C dX6_feed_92 rfl ?_
                refine r_iconst C dX6_feed_94 (v := 4) (by decide) ?_
                refine r_irem C dX6_feed_95 (by decide) ?_
                refine r_top (y := nI (k % 4)) (pk_rem (a := k) (d := 4) (by omega) (by omega) (by omega)) ?_
                refine r_imul C dX6_feed_96 ?_
                refine r_top (y := nI (8 * (k % 4))) (pk_mul 8 (k % 4)) ?_
                refine r_isub C dX6_feed_97 ?_
                refine r_top (y := nI (24 - (8 * (k % 4)))) (pk_sub (a := 24) (b := 8 * (k % 4)) (by omega)) ?_
                refine r_ishr C dX6_feed_98 ?_
                refine r_sipush C dX6_feed_99 (v := 255) (by decide) ?_
                refine r_iand C dX6_feed_102 ?_
                refine r_top (y := nI (byj p3 (3 - k % 4))) ((by rw [show 24 - (8 * (k % 4)) = 8 * (3 - k % 4) by omega]; exact shr_and _ (by omega))) ?_
                refine r_iastN C dX6_feed_103 (Nat.le_of_ble_eq_true rfl) ws_eq (j := zs.length) rfl (by omega) (by decide) ?_
                refine r_eq rfl rfl ws_same ?_
                refine r_aload_n C dX6_feed_104 rfl ?_
                refine r_dup C dX6_feed_105 rfl ?_
                refine r_get C dX6_feed_106 fgRX6_156 (Nat.le_of_ble_eq_true rfl) (ws_ne (Nat.ne_of_beq_eq_false rfl) ws_eq) rfl ?_
                refine r_iconst C dX6_feed_109 (v := 1) (by decide) ?_
                refine r_iadd C dX6_feed_110 ?_
                refine r_top (y := nI (zs.length + 1)) (nI_add zs.length 1) ?_
                refine r_put C dX6_feed_111 fpRX6_156 (Nat.le_of_ble_eq_true rfl) (ws_ne (Nat.ne_of_beq_eq_false rfl) ws_eq) rfl rfl (Nat.le_of_ble_eq_true rfl) (fs' := [.int 0, .int (nI (zs.length + 1)), .ref 36, .int (nI rs.length), .ref 37, .int rv, .int (nI ln), .int pm, .int lo, .ref 38, .ref 39, .int (nI nb.length), .ref 40, .int (nI op.length), .ref 41, .int (nI up.length), .ref 42, .int ik, .ref 43, .int (nI (([] : List Nat).length)), .ref 44, .ref 45, .ref 46, .ref 47, .ref 48, .ref 49, .int (nI hl.length), .ref 50, .ref 51, .ref 52, .ref 53, .ref 54, .ref 55, .ref 56, .ref 57, .ref 58]) rfl ?_
                refine r_eq rfl rfl ((ws_comm (Nat.ne_of_beq_eq_false rfl)).trans (congrArg (fun z => wset z 36 (ia 16384 (upd f1 zs.length (nI (byj p3 (3 - k % 4)))))) ws_same)) ?_
                refine r_eq rfl rfl (show _ = _ from by rw [show nI (zs.length + 1) = nI (zs ++ [(f20 p1 p2 p3 p4 p5).getD k 0]).length from congrArg nI (len_push _ _).symm]) ?_
                refine r_iinc C dX6_feed_114 (v := nI (k + 1)) (L' := [some (.ref 35), some (.int p1), some (.int p2), some (.int p3), some (.int p4), some (.int p5), some (.int (nI (k + 1))), some (.int p3)]) rfl (nI_add k 1) (by decide) rfl ?_
                refine r_goto C 23 dX6_feed_117 (by decide) ?_
                refine r_forget [some (.ref 35), some (.int p1), some (.int p2), some (.int p3), some (.int p4), some (.int p5), some (.int (nI (k + 1))), none] ⟨Or.inr rfl, Or.inr rfl, Or.inr rfl, Or.inr rfl, Or.inr rfl, Or.inr rfl, Or.inr rfl, Or.inl rfl, trivial⟩ ?_
                exact ih_23 (k + 1) _ _ (by omega) (by omega) (by rw [hz, take_push (by rw [f20_len]; omega), List.append_assoc]) (hs_push hf1 (by rw [f20_at _ _ _ _ _ k (by omega), if_neg (show ¬ k < 4 by omega), if_neg (show ¬ k < 8 by omega), if_pos (show k < 12 by omega)]))
            · skip
              have c_44 : ¬ (8 ≤ k) := fun h9 => c_44 ((nI_leI (a := 8) (b := k) (by omega) (by omega)).mpr h9)
              refine r_iload_n C dX6_feed_47 rfl ?_
              refine r_goto C 76 dX6_feed_48 (by decide) ?_
              refine r_istore C dX6_feed_76 (L' := [some (.ref 35), some (.int p1), some (.int p2), some (.int p3), some (.int p4), some (.int p5), some (.int (nI k)), some (.int p2)]) (by decide) rfl ?_
              refine r_aload_n C dX6_feed_78 rfl ?_
              refine r_get C dX6_feed_79 fgRX6_7 (Nat.le_of_ble_eq_true rfl) (ws_ne (Nat.ne_of_beq_eq_false rfl) ws_eq) rfl ?_
              refine r_aload_n C dX6_feed_82 rfl ?_
              refine r_get C dX6_feed_83 fgRX6_156 (Nat.le_of_ble_eq_true rfl) (ws_ne (Nat.ne_of_beq_eq_false rfl) ws_eq) rfl ?_
              refine r_iload C dX6_feed_86 rfl ?_
              refine r_bipush C dX6_feed_88 (v := 24) (by decide) ?_
              refine r_bipush C dX6_feed_90 (v := 8) (by decide) ?_
              refine r_iload C dX6_feed_92 rfl ?_
              refine r_iconst C dX6_feed_94 (v := 4) (by decide) ?_
              refine r_irem C dX6_feed_95 (by decide) ?_
              refine r_top (y := nI (k % 4)) (pk_rem (a := k) (d := 4) (by omega) (by omega) (by omega)) ?_
              refine r_imul C dX6_feed_96 ?_
              refine r_top (y := nI (8 * (k % 4))) (pk_mul 8 (k % 4)) ?_
              refine r_isub C dX6_feed_97 ?_
              refine r_top (y := nI (24 - (8 * (k % 4)))) (pk_sub (a := 24) (b := 8 * (k % 4)) (by omega)) ?_
              refine r_ishr C dX6_feed_98 ?_
              refine r_sipush C dX6_feed_99 (v := 255) (by decide) ?_
              refine r_iand C dX6_feed_102 ?_
              refine r_top (y := nI (byj p2 (3 - k % 4))) ((by rw [show 24 - (8 * (k % 4)) = 8 * (3 - k % 4) by omega]; exact shr_and _ (by omega))) ?_
              refine r_iastN C dX6_feed_103 (Nat.le_of_ble_eq_true rfl) ws_eq (j := zs.length) rfl (by omega) (by decide) ?_
              refine r_eq rfl rfl ws_same ?_
              refine r_aload_n C dX6_feed_104 rfl ?_
              refine r_dup C dX6_feed_105 rfl ?_
              refine r_get C dX6_feed_106 fgRX6_156 (Nat.le_of_ble_eq_true rfl) (ws_ne (Nat.ne_of_beq_eq_false rfl) ws_eq) rfl ?_
              refine r_iconst C dX6_feed_109 (v := 1) (by decide) ?_
              refine r_iadd C dX6_feed_110 ?_
              refine r_top (y := nI (zs.length + 1)) (nI_add zs.length 1) ?_
              refine r_put C dX6_feed_111 fpRX6_156 (Nat.le_of_ble_eq_true rfl) (ws_ne (Nat.ne_of_beq_eq_false rfl) ws_eq) rfl rfl (Nat.le_of_ble_eq_true rfl) (fs' := [.int 0, .int (nI (zs.length + 1)), .ref 36, .int (nI rs.length), .ref 37, .int rv, .int (nI ln), .int pm, .int lo, .ref 38, .ref 39, .int (nI nb.length), .ref 40, .int (nI op.length), .ref 41, .int (nI up.length), .ref 42, .int ik, .ref 43, .int (nI (([] : List Nat).length)), .ref 44, .ref 45, .ref 46, .ref 47, .ref 48, .ref 49, .int (nI hl.length), .ref 50, .ref 51, .ref 52, .ref 53, .ref 54, .ref 55, .ref 56, .ref 57, .ref 58]) rfl ?_
              refine r_eq rfl rfl ((ws_comm (Nat.ne_of_beq_eq_false rfl)).trans (congrArg (fun z => wset z 36 (ia 16384 (upd f1 zs.length (nI (byj p2 (3 - k % 4)))))) ws_same)) ?_
              refine r_eq rfl rfl (show _ = _ from by rw [show nI (zs.length + 1) = nI (zs ++ [(f20 p1 p2 p3 p4 p5).getD k 0]).length from congrArg nI (len_push _ _).symm]) ?_
              refine r_iinc C dX6_feed_114 (v := nI (k + 1)) (L' := [some (.ref 35), some (.int p1), some (.int p2), some (.int p3), some (.int p4), some (.int p5), some (.int (nI (k + 1))), some (.int p2)]) rfl (nI_add k 1) (by decide) rfl ?_
              refine r_goto C 23 dX6_feed_117 (by decide) ?_
              refine r_forget [some (.ref 35), some (.int p1), some (.int p2), some (.int p3), some (.int p4), some (.int p5), some (.int (nI (k + 1))), none] ⟨Or.inr rfl, Or.inr rfl, Or.inr rfl, Or.inr rfl, Or.inr rfl, Or.inr rfl, Or.inr rfl, Or.inl rfl, trivial⟩ ?_
              exact ih_23 (k + 1) _ _ (by omega) (by omega) (by rw [hz, take_push (by rw [f20_len]; omega), List.append_assoc]) (hs_push hf1 (by rw [f20_at _ _ _ _ _ k (by omega), if_neg (show ¬ k < 4 by omega), if_pos (show k < 8 by omega)]))
          · skip
            have c_33 : ¬ (4 ≤ k) := fun h9 => c_33 ((nI_leI (a := 4) (b := k) (by omega) (by omega)).mpr h9)
            refine r_iload_n C dX6_feed_36 rfl ?_
            refine r_goto C 76 dX6_feed_37 (by decide) ?_
            refine r_istore C dX6_feed_76 (L' := [some (.ref 35), some (.int p1), some (.int p2), some (.int p3), some (.int p4), some (.int p5), some (.int (nI k)), some (.int p1)]) (by decide) rfl ?_
            refine r_aload_n C dX6_feed_78 rfl ?_
            refine r_get C dX6_feed_79 fgRX6_7 (Nat.le_of_ble_eq_true rfl) (ws_ne (Nat.ne_of_beq_eq_false rfl) ws_eq) rfl ?_
            refine r_aload_n C dX6_feed_82 rfl ?_
            refine r_get C dX6_feed_83 fgRX6_156 (Nat.le_of_ble_eq_true rfl) (ws_ne (Nat.ne_of_beq_eq_false rfl) ws_eq) rfl ?_
            refine r_iload C dX6_feed_86 rfl ?_
            refine r_bipush C dX6_feed_88 (v := 24) (by decide) ?_
            refine r_bipush C dX6_feed_90 (v := 8) (by decide) ?_
            refine r_iload C dX6_feed_92 rfl ?_
            refine r_iconst C dX6_feed_94 (v := 4) (by decide) ?_
            refine r_irem C dX6_feed_95 (by decide) ?_
            refine r_top (y := nI (k % 4)) (pk_rem (a := k) (d := 4) (by omega) (by omega) (by omega)) ?_
            refine r_imul C dX6_feed_96 ?_
            refine r_top (y := nI (8 * (k % 4))) (pk_mul 8 (k % 4)) ?_
            refine r_isub C dX6_feed_97 ?_
            refine r_top (y := nI (24 - (8 * (k % 4)))) (pk_sub (a := 24) (b := 8 * (k % 4)) (by omega)) ?_
            refine r_ishr C dX6_feed_98 ?_
            refine r_sipush C dX6_feed_99 (v := 255) (by decide) ?_
            refine r_iand C dX6_feed_102 ?_
            refine r_top (y := nI (byj p1 (3 - k % 4))) ((by rw [show 24 - (8 * (k % 4)) = 8 * (3 - k % 4) by omega]; exact shr_and _ (by omega))) ?_
            refine r_iastN C dX6_feed_103 (Nat.le_of_ble_eq_true rfl) ws_eq (j := zs.length) rfl (by omega) (by decide) ?_
            refine r_eq rfl rfl ws_same ?_
            refine r_aload_n C dX6_feed_104 rfl ?_
            refine r_dup C dX6_feed_105 rfl ?_
            refine r_get C dX6_feed_106 fgRX6_156 (Nat.le_of_ble_eq_true rfl) (ws_ne (Nat.ne_of_beq_eq_false rfl) ws_eq) rfl ?_
            refine r_iconst C dX6_feed_109 (v := 1) (by decide) ?_
            refine r_iadd C dX6_feed_110 ?_
            refine r_top (y := nI (zs.length + 1)) (nI_add zs.length 1) ?_
            refine r_put C dX6_feed_111 fpRX6_156 (Nat.le_of_ble_eq_true rfl) (ws_ne (Nat.ne_of_beq_eq_false rfl) ws_eq) rfl rfl (Nat.le_of_ble_eq_true rfl) (fs' := [.int 0, .int (nI (zs.length + 1)), .ref 36, .int (nI rs.length), .ref 37, .int rv, .int (nI ln), .int pm, .int lo, .ref 38, .ref 39, .int (nI nb.length), .ref 40, .int (nI op.length), .ref 41, .int (nI up.length), .ref 42, .int ik, .ref 43, .int (nI (([] : List Nat).length)), .ref 44, .ref 45, .ref 46, .ref 47, .ref 48, .ref 49, .int (nI hl.length), .ref 50, .ref 51, .ref 52, .ref 53, .ref 54, .ref 55, .ref 56, .ref 57, .ref 58]) rfl ?_
            refine r_eq rfl rfl ((ws_comm (Nat.ne_of_beq_eq_false rfl)).trans (congrArg (fun z => wset z 36 (ia 16384 (upd f1 zs.length (nI (byj p1 (3 - k % 4)))))) ws_same)) ?_
            refine r_eq rfl rfl (show _ = _ from by rw [show nI (zs.length + 1) = nI (zs ++ [(f20 p1 p2 p3 p4 p5).getD k 0]).length from congrArg nI (len_push _ _).symm]) ?_
            refine r_iinc C dX6_feed_114 (v := nI (k + 1)) (L' := [some (.ref 35), some (.int p1), some (.int p2), some (.int p3), some (.int p4), some (.int p5), some (.int (nI (k + 1))), some (.int p1)]) rfl (nI_add k 1) (by decide) rfl ?_
            refine r_goto C 23 dX6_feed_117 (by decide) ?_
            refine r_forget [some (.ref 35), some (.int p1), some (.int p2), some (.int p3), some (.int p4), some (.int p5), some (.int (nI (k + 1))), none] ⟨Or.inr rfl, Or.inr rfl, Or.inr rfl, Or.inr rfl, Or.inr rfl, Or.inr rfl, Or.inr rfl, Or.inl rfl, trivial⟩ ?_
            exact ih_23 (k + 1) _ _ (by omega) (by omega) (by rw [hz, take_push (by rw [f20_len]; omega), List.append_assoc]) (hs_push hf1 (by rw [f20_at _ _ _ _ _ k (by omega), if_pos (show k < 4 by omega)]))
    refine r_eq rfl rfl (ws_self (ws_ne (Nat.ne_of_beq_eq_false rfl) w_36)).symm ?_
    exact loop_23 _ 0 _ _ (Nat.lt_succ_self _) (by omega) (by simp) h_xs
  · skip
    have c_15 : ¬ ((xs.length + 20) ≤ 16384) := fun h9 => c_15 ((nI_leI (a := xs.length + 20) (b := 16384) (by omega) (by omega)).mpr h9)
    refine r_iconst C dX6_feed_18 (v := (-1)) (by decide) ?_
    exact r_ireturn C T_ rfl rfl dX6_feed_19 (⟨_, rfl, by rw [show fedd xs p1 p2 p3 p4 p5 = xs from if_neg (by omega)]; exact MW_mk ws_eq (ws_ne (Nat.ne_of_beq_eq_false rfl) w_36) h_xs (by first | omega | (simp only [List.length_append, List.length_nil, List.length_cons, List.length_take, List.length_replicate, List.length_range, List.length_map, lof_len, pad_len, padd_len, md5_len, strm_len, strms_len, entOf_len, hif_len] <;> omega)) (ws_ne (Nat.ne_of_beq_eq_false rfl) w_37) h_rs (by first | omega | (simp only [List.length_append, List.length_nil, List.length_cons, List.length_take, List.length_replicate, List.length_range, List.length_map, lof_len, pad_len, padd_len, md5_len, strm_len, strms_len, entOf_len, hif_len] <;> omega)) (ws_ne (Nat.ne_of_beq_eq_false rfl) w_38) h_ow (by first | omega | (simp only [List.length_append, List.length_nil, List.length_cons, List.length_take, List.length_replicate, List.length_range, List.length_map, lof_len, pad_len, padd_len, md5_len, strm_len, strms_len, entOf_len, hif_len] <;> omega)) (ws_ne (Nat.ne_of_beq_eq_false rfl) w_39) h_us (by first | omega | (simp only [List.length_append, List.length_nil, List.length_cons, List.length_take, List.length_replicate, List.length_range, List.length_map, lof_len, pad_len, padd_len, md5_len, strm_len, strms_len, entOf_len, hif_len] <;> omega)) (ws_ne (Nat.ne_of_beq_eq_false rfl) w_40) h_nb (by first | omega | (simp only [List.length_append, List.length_nil, List.length_cons, List.length_take, List.length_replicate, List.length_range, List.length_map, lof_len, pad_len, padd_len, md5_len, strm_len, strms_len, entOf_len, hif_len] <;> omega)) (ws_ne (Nat.ne_of_beq_eq_false rfl) w_41) h_op (by first | omega | (simp only [List.length_append, List.length_nil, List.length_cons, List.length_take, List.length_replicate, List.length_range, List.length_map, lof_len, pad_len, padd_len, md5_len, strm_len, strms_len, entOf_len, hif_len] <;> omega)) (ws_ne (Nat.ne_of_beq_eq_false rfl) w_42) h_up (by first | omega | (simp only [List.length_append, List.length_nil, List.length_cons, List.length_take, List.length_replicate, List.length_range, List.length_map, lof_len, pad_len, padd_len, md5_len, strm_len, strms_len, entOf_len, hif_len] <;> omega)) (ws_ne (Nat.ne_of_beq_eq_false rfl) w_43) h_kn (by first | omega | (simp only [List.length_append, List.length_nil, List.length_cons, List.length_take, List.length_replicate, List.length_range, List.length_map, lof_len, pad_len, padd_len, md5_len, strm_len, strms_len, entOf_len, hif_len] <;> omega)) (ws_ne (Nat.ne_of_beq_eq_false rfl) w_50) h_hl (by first | omega | (simp only [List.length_append, List.length_nil, List.length_cons, List.length_take, List.length_replicate, List.length_range, List.length_map, lof_len, pad_len, padd_len, md5_len, strm_len, strms_len, entOf_len, hif_len] <;> omega)) (ws_ne (Nat.ne_of_beq_eq_false rfl) w_44) (ws_ne (Nat.ne_of_beq_eq_false rfl) w_45) (ws_ne (Nat.ne_of_beq_eq_false rfl) w_46) (ws_ne (Nat.ne_of_beq_eq_false rfl) w_47) hsn (ws_ne (Nat.ne_of_beq_eq_false rfl) w_48) htn (ws_ne (Nat.ne_of_beq_eq_false rfl) w_49) hpd (ws_ne (Nat.ne_of_beq_eq_false rfl) w_51) (ws_ne (Nat.ne_of_beq_eq_false rfl) w_52) (ws_ne (Nat.ne_of_beq_eq_false rfl) w_53) (ws_ne (Nat.ne_of_beq_eq_false rfl) w_54) (ws_ne (Nat.ne_of_beq_eq_false rfl) w_55) (ws_ne (Nat.ne_of_beq_eq_false rfl) w_56) (ws_ne (Nat.ne_of_beq_eq_false rfl) w_57) (ws_ne (Nat.ne_of_beq_eq_false rfl) w_58) hik, (frm_set (Nat.le_of_ble_eq_true rfl) (Nat.le_of_ble_eq_true rfl) (frm_rf _)), by rw [if_neg (by omega)]⟩)
