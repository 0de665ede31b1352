abbrev mX5_cut : Mi := (yX5_cut, cX5_cut, 3, (some .int), 1, { frames := 6, cells := 1, slots := 6, locals := 90 })
theorem okX5_cut : MiOkX mX5_cut := ⟨by decide +kernel, mem_tb 479 (by decide +kernel) rfl, mem_tb 52 (by decide +kernel) rfl, by decide +kernel, rfl, rfl⟩
theorem imX5_cut : Cond.instanceMethod yX5_cut ∈ tb_ := mem_tb 477 (by decide +kernel) rfl
theorem seX5_cut : Cond.selects RX5 yX5_cut yX5_cut ∈ tb_ := mem_tb 478 (by decide +kernel) rfl
abbrev mX5_enter : Mi := (yX5_enter, cX5_enter, 2, none, 1, { frames := 6, cells := 1, slots := 6, locals := 117 })
theorem okX5_enter : MiOkX mX5_enter := ⟨by decide +kernel, mem_tb 527 (by decide +kernel) rfl, mem_tb 52 (by decide +kernel) rfl, by decide +kernel, rfl, rfl⟩
theorem imX5_enter : Cond.instanceMethod yX5_enter ∈ tb_ := mem_tb 525 (by decide +kernel) rfl
theorem seX5_enter : Cond.selects RX5 yX5_enter yX5_enter ∈ tb_ := mem_tb 526 (by decide +kernel) rfl
abbrev mX5_handler : Mi := (yX5_handler, cX5_handler, 5, none, 4, { frames := 6, cells := 1, slots := 6, locals := 90 })
theorem okX5_handler : MiOkX mX5_handler := ⟨by decide +kernel, mem_tb 488 (by decide +kernel) rfl, mem_tb 52 (by decide +kernel) rfl, by decide +kernel, rfl, rfl⟩
theorem imX5_handler : Cond.instanceMethod yX5_handler ∈ tb_ := mem_tb 486 (by decide +kernel) rfl
theorem seX5_handler : Cond.selects RX5 yX5_handler yX5_handler ∈ tb_ := mem_tb 487 (by decide +kernel) rfl
abbrev mX5_put : Mi := (yX5_put, cX5_put, 4, (some .int), 2, { frames := 6, cells := 1, slots := 6, locals := 90 })
theorem okX5_put : MiOkX mX5_put := ⟨by decide +kernel, mem_tb 388 (by decide +kernel) rfl, mem_tb 52 (by decide +kernel) rfl, by decide +kernel, rfl, rfl⟩
theorem imX5_put : Cond.instanceMethod yX5_put ∈ tb_ := mem_tb 386 (by decide +kernel) rfl
theorem seX5_put : Cond.selects RX5 yX5_put yX5_put ∈ tb_ := mem_tb 387 (by decide +kernel) rfl
abbrev mX5_seal : Mi := (yX5_seal, cX5_seal, 6, (some .int), 5, { frames := 6, cells := 1, slots := 6, locals := 133 })
theorem okX5_seal : MiOkX mX5_seal := ⟨by decide +kernel, mem_tb 623 (by decide +kernel) rfl, mem_tb 52 (by decide +kernel) rfl, by decide +kernel, rfl, rfl⟩
theorem imX5_seal : Cond.instanceMethod yX5_seal ∈ tb_ := mem_tb 621 (by decide +kernel) rfl
theorem seX5_seal : Cond.selects RX5 yX5_seal yX5_seal ∈ tb_ := mem_tb 622 (by decide +kernel) rfl
abbrev mX5_take : Mi := (yX5_take, cX5_take, 4, (some .int), 1, { frames := 6, cells := 1, slots := 6, locals := 90 })
theorem okX5_take : MiOkX mX5_take := ⟨by decide +kernel, mem_tb 499 (by decide +kernel) rfl, mem_tb 52 (by decide +kernel) rfl, by decide +kernel, rfl, rfl⟩
theorem imX5_take : Cond.instanceMethod yX5_take ∈ tb_ := mem_tb 497 (by decide +kernel) rfl
theorem seX5_take : Cond.selects RX5 yX5_take yX5_take ∈ tb_ := mem_tb 498 (by decide +kernel) rfl
abbrev mX5_undo : Mi := (yX5_undo, cX5_undo, 4, (some .int), 3, { frames := 6, cells := 1, slots := 6, locals := 138 })
theorem okX5_undo : MiOkX mX5_undo := ⟨by decide +kernel, mem_tb 543 (by decide +kernel) rfl, mem_tb 52 (by decide +kernel) rfl, by decide +kernel, rfl, rfl⟩
theorem imX5_undo : Cond.instanceMethod yX5_undo ∈ tb_ := mem_tb 541 (by decide +kernel) rfl
theorem seX5_undo : Cond.selects RX5 yX5_undo yX5_undo ∈ tb_ := mem_tb 542 (by decide +kernel) rfl
theorem CW_0 {w : Wo} {xs : List Nat} {rs : List Nat} {rv : Int32} {ln : Nat} {pm : Int32} {lo : Int32} {ow : List Nat} {us : List Nat} {nb : List Nat} {op : List Nat} {up : List Nat} {kn : List Nat} (cw : CW (xs, rs, rv, ln, pm, lo, ow, us, nb, op, up, kn) w) : w 0 = ob 5 [.ref 1, .ref 3, .ref 5] := CW_open cw (fun _ _ _ _ _ _ _ _ _ _ _ _ _ _ _ _ _ _ _ _ _ _ _ _ _ _ w_0 _ _ _ _ _ _ _ _ _ _ _ _ _ _ _ _ _ _ _ _ _ _ _ _ _ _ _ _ _ _ _ _ _ _ _ _ _ _ _ _ _ _ _ _ _ _ _ _ _ _ _ _ _ _ _ _ _ _ _ => w_0)
theorem CW_5 {w : Wo} {xs : List Nat} {rs : List Nat} {rv : Int32} {ln : Nat} {pm : Int32} {lo : Int32} {ow : List Nat} {us : List Nat} {nb : List Nat} {op : List Nat} {up : List Nat} {kn : List Nat} (cw : CW (xs, rs, rv, ln, pm, lo, ow, us, nb, op, up, kn) w) : w 5 = ob 1 [.int rv, .int (nI ln), .int pm, .int lo, .ref 6, .ref 8, .ref 10, .ref 12, .ref 14, .ref 16, .ref 18, .ref 20, .ref 22, .ref 27, .ref 29, .ref 31, .ref 33] := CW_open cw (fun _ _ _ _ _ _ _ _ _ _ _ _ _ _ _ _ _ _ _ _ _ _ _ _ _ _ _ w_5 _ _ _ _ _ _ _ _ _ _ _ _ _ _ _ _ _ _ _ _ _ _ _ _ _ _ _ _ _ _ _ _ _ _ _ _ _ _ _ _ _ _ _ _ _ _ _ _ _ _ _ _ _ _ _ _ _ _ => w_5)
theorem CW_1 {w : Wo} {xs : List Nat} {rs : List Nat} {rv : Int32} {ln : Nat} {pm : Int32} {lo : Int32} {ow : List Nat} {us : List Nat} {nb : List Nat} {op : List Nat} {up : List Nat} {kn : List Nat} (cw : CW (xs, rs, rv, ln, pm, lo, ow, us, nb, op, up, kn) w) : w 1 = ob 3 [.ref 2, .int (nI xs.length)] := CW_open cw (fun _ _ _ _ _ _ _ _ _ _ _ _ _ _ _ _ _ _ _ _ _ _ _ _ _ _ _ _ w_1 _ _ _ _ _ _ _ _ _ _ _ _ _ _ _ _ _ _ _ _ _ _ _ _ _ _ _ _ _ _ _ _ _ _ _ _ _ _ _ _ _ _ _ _ _ _ _ _ _ _ _ _ _ _ _ _ _ => w_1)
theorem CW_3 {w : Wo} {xs : List Nat} {rs : List Nat} {rv : Int32} {ln : Nat} {pm : Int32} {lo : Int32} {ow : List Nat} {us : List Nat} {nb : List Nat} {op : List Nat} {up : List Nat} {kn : List Nat} (cw : CW (xs, rs, rv, ln, pm, lo, ow, us, nb, op, up, kn) w) : w 3 = ob 3 [.ref 4, .int (nI rs.length)] := CW_open cw (fun _ _ _ _ _ _ _ _ _ _ _ _ _ _ _ _ _ _ _ _ _ _ _ _ _ _ _ _ _ _ _ _ w_3 _ _ _ _ _ _ _ _ _ _ _ _ _ _ _ _ _ _ _ _ _ _ _ _ _ _ _ _ _ _ _ _ _ _ _ _ _ _ _ _ _ _ _ _ _ _ _ _ _ _ _ _ _ => w_3)
theorem CW_16 {w : Wo} {xs : List Nat} {rs : List Nat} {rv : Int32} {ln : Nat} {pm : Int32} {lo : Int32} {ow : List Nat} {us : List Nat} {nb : List Nat} {op : List Nat} {up : List Nat} {kn : List Nat} (cw : CW (xs, rs, rv, ln, pm, lo, ow, us, nb, op, up, kn) w) : w 16 = ob 3 [.ref 17, .int (nI kn.length)] := CW_open cw (fun _ _ _ _ _ _ _ _ _ _ _ _ _ _ _ _ _ _ _ _ _ _ _ _ _ _ _ _ _ _ _ _ _ _ _ _ _ _ _ _ _ _ _ _ _ _ _ _ _ _ _ _ _ _ _ _ w_16 _ _ _ _ _ _ _ _ _ _ _ _ _ _ _ _ _ _ _ _ _ _ _ _ _ _ _ _ _ => w_16)
theorem Ctr_mono {q : Mi} {as : List Value} {w : Wo} {po po' : Option Value → Wo → Prop} (h : Ctr q as w po) (hp : ∀ r w', po r w' → po' r w') : Ctr q as w po' := fun l g sz p e ha hc hk s m args below hf => by
  have h1 := h l g sz p e ha hc hk s m args below hf
  intro ho hP hT
  obtain ⟨k, o, a1, a2, a3, ⟨⟨r, w', b1, b2, b3⟩, b4⟩, a5⟩ := h1 ho hP hT
  exact ⟨k, o, a1, a2, a3, ⟨⟨r, w', b1, hp r w' b2, b3⟩, b4⟩, a5⟩
theorem cX3_clearK9 {w : Wo} {xs rs : List Nat} {rv : Int32} {ln : Nat} {pm lo : Int32} {ow us nb op up kn : List Nat} (cw : CW (xs, rs, rv, ln, pm, lo, ow, us, nb, op, up, kn) w) (ps : PSok (xs, rs, rv, ln, pm, lo, ow, us, nb, op, up, kn)) : Ctr mX3_clear [.ref 16] w (PV fun w' => CW (xs, rs, rv, ln, pm, lo, ow, us, nb, op, up, []) w' ∧ fr w w') := by
  refine CW_open cw (fun f2 f4 f7 f9 f11 f13 f15 f17 f28 f30 f32 f34 gl tl ml ul sA sB sC sD fw ftb SB K B fe w_0 w_5 w_1 w_2 h_xs k_xs w_3 w_4 h_rs k_rs w_6 w_7 h_ow k_ow w_8 w_9 h_us k_us w_10 w_11 h_nb k_nb w_12 w_13 h_op k_op w_14 w_15 h_up k_up w_16 w_17 h_kn k_kn w_27 w_28 h_gl k_gl w_29 w_30 h_tl k_tl w_31 w_32 h_ml k_ml w_33 w_34 h_ul k_ul w_18 w_19 w_20 w_21 w_22 w_23 hsb w_24 w_25 w_26 => ?_)
  obtain ⟨bx, br, bo, bu, bn, bp, bq, bk9, lo9, lu9, hkn, hrv, hln, hlo⟩ := ps
  refine Ctr_mono (cX3_clear9 (Nat.le_of_ble_eq_true rfl) (Nat.le_of_ble_eq_true rfl) (Nat.ne_of_beq_eq_false rfl) w_16 w_17 h_kn (by first | omega | (simp only [List.length_append, List.length_nil, List.length_cons, List.length_take, List.length_replicate, List.length_range, List.length_map, lof_len, pad_len, padd_len, md5_len, strm_len, strms_len, entOf_len, hif_len] <;> omega)) (by decide)) (fun r w9 h9 => ?_)
  obtain ⟨h9, rfl⟩ := h9
  exact ⟨h9, CW_mk (ws_ne (Nat.ne_of_beq_eq_false rfl) w_0) (ws_ne (Nat.ne_of_beq_eq_false rfl) w_5) (ws_ne (Nat.ne_of_beq_eq_false rfl) w_1) (ws_ne (Nat.ne_of_beq_eq_false rfl) w_2) h_xs (by first | omega | (simp only [List.length_append, List.length_nil, List.length_cons, List.length_take, List.length_replicate, List.length_range, List.length_map, lof_len, pad_len, padd_len, md5_len, strm_len, strms_len, entOf_len, hif_len] <;> omega)) (ws_ne (Nat.ne_of_beq_eq_false rfl) w_3) (ws_ne (Nat.ne_of_beq_eq_false rfl) w_4) h_rs (by first | omega | (simp only [List.length_append, List.length_nil, List.length_cons, List.length_take, List.length_replicate, List.length_range, List.length_map, lof_len, pad_len, padd_len, md5_len, strm_len, strms_len, entOf_len, hif_len] <;> omega)) (ws_ne (Nat.ne_of_beq_eq_false rfl) w_6) (ws_ne (Nat.ne_of_beq_eq_false rfl) w_7) h_ow (by first | omega | (simp only [List.length_append, List.length_nil, List.length_cons, List.length_take, List.length_replicate, List.length_range, List.length_map, lof_len, pad_len, padd_len, md5_len, strm_len, strms_len, entOf_len, hif_len] <;> omega)) (ws_ne (Nat.ne_of_beq_eq_false rfl) w_8) (ws_ne (Nat.ne_of_beq_eq_false rfl) w_9) h_us (by first | omega | (simp only [List.length_append, List.length_nil, List.length_cons, List.length_take, List.length_replicate, List.length_range, List.length_map, lof_len, pad_len, padd_len, md5_len, strm_len, strms_len, entOf_len, hif_len] <;> omega)) (ws_ne (Nat.ne_of_beq_eq_false rfl) w_10) (ws_ne (Nat.ne_of_beq_eq_false rfl) w_11) h_nb (by first | omega | (simp only [List.length_append, List.length_nil, List.length_cons, List.length_take, List.length_replicate, List.length_range, List.length_map, lof_len, pad_len, padd_len, md5_len, strm_len, strms_len, entOf_len, hif_len] <;> omega)) (ws_ne (Nat.ne_of_beq_eq_false rfl) w_12) (ws_ne (Nat.ne_of_beq_eq_false rfl) w_13) h_op (by first | omega | (simp only [List.length_append, List.length_nil, List.length_cons, List.length_take, List.length_replicate, List.length_range, List.length_map, lof_len, pad_len, padd_len, md5_len, strm_len, strms_len, entOf_len, hif_len] <;> omega)) (ws_ne (Nat.ne_of_beq_eq_false rfl) w_14) (ws_ne (Nat.ne_of_beq_eq_false rfl) w_15) h_up (by first | omega | (simp only [List.length_append, List.length_nil, List.length_cons, List.length_take, List.length_replicate, List.length_range, List.length_map, lof_len, pad_len, padd_len, md5_len, strm_len, strms_len, entOf_len, hif_len] <;> omega)) ws_eq (ws_ne (Nat.ne_of_beq_eq_false rfl) w_17) (hs_nil _) (by first | omega | (simp only [List.length_append, List.length_nil, List.length_cons, List.length_take, List.length_replicate, List.length_range, List.length_map, lof_len, pad_len, padd_len, md5_len, strm_len, strms_len, entOf_len, hif_len] <;> omega)) (ws_ne (Nat.ne_of_beq_eq_false rfl) w_27) (ws_ne (Nat.ne_of_beq_eq_false rfl) w_28) h_gl (by first | omega | (simp only [List.length_append, List.length_nil, List.length_cons, List.length_take, List.length_replicate, List.length_range, List.length_map, lof_len, pad_len, padd_len, md5_len, strm_len, strms_len, entOf_len, hif_len] <;> omega)) (ws_ne (Nat.ne_of_beq_eq_false rfl) w_29) (ws_ne (Nat.ne_of_beq_eq_false rfl) w_30) h_tl (by first | omega | (simp only [List.length_append, List.length_nil, List.length_cons, List.length_take, List.length_replicate, List.length_range, List.length_map, lof_len, pad_len, padd_len, md5_len, strm_len, strms_len, entOf_len, hif_len] <;> omega)) (ws_ne (Nat.ne_of_beq_eq_false rfl) w_31) (ws_ne (Nat.ne_of_beq_eq_false rfl) w_32) h_ml (by first | omega | (simp only [List.length_append, List.length_nil, List.length_cons, List.length_take, List.length_replicate, List.length_range, List.length_map, lof_len, pad_len, padd_len, md5_len, strm_len, strms_len, entOf_len, hif_len] <;> omega)) (ws_ne (Nat.ne_of_beq_eq_false rfl) w_33) (ws_ne (Nat.ne_of_beq_eq_false rfl) w_34) h_ul (by first | omega | (simp only [List.length_append, List.length_nil, List.length_cons, List.length_take, List.length_replicate, List.length_range, List.length_map, lof_len, pad_len, padd_len, md5_len, strm_len, strms_len, entOf_len, hif_len] <;> omega)) (ws_ne (Nat.ne_of_beq_eq_false rfl) w_18) (ws_ne (Nat.ne_of_beq_eq_false rfl) w_19) (ws_ne (Nat.ne_of_beq_eq_false rfl) w_20) (ws_ne (Nat.ne_of_beq_eq_false rfl) w_21) (ws_ne (Nat.ne_of_beq_eq_false rfl) w_22) (ws_ne (Nat.ne_of_beq_eq_false rfl) w_23) hsb (ws_ne (Nat.ne_of_beq_eq_false rfl) w_24) (ws_ne (Nat.ne_of_beq_eq_false rfl) w_25) (ws_ne (Nat.ne_of_beq_eq_false rfl) w_26), (fr_set (Nat.le_of_ble_eq_true rfl) (fr_rf _))⟩
set_option maxHeartbeats 4000000 in
set_option maxRecDepth 100000 in
theorem cX5_put9 {w : Wo} {xs rs : List Nat} {rv : Int32} {ln : Nat} {pm lo : Int32} {ow us nb op up kn : List Nat} (cw : CW (xs, rs, rv, ln, pm, lo, ow, us, nb, op, up, kn) w) (ps : PSok (xs, rs, rv, ln, pm, lo, ow, us, nb, op, up, kn)) {p1 p2 : Int32} : Xtr mX5_put [.ref 0, .int p1, .int p2] w (PI fun r w' => (putO xs p1 p2).1 = 0 ∧ CW ((putO xs p1 p2).2.2, rs, rv, ln, pm, lo, ow, us, nb, op, up, kn) w' ∧ fr w w' ∧ r = (putO xs p1 p2).2.1) (fun E w' => w' = w ∧ ((E = "java/lang/IndexOutOfBoundsException" ∧ (putO xs p1 p2).1 = 1) ∨ (E = "java/lang/IllegalArgumentException" ∧ (putO xs p1 p2).1 = 2))) := by
  refine Xtr_intro okX5_put rfl (Nat.le_of_ble_eq_true rfl) (L := [some (.ref 0), some (.int p1), some (.int p2), none]) rfl (fun g ct C T_ NT => ?_)
  refine CW_open cw (fun f2 f4 f7 f9 f11 f13 f15 f17 f28 f30 f32 f34 gl tl ml ul sA sB sC sD fw ftb SB K B fe w_0 w_5 w_1 w_2 h_xs k_xs w_3 w_4 h_rs k_rs w_6 w_7 h_ow k_ow w_8 w_9 h_us k_us w_10 w_11 h_nb k_nb w_12 w_13 h_op k_op w_14 w_15 h_up k_up w_16 w_17 h_kn k_kn w_27 w_28 h_gl k_gl w_29 w_30 h_tl k_tl w_31 w_32 h_ml k_ml w_33 w_34 h_ul k_ul w_18 w_19 w_20 w_21 w_22 w_23 hsb w_24 w_25 w_26 => ?_)
  obtain ⟨bx, br, bo, bu, bn, bp, bq, bk9, lo9, lu9, hkn, hrv, hln, hlo⟩ := ps
  refine r_iload_n C dX5_put_0 rfl ?_
  refine r_if_lt C 15 dX5_put_1 (by decide) (fun c_1 => ?_) (fun c_1 => ?_)
  · skip
    exact r_throwS C T_ NT dX5_put_15 dX5_put_18 dX5_put_19 dX5_put_21 dX5_put_24 exxI rfl (List.mem_of_getElem? (i := 0) rfl) (Nat.le_of_ble_eq_true rfl) (Nat.le_of_ble_eq_true rfl) (Nat.le_of_ble_eq_true rfl) (Nat.le_of_ble_eq_true rfl) (⟨rfl, Or.inl ⟨rfl, by unfold putO; rw [if_pos (by first | exact Or.inl c_1 | exact Or.inr c_12)]⟩⟩)
  · skip
    refine r_iload_n C dX5_put_4 rfl ?_
    refine r_aload_n C dX5_put_5 rfl ?_
    refine r_get C dX5_put_6 fgRX5_14 (Nat.le_of_ble_eq_true rfl) w_0 rfl ?_
    refine r_get C dX5_put_9 fgRX5_28 (Nat.le_of_ble_eq_true rfl) w_1 rfl ?_
    refine r_icmp_lt C 25 dX5_put_12 (by decide) (fun c_12 => ?_) (fun c_12 => ?_)
    · skip
      refine r_iload_n C dX5_put_25 rfl ?_
      refine r_if_lt C 36 dX5_put_26 (by decide) (fun c_26 => ?_) (fun c_26 => ?_)
      · skip
        exact r_throwS C T_ NT dX5_put_36 dX5_put_39 dX5_put_40 dX5_put_42 dX5_put_45 exxA rfl (List.mem_of_getElem? (i := 1) rfl) (Nat.le_of_ble_eq_true rfl) (Nat.le_of_ble_eq_true rfl) (Nat.le_of_ble_eq_true rfl) (Nat.le_of_ble_eq_true rfl) (⟨rfl, Or.inr (⟨rfl, by unfold putO; rw [if_neg (fun z => z.elim c_1 (fun y => y c_12)), if_pos (by first | exact Or.inl c_26 | exact Or.inr (Int32.not_le.mp c_33))]⟩)⟩)
      · skip
        refine r_iload_n C dX5_put_29 rfl ?_
        refine r_sipush C dX5_put_30 (v := 255) (by decide) ?_
        refine r_icmp_le C 46 dX5_put_33 (by decide) (fun c_33 => ?_) (fun c_33 => ?_)
        · skip
          obtain ⟨j, hj, rfl⟩ := ix_of c_1 c_12 (by omega)
          obtain ⟨b, hb, rfl⟩ := nI_of2 (n := 255) (by decide) c_26 c_33
          refine r_aload_n C dX5_put_46 rfl ?_
          refine r_get C dX5_put_47 fgRX5_14 (Nat.le_of_ble_eq_true rfl) w_0 rfl ?_
          refine r_get C dX5_put_50 fgRX5_47 (Nat.le_of_ble_eq_true rfl) w_1 rfl ?_
          refine r_iload_n C dX5_put_53 rfl ?_
          refine r_ialdN C dX5_put_54 (Nat.le_of_ble_eq_true rfl) w_2 (j := j) rfl (by omega) (by decide) ?_
          refine r_top (y := nI (xs.getD j 0)) (h_xs j hj) ?_
          refine r_istore_n C dX5_put_55 (L' := [some (.ref 0), some (.int (nI j)), some (.int (nI b)), some (.int (nI (xs.getD j 0)))]) (by decide) rfl ?_
          refine r_aload_n C dX5_put_56 rfl ?_
          refine r_get C dX5_put_57 fgRX5_14 (Nat.le_of_ble_eq_true rfl) w_0 rfl ?_
          refine r_get C dX5_put_60 fgRX5_47 (Nat.le_of_ble_eq_true rfl) w_1 rfl ?_
          refine r_iload_n C dX5_put_63 rfl ?_
          refine r_iload_n C dX5_put_64 rfl ?_
          refine r_iastN C dX5_put_65 (Nat.le_of_ble_eq_true rfl) w_2 (j := j) rfl (by omega) (by decide) ?_
          refine r_iload_n C dX5_put_66 rfl ?_
          exact r_ireturnX C T_ (Nat.le_of_ble_eq_true rfl) (Nat.le_of_ble_eq_true rfl) rfl rfl dX5_put_67 (⟨_, rfl, by rw [show putO xs (nI j) (nI b) = (0, nI (xs.getD j 0), xs.set j b) by unfold putO; rw [if_neg (fun z => z.elim c_1 (fun y => y c_12)), if_neg (fun z => z.elim c_26 (fun y => Int32.not_lt.mpr c_33 y)), rowAt_n hj (by omega), nI_clamp (by omega), nI_clamp (by omega)]], by rw [show putO xs (nI j) (nI b) = (0, nI (xs.getD j 0), xs.set j b) by unfold putO; rw [if_neg (fun z => z.elim c_1 (fun y => y c_12)), if_neg (fun z => z.elim c_26 (fun y => Int32.not_lt.mpr c_33 y)), rowAt_n hj (by omega), nI_clamp (by omega), nI_clamp (by omega)]]; exact CW_mk (ws_ne (Nat.ne_of_beq_eq_false rfl) w_0) (ws_ne (Nat.ne_of_beq_eq_false rfl) w_5) (cnt (ws_ne (Nat.ne_of_beq_eq_false rfl) w_1) (by rw [List.length_set])) ws_eq (hs_set h_xs rfl) (by rw [List.length_set]; exact k_xs) (ws_ne (Nat.ne_of_beq_eq_false rfl) w_3) (ws_ne (Nat.ne_of_beq_eq_false rfl) w_4) h_rs (by first | omega | (simp only [List.length_append, List.length_nil, List.length_cons, List.length_take, List.length_replicate, List.length_range, List.length_map, lof_len, pad_len, padd_len, md5_len, strm_len, strms_len, entOf_len, hif_len] <;> omega)) (ws_ne (Nat.ne_of_beq_eq_false rfl) w_6) (ws_ne (Nat.ne_of_beq_eq_false rfl) w_7) h_ow (by first | omega | (simp only [List.length_append, List.length_nil, List.length_cons, List.length_take, List.length_replicate, List.length_range, List.length_map, lof_len, pad_len, padd_len, md5_len, strm_len, strms_len, entOf_len, hif_len] <;> omega)) (ws_ne (Nat.ne_of_beq_eq_false rfl) w_8) (ws_ne (Nat.ne_of_beq_eq_false rfl) w_9) h_us (by first | omega | (simp only [List.length_append, List.length_nil, List.length_cons, List.length_take, List.length_replicate, List.length_range, List.length_map, lof_len, pad_len, padd_len, md5_len, strm_len, strms_len, entOf_len, hif_len] <;> omega)) (ws_ne (Nat.ne_of_beq_eq_false rfl) w_10) (ws_ne (Nat.ne_of_beq_eq_false rfl) w_11) h_nb (by first | omega | (simp only [List.length_append, List.length_nil, List.length_cons, List.length_take, List.length_replicate, List.length_range, List.length_map, lof_len, pad_len, padd_len, md5_len, strm_len, strms_len, entOf_len, hif_len] <;> omega)) (ws_ne (Nat.ne_of_beq_eq_false rfl) w_12) (ws_ne (Nat.ne_of_beq_eq_false rfl) w_13) h_op (by first | omega | (simp only [List.length_append, List.length_nil, List.length_cons, List.length_take, List.length_replicate, List.length_range, List.length_map, lof_len, pad_len, padd_len, md5_len, strm_len, strms_len, entOf_len, hif_len] <;> omega)) (ws_ne (Nat.ne_of_beq_eq_false rfl) w_14) (ws_ne (Nat.ne_of_beq_eq_false rfl) w_15) h_up (by first | omega | (simp only [List.length_append, List.length_nil, List.length_cons, List.length_take, List.length_replicate, List.length_range, List.length_map, lof_len, pad_len, padd_len, md5_len, strm_len, strms_len, entOf_len, hif_len] <;> omega)) (ws_ne (Nat.ne_of_beq_eq_false rfl) w_16) (ws_ne (Nat.ne_of_beq_eq_false rfl) w_17) h_kn (by first | omega | (simp only [List.length_append, List.length_nil, List.length_cons, List.length_take, List.length_replicate, List.length_range, List.length_map, lof_len, pad_len, padd_len, md5_len, strm_len, strms_len, entOf_len, hif_len] <;> omega)) (ws_ne (Nat.ne_of_beq_eq_false rfl) w_27) (ws_ne (Nat.ne_of_beq_eq_false rfl) w_28) h_gl (by first | omega | (simp only [List.length_append, List.length_nil, List.length_cons, List.length_take, List.length_replicate, List.length_range, List.length_map, lof_len, pad_len, padd_len, md5_len, strm_len, strms_len, entOf_len, hif_len] <;> omega)) (ws_ne (Nat.ne_of_beq_eq_false rfl) w_29) (ws_ne (Nat.ne_of_beq_eq_false rfl) w_30) h_tl (by first | omega | (simp only [List.length_append, List.length_nil, List.length_cons, List.length_take, List.length_replicate, List.length_range, List.length_map, lof_len, pad_len, padd_len, md5_len, strm_len, strms_len, entOf_len, hif_len] <;> omega)) (ws_ne (Nat.ne_of_beq_eq_false rfl) w_31) (ws_ne (Nat.ne_of_beq_eq_false rfl) w_32) h_ml (by first | omega | (simp only [List.length_append, List.length_nil, List.length_cons, List.length_take, List.length_replicate, List.length_range, List.length_map, lof_len, pad_len, padd_len, md5_len, strm_len, strms_len, entOf_len, hif_len] <;> omega)) (ws_ne (Nat.ne_of_beq_eq_false rfl) w_33) (ws_ne (Nat.ne_of_beq_eq_false rfl) w_34) h_ul (by first | omega | (simp only [List.length_append, List.length_nil, List.length_cons, List.length_take, List.length_replicate, List.length_range, List.length_map, lof_len, pad_len, padd_len, md5_len, strm_len, strms_len, entOf_len, hif_len] <;> omega)) (ws_ne (Nat.ne_of_beq_eq_false rfl) w_18) (ws_ne (Nat.ne_of_beq_eq_false rfl) w_19) (ws_ne (Nat.ne_of_beq_eq_false rfl) w_20) (ws_ne (Nat.ne_of_beq_eq_false rfl) w_21) (ws_ne (Nat.ne_of_beq_eq_false rfl) w_22) (ws_ne (Nat.ne_of_beq_eq_false rfl) w_23) hsb (ws_ne (Nat.ne_of_beq_eq_false rfl) w_24) (ws_ne (Nat.ne_of_beq_eq_false rfl) w_25) (ws_ne (Nat.ne_of_beq_eq_false rfl) w_26), (fr_set (Nat.le_of_ble_eq_true rfl) (fr_rf _)), by rw [show putO xs (nI j) (nI b) = (0, nI (xs.getD j 0), xs.set j b) by unfold putO; rw [if_neg (fun z => z.elim c_1 (fun y => y c_12)), if_neg (fun z => z.elim c_26 (fun y => Int32.not_lt.mpr c_33 y)), rowAt_n hj (by omega), nI_clamp (by omega), nI_clamp (by omega)]]⟩)
        · skip
          exact r_throwS C T_ NT dX5_put_36 dX5_put_39 dX5_put_40 dX5_put_42 dX5_put_45 exxA rfl (List.mem_of_getElem? (i := 1) rfl) (Nat.le_of_ble_eq_true rfl) (Nat.le_of_ble_eq_true rfl) (Nat.le_of_ble_eq_true rfl) (Nat.le_of_ble_eq_true rfl) (⟨rfl, Or.inr (⟨rfl, by unfold putO; rw [if_neg (fun z => z.elim c_1 (fun y => y c_12)), if_pos (by first | exact Or.inl c_26 | exact Or.inr (Int32.not_le.mp c_33))]⟩)⟩)
    · skip
      exact r_throwS C T_ NT dX5_put_15 dX5_put_18 dX5_put_19 dX5_put_21 dX5_put_24 exxI rfl (List.mem_of_getElem? (i := 0) rfl) (Nat.le_of_ble_eq_true rfl) (Nat.le_of_ble_eq_true rfl) (Nat.le_of_ble_eq_true rfl) (Nat.le_of_ble_eq_true rfl) (⟨rfl, Or.inl ⟨rfl, by unfold putO; rw [if_pos (by first | exact Or.inl c_1 | exact Or.inr c_12)]⟩⟩)
theorem cutTo_le (xs : List Nat) (m : Int32) : (cutTo xs m).length ≤ xs.length := by
  unfold cutTo
  split
  · exact Nat.le_refl _
  · rw [List.length_take]; omega
theorem hs_cut {f : Nat → Int32} {xs : List Nat} (h : hs f xs) (m : Int32) : hs f (cutTo xs m) := by
  unfold cutTo
  split
  · exact h
  · exact hs_take h
set_option maxHeartbeats 4000000 in
set_option maxRecDepth 100000 in
theorem cX5_cut9 {w : Wo} {xs rs : List Nat} {rv : Int32} {ln : Nat} {pm lo : Int32} {ow us nb op up kn : List Nat} (cw : CW (xs, rs, rv, ln, pm, lo, ow, us, nb, op, up, kn) w) (ps : PSok (xs, rs, rv, ln, pm, lo, ow, us, nb, op, up, kn)) {p1 : Int32} : Xtr mX5_cut [.ref 0, .int p1] w (PI fun r w' => (cutO xs p1).1 = 0 ∧ CW ((cutO xs p1).2.2, rs, rv, ln, pm, lo, ow, us, nb, op, up, kn) w' ∧ fr w w' ∧ r = (cutO xs p1).2.1) (fun E w' => w' = w ∧ ((E = "java/lang/IllegalArgumentException" ∧ (cutO xs p1).1 = 1))) := by
  refine Xtr_intro okX5_cut rfl (Nat.le_of_ble_eq_true rfl) (L := [some (.ref 0), some (.int p1), none]) rfl (fun g ct C T_ NT => ?_)
  refine CW_open cw (fun f2 f4 f7 f9 f11 f13 f15 f17 f28 f30 f32 f34 gl tl ml ul sA sB sC sD fw ftb SB K B fe w_0 w_5 w_1 w_2 h_xs k_xs w_3 w_4 h_rs k_rs w_6 w_7 h_ow k_ow w_8 w_9 h_us k_us w_10 w_11 h_nb k_nb w_12 w_13 h_op k_op w_14 w_15 h_up k_up w_16 w_17 h_kn k_kn w_27 w_28 h_gl k_gl w_29 w_30 h_tl k_tl w_31 w_32 h_ml k_ml w_33 w_34 h_ul k_ul w_18 w_19 w_20 w_21 w_22 w_23 hsb w_24 w_25 w_26 => ?_)
  obtain ⟨bx, br, bo, bu, bn, bp, bq, bk9, lo9, lu9, hkn, hrv, hln, hlo⟩ := ps
  refine r_iload_n C dX5_cut_0 rfl ?_
  refine r_if_ge C 14 dX5_cut_1 (by decide) (fun c_1 => ?_) (fun c_1 => ?_)
  · skip
    refine r_aload_n C dX5_cut_14 rfl ?_
    refine r_get C dX5_cut_15 fgRX5_14 (Nat.le_of_ble_eq_true rfl) w_0 rfl ?_
    refine r_get C dX5_cut_18 fgRX5_28 (Nat.le_of_ble_eq_true rfl) w_1 rfl ?_
    refine r_istore_n C dX5_cut_21 (L' := [some (.ref 0), some (.int p1), some (.int (nI xs.length))]) (by decide) rfl ?_
    refine r_aload_n C dX5_cut_22 rfl ?_
    refine r_get C dX5_cut_23 fgRX5_14 (Nat.le_of_ble_eq_true rfl) w_0 rfl ?_
    refine r_iload_n C dX5_cut_26 rfl ?_
    refine r_callVv C (As := [.int p1]) (rest := []) dX5_cut_27 (cX3_shorten9 (Nat.le_of_ble_eq_true rfl) (Nat.le_of_ble_eq_true rfl) (Nat.ne_of_beq_eq_false rfl) w_1 w_2 h_xs (by first | omega | (simp only [List.length_append, List.length_nil, List.length_cons, List.length_take, List.length_replicate, List.length_range, List.length_map, lof_len, pad_len, padd_len, md5_len, strm_len, strms_len, entOf_len, hif_len] <;> omega)) (by decide) p1) okX3_shorten mlRX5_53 imX3_shorten seX3_shorten ⟨by decide, by decide⟩ rfl rfl (Nat.le_of_ble_eq_true rfl) w_1 rfl rfl (Nat.le_of_ble_eq_true rfl) (by decide) (by decide) (fun w9 h9 => ?_)
    obtain rfl := h9
    have hcl := cutTo_le xs p1
    refine r_iload_n C dX5_cut_30 rfl ?_
    refine r_aload_n C dX5_cut_31 rfl ?_
    refine r_get C dX5_cut_32 fgRX5_14 (Nat.le_of_ble_eq_true rfl) (ws_ne (Nat.ne_of_beq_eq_false rfl) w_0) rfl ?_
    refine r_get C dX5_cut_35 fgRX5_28 (Nat.le_of_ble_eq_true rfl) ws_eq rfl ?_
    refine r_isub C dX5_cut_38 ?_
    refine r_top (y := nI (xs.length - ((cutTo xs p1).length))) (pk_sub (a := xs.length) (b := (cutTo xs p1).length) (by omega)) ?_
    exact r_ireturnX C T_ (Nat.le_of_ble_eq_true rfl) (Nat.le_of_ble_eq_true rfl) rfl rfl dX5_cut_39 (⟨_, rfl, by rw [show cutO xs p1 = (0, nI (xs.length - (cutTo xs p1).length), cutTo xs p1) from if_neg (Int32.not_lt.mpr c_1)], by rw [show cutO xs p1 = (0, nI (xs.length - (cutTo xs p1).length), cutTo xs p1) from if_neg (Int32.not_lt.mpr c_1)]; exact CW_mk (ws_ne (Nat.ne_of_beq_eq_false rfl) w_0) (ws_ne (Nat.ne_of_beq_eq_false rfl) w_5) ws_eq (ws_ne (Nat.ne_of_beq_eq_false rfl) w_2) (hs_cut h_xs p1) (by first | omega | (simp only [List.length_append, List.length_nil, List.length_cons, List.length_take, List.length_replicate, List.length_range, List.length_map, lof_len, pad_len, padd_len, md5_len, strm_len, strms_len, entOf_len, hif_len] <;> omega)) (ws_ne (Nat.ne_of_beq_eq_false rfl) w_3) (ws_ne (Nat.ne_of_beq_eq_false rfl) w_4) h_rs (by first | omega | (simp only [List.length_append, List.length_nil, List.length_cons, List.length_take, List.length_replicate, List.length_range, List.length_map, lof_len, pad_len, padd_len, md5_len, strm_len, strms_len, entOf_len, hif_len] <;> omega)) (ws_ne (Nat.ne_of_beq_eq_false rfl) w_6) (ws_ne (Nat.ne_of_beq_eq_false rfl) w_7) h_ow (by first | omega | (simp only [List.length_append, List.length_nil, List.length_cons, List.length_take, List.length_replicate, List.length_range, List.length_map, lof_len, pad_len, padd_len, md5_len, strm_len, strms_len, entOf_len, hif_len] <;> omega)) (ws_ne (Nat.ne_of_beq_eq_false rfl) w_8) (ws_ne (Nat.ne_of_beq_eq_false rfl) w_9) h_us (by first | omega | (simp only [List.length_append, List.length_nil, List.length_cons, List.length_take, List.length_replicate, List.length_range, List.length_map, lof_len, pad_len, padd_len, md5_len, strm_len, strms_len, entOf_len, hif_len] <;> omega)) (ws_ne (Nat.ne_of_beq_eq_false rfl) w_10) (ws_ne (Nat.ne_of_beq_eq_false rfl) w_11) h_nb (by first | omega | (simp only [List.length_append, List.length_nil, List.length_cons, List.length_take, List.length_replicate, List.length_range, List.length_map, lof_len, pad_len, padd_len, md5_len, strm_len, strms_len, entOf_len, hif_len] <;> omega)) (ws_ne (Nat.ne_of_beq_eq_false rfl) w_12) (ws_ne (Nat.ne_of_beq_eq_false rfl) w_13) h_op (by first | omega | (simp only [List.length_append, List.length_nil, List.length_cons, List.length_take, List.length_replicate, List.length_range, List.length_map, lof_len, pad_len, padd_len, md5_len, strm_len, strms_len, entOf_len, hif_len] <;> omega)) (ws_ne (Nat.ne_of_beq_eq_false rfl) w_14) (ws_ne (Nat.ne_of_beq_eq_false rfl) w_15) h_up (by first | omega | (simp only [List.length_append, List.length_nil, List.length_cons, List.length_take, List.length_replicate, List.length_range, List.length_map, lof_len, pad_len, padd_len, md5_len, strm_len, strms_len, entOf_len, hif_len] <;> omega)) (ws_ne (Nat.ne_of_beq_eq_false rfl) w_16) (ws_ne (Nat.ne_of_beq_eq_false rfl) w_17) h_kn (by first | omega | (simp only [List.length_append, List.length_nil, List.length_cons, List.length_take, List.length_replicate, List.length_range, List.length_map, lof_len, pad_len, padd_len, md5_len, strm_len, strms_len, entOf_len, hif_len] <;> omega)) (ws_ne (Nat.ne_of_beq_eq_false rfl) w_27) (ws_ne (Nat.ne_of_beq_eq_false rfl) w_28) h_gl (by first | omega | (simp only [List.length_append, List.length_nil, List.length_cons, List.length_take, List.length_replicate, List.length_range, List.length_map, lof_len, pad_len, padd_len, md5_len, strm_len, strms_len, entOf_len, hif_len] <;> omega)) (ws_ne (Nat.ne_of_beq_eq_false rfl) w_29) (ws_ne (Nat.ne_of_beq_eq_false rfl) w_30) h_tl (by first | omega | (simp only [List.length_append, List.length_nil, List.length_cons, List.length_take, List.length_replicate, List.length_range, List.length_map, lof_len, pad_len, padd_len, md5_len, strm_len, strms_len, entOf_len, hif_len] <;> omega)) (ws_ne (Nat.ne_of_beq_eq_false rfl) w_31) (ws_ne (Nat.ne_of_beq_eq_false rfl) w_32) h_ml (by first | omega | (simp only [List.length_append, List.length_nil, List.length_cons, List.length_take, List.length_replicate, List.length_range, List.length_map, lof_len, pad_len, padd_len, md5_len, strm_len, strms_len, entOf_len, hif_len] <;> omega)) (ws_ne (Nat.ne_of_beq_eq_false rfl) w_33) (ws_ne (Nat.ne_of_beq_eq_false rfl) w_34) h_ul (by first | omega | (simp only [List.length_append, List.length_nil, List.length_cons, List.length_take, List.length_replicate, List.length_range, List.length_map, lof_len, pad_len, padd_len, md5_len, strm_len, strms_len, entOf_len, hif_len] <;> omega)) (ws_ne (Nat.ne_of_beq_eq_false rfl) w_18) (ws_ne (Nat.ne_of_beq_eq_false rfl) w_19) (ws_ne (Nat.ne_of_beq_eq_false rfl) w_20) (ws_ne (Nat.ne_of_beq_eq_false rfl) w_21) (ws_ne (Nat.ne_of_beq_eq_false rfl) w_22) (ws_ne (Nat.ne_of_beq_eq_false rfl) w_23) hsb (ws_ne (Nat.ne_of_beq_eq_false rfl) w_24) (ws_ne (Nat.ne_of_beq_eq_false rfl) w_25) (ws_ne (Nat.ne_of_beq_eq_false rfl) w_26), (fr_set (Nat.le_of_ble_eq_true rfl) (fr_rf _)), by rw [show cutO xs p1 = (0, nI (xs.length - (cutTo xs p1).length), cutTo xs p1) from if_neg (Int32.not_lt.mpr c_1)]⟩)
  · skip
    exact r_throwS C T_ NT dX5_cut_4 dX5_cut_7 dX5_cut_8 dX5_cut_10 dX5_cut_13 exxA rfl (List.mem_of_getElem? (i := 2) rfl) (Nat.le_of_ble_eq_true rfl) (Nat.le_of_ble_eq_true rfl) (Nat.le_of_ble_eq_true rfl) (Nat.le_of_ble_eq_true rfl) (⟨rfl, ⟨rfl, by unfold cutO; rw [if_pos (Int32.not_le.mp c_1)]⟩⟩)
theorem gt2e {x : Int32} (h : ¬ x < 2) (hn : ¬ x = 2) : 2 < x := by
  rcases Int32.lt_or_eq_of_le (Int32.not_lt.mp h) with y | y
  · exact y
  · exact absurd y.symm hn
set_option maxHeartbeats 4000000 in
set_option maxRecDepth 100000 in
theorem cX5_handler9 {w : Wo} {xs rs : List Nat} {rv : Int32} {ln : Nat} {pm lo : Int32} {ow us nb op up kn : List Nat} (cw : CW (xs, rs, rv, ln, pm, lo, ow, us, nb, op, up, kn) w) (ps : PSok (xs, rs, rv, ln, pm, lo, ow, us, nb, op, up, kn)) {p1 p2 p3 p4 : Int32} (h4 : p4 = 0 ∨ p4 = 1) : Xtr mX5_handler [.ref 0, .int p1, .int p2, .int p3, .int p4] w (PV fun w' => hanS p1 p2 ∧ CW (xs, rs, p1, p2.toNatClampNeg, p3, p4, ow, us, nb, op, up, []) w' ∧ fr w w') (fun E w' => w' = w ∧ ((E = "java/lang/IllegalArgumentException" ∧ ¬ hanS p1 p2))) := by
  refine Xtr_intro okX5_handler rfl (Nat.le_of_ble_eq_true rfl) (L := [some (.ref 0), some (.int p1), some (.int p2), some (.int p3), some (.int p4)]) rfl (fun g ct C T_ NT => ?_)
  refine CW_open cw (fun f2 f4 f7 f9 f11 f13 f15 f17 f28 f30 f32 f34 gl tl ml ul sA sB sC sD fw ftb SB K B fe w_0 w_5 w_1 w_2 h_xs k_xs w_3 w_4 h_rs k_rs w_6 w_7 h_ow k_ow w_8 w_9 h_us k_us w_10 w_11 h_nb k_nb w_12 w_13 h_op k_op w_14 w_15 h_up k_up w_16 w_17 h_kn k_kn w_27 w_28 h_gl k_gl w_29 w_30 h_tl k_tl w_31 w_32 h_ml k_ml w_33 w_34 h_ul k_ul w_18 w_19 w_20 w_21 w_22 w_23 hsb w_24 w_25 w_26 => ?_)
  obtain ⟨bx, br, bo, bu, bn, bp, bq, bk9, lo9, lu9, hkn, hrv, hln, hlo⟩ := ps
  refine r_iload_n C dX5_handler_0 rfl ?_
  refine r_iconst C dX5_handler_1 (v := 2) (by decide) ?_
  refine r_icmp_lt C 10 dX5_handler_2 (by decide) (fun c_2 => ?_) (fun c_2 => ?_)
  · skip
    exact r_throwS C T_ NT dX5_handler_10 dX5_handler_13 dX5_handler_14 dX5_handler_16 dX5_handler_19 exxA rfl (List.mem_of_getElem? (i := 3) rfl) (Nat.le_of_ble_eq_true rfl) (Nat.le_of_ble_eq_true rfl) (Nat.le_of_ble_eq_true rfl) (Nat.le_of_ble_eq_true rfl) (⟨rfl, ⟨rfl, fun z => z.1 c_2⟩⟩)
  · skip
    refine r_iload_n C dX5_handler_5 rfl ?_
    refine r_iconst C dX5_handler_6 (v := 4) (by decide) ?_
    refine r_icmp_le C 20 dX5_handler_7 (by decide) (fun c_7 => ?_) (fun c_7 => ?_)
    · skip
      refine r_iload_n C dX5_handler_20 rfl ?_
      refine r_iconst C dX5_handler_21 (v := 5) (by decide) ?_
      refine r_icmp_lt C 40 dX5_handler_22 (by decide) (fun c_22 => ?_) (fun c_22 => ?_)
      · skip
        exact r_throwS C T_ NT dX5_handler_40 dX5_handler_43 dX5_handler_44 dX5_handler_46 dX5_handler_49 exxA rfl (List.mem_of_getElem? (i := 4) rfl) (Nat.le_of_ble_eq_true rfl) (Nat.le_of_ble_eq_true rfl) (Nat.le_of_ble_eq_true rfl) (Nat.le_of_ble_eq_true rfl) (⟨rfl, ⟨rfl, fun z => z.2.2.1 c_22⟩⟩)
      · skip
        refine r_iload_n C dX5_handler_25 rfl ?_
        refine r_iload_n C dX5_handler_26 rfl ?_
        refine r_iconst C dX5_handler_27 (v := 2) (by decide) ?_
        refine r_icmp_ne C 35 dX5_handler_28 (by decide) (fun c_28 => ?_) (fun c_28 => ?_)
        · skip
          refine r_bipush C dX5_handler_35 (v := 16) (by decide) ?_
          refine r_icmp_le C 50 dX5_handler_37 (by decide) (fun c_37 => ?_) (fun c_37 => ?_)
          · skip
            obtain ⟨l9, hl9, rfl⟩ := nI_of (x := p2) (fun z => c_22 (Int32.lt_of_lt_of_le z (by decide)))
            refine r_aload_n C dX5_handler_50 rfl ?_
            refine r_get C dX5_handler_51 fgRX5_24 (Nat.le_of_ble_eq_true rfl) w_0 rfl ?_
            refine r_iload_n C dX5_handler_54 rfl ?_
            refine r_put C dX5_handler_55 fpRX5_60 (Nat.le_of_ble_eq_true rfl) w_5 rfl rfl (Nat.le_of_ble_eq_true rfl) (fs' := [.int p1, .int (nI ln), .int pm, .int lo, .ref 6, .ref 8, .ref 10, .ref 12, .ref 14, .ref 16, .ref 18, .ref 20, .ref 22, .ref 27, .ref 29, .ref 31, .ref 33]) rfl ?_
            refine r_aload_n C dX5_handler_58 rfl ?_
            refine r_get C dX5_handler_59 fgRX5_24 (Nat.le_of_ble_eq_true rfl) (ws_ne (Nat.ne_of_beq_eq_false rfl) w_0) rfl ?_
            refine r_iload_n C dX5_handler_62 rfl ?_
            refine r_put C dX5_handler_63 fpRX5_63 (Nat.le_of_ble_eq_true rfl) ws_eq rfl rfl (Nat.le_of_ble_eq_true rfl) (fs' := [.int p1, .int (nI l9), .int pm, .int lo, .ref 6, .ref 8, .ref 10, .ref 12, .ref 14, .ref 16, .ref 18, .ref 20, .ref 22, .ref 27, .ref 29, .ref 31, .ref 33]) rfl ?_
            refine r_eq rfl rfl ws_same ?_
            refine r_aload_n C dX5_handler_66 rfl ?_
            refine r_get C dX5_handler_67 fgRX5_24 (Nat.le_of_ble_eq_true rfl) (ws_ne (Nat.ne_of_beq_eq_false rfl) w_0) rfl ?_
            refine r_iload_n C dX5_handler_70 rfl ?_
            refine r_put C dX5_handler_71 fpRX5_66 (Nat.le_of_ble_eq_true rfl) ws_eq rfl rfl (Nat.le_of_ble_eq_true rfl) (fs' := [.int p1, .int (nI l9), .int p3, .int lo, .ref 6, .ref 8, .ref 10, .ref 12, .ref 14, .ref 16, .ref 18, .ref 20, .ref 22, .ref 27, .ref 29, .ref 31, .ref 33]) rfl ?_
            refine r_eq rfl rfl ws_same ?_
            refine r_aload_n C dX5_handler_74 rfl ?_
            refine r_get C dX5_handler_75 fgRX5_24 (Nat.le_of_ble_eq_true rfl) (ws_ne (Nat.ne_of_beq_eq_false rfl) w_0) rfl ?_
            refine r_iload C dX5_handler_78 rfl ?_
            refine r_put C dX5_handler_80 fpRX5_69 (Nat.le_of_ble_eq_true rfl) ws_eq (by rcases h4 with h | h <;> rw [h] <;> rfl) (by rcases h4 with h | h <;> rw [h] <;> rfl) (Nat.le_of_ble_eq_true rfl) (fs' := [.int p1, .int (nI l9), .int p3, .int p4, .ref 6, .ref 8, .ref 10, .ref 12, .ref 14, .ref 16, .ref 18, .ref 20, .ref 22, .ref 27, .ref 29, .ref 31, .ref 33]) rfl ?_
            refine r_eq rfl rfl ws_same ?_
            refine r_aload_n C dX5_handler_83 rfl ?_
            refine r_get C dX5_handler_84 fgRX5_24 (Nat.le_of_ble_eq_true rfl) (ws_ne (Nat.ne_of_beq_eq_false rfl) w_0) rfl ?_
            refine r_get C dX5_handler_87 fgRX5_73 (Nat.le_of_ble_eq_true rfl) ws_eq rfl ?_
            refine r_callVv C (As := []) (rest := []) dX5_handler_90 (cX3_clear9 (Nat.le_of_ble_eq_true rfl) (Nat.le_of_ble_eq_true rfl) (Nat.ne_of_beq_eq_false rfl) (ws_ne (Nat.ne_of_beq_eq_false rfl) w_16) (ws_ne (Nat.ne_of_beq_eq_false rfl) w_17) h_kn (by first | omega | (simp only [List.length_append, List.length_nil, List.length_cons, List.length_take, List.length_replicate, List.length_range, List.length_map, lof_len, pad_len, padd_len, md5_len, strm_len, strms_len, entOf_len, hif_len] <;> omega)) (by decide)) okX3_clear mlRX5_76 imX3_clear seX3_clear ⟨by decide, by decide⟩ rfl rfl (Nat.le_of_ble_eq_true rfl) (ws_ne (Nat.ne_of_beq_eq_false rfl) w_16) rfl rfl (Nat.le_of_ble_eq_true rfl) (by decide) (by decide) (fun w9 h9 => ?_)
            obtain rfl := h9
            exact r_returnX C T_ (Nat.le_of_ble_eq_true rfl) (Nat.le_of_ble_eq_true rfl) rfl dX5_handler_93 (⟨rfl, ⟨c_2, Int32.not_lt.mpr c_7, c_22, Int32.not_lt.mpr c_37, Or.inl (gt2e c_2 c_28)⟩, by rw [show (nI l9).toNatClampNeg = l9 from nI_clamp (by omega)]; exact CW_mk (ws_ne (Nat.ne_of_beq_eq_false rfl) (ws_ne (Nat.ne_of_beq_eq_false rfl) w_0)) (ws_ne (Nat.ne_of_beq_eq_false rfl) ws_eq) (ws_ne (Nat.ne_of_beq_eq_false rfl) (ws_ne (Nat.ne_of_beq_eq_false rfl) w_1)) (ws_ne (Nat.ne_of_beq_eq_false rfl) (ws_ne (Nat.ne_of_beq_eq_false rfl) w_2)) h_xs (by first | omega | (simp only [List.length_append, List.length_nil, List.length_cons, List.length_take, List.length_replicate, List.length_range, List.length_map, lof_len, pad_len, padd_len, md5_len, strm_len, strms_len, entOf_len, hif_len] <;> omega)) (ws_ne (Nat.ne_of_beq_eq_false rfl) (ws_ne (Nat.ne_of_beq_eq_false rfl) w_3)) (ws_ne (Nat.ne_of_beq_eq_false rfl) (ws_ne (Nat.ne_of_beq_eq_false rfl) w_4)) h_rs (by first | omega | (simp only [List.length_append, List.length_nil, List.length_cons, List.length_take, List.length_replicate, List.length_range, List.length_map, lof_len, pad_len, padd_len, md5_len, strm_len, strms_len, entOf_len, hif_len] <;> omega)) (ws_ne (Nat.ne_of_beq_eq_false rfl) (ws_ne (Nat.ne_of_beq_eq_false rfl) w_6)) (ws_ne (Nat.ne_of_beq_eq_false rfl) (ws_ne (Nat.ne_of_beq_eq_false rfl) w_7)) h_ow (by first | omega | (simp only [List.length_append, List.length_nil, List.length_cons, List.length_take, List.length_replicate, List.length_range, List.length_map, lof_len, pad_len, padd_len, md5_len, strm_len, strms_len, entOf_len, hif_len] <;> omega)) (ws_ne (Nat.ne_of_beq_eq_false rfl) (ws_ne (Nat.ne_of_beq_eq_false rfl) w_8)) (ws_ne (Nat.ne_of_beq_eq_false rfl) (ws_ne (Nat.ne_of_beq_eq_false rfl) w_9)) h_us (by first | omega | (simp only [List.length_append, List.length_nil, List.length_cons, List.length_take, List.length_replicate, List.length_range, List.length_map, lof_len, pad_len, padd_len, md5_len, strm_len, strms_len, entOf_len, hif_len] <;> omega)) (ws_ne (Nat.ne_of_beq_eq_false rfl) (ws_ne (Nat.ne_of_beq_eq_false rfl) w_10)) (ws_ne (Nat.ne_of_beq_eq_false rfl) (ws_ne (Nat.ne_of_beq_eq_false rfl) w_11)) h_nb (by first | omega | (simp only [List.length_append, List.length_nil, List.length_cons, List.length_take, List.length_replicate, List.length_range, List.length_map, lof_len, pad_len, padd_len, md5_len, strm_len, strms_len, entOf_len, hif_len] <;> omega)) (ws_ne (Nat.ne_of_beq_eq_false rfl) (ws_ne (Nat.ne_of_beq_eq_false rfl) w_12)) (ws_ne (Nat.ne_of_beq_eq_false rfl) (ws_ne (Nat.ne_of_beq_eq_false rfl) w_13)) h_op (by first | omega | (simp only [List.length_append, List.length_nil, List.length_cons, List.length_take, List.length_replicate, List.length_range, List.length_map, lof_len, pad_len, padd_len, md5_len, strm_len, strms_len, entOf_len, hif_len] <;> omega)) (ws_ne (Nat.ne_of_beq_eq_false rfl) (ws_ne (Nat.ne_of_beq_eq_false rfl) w_14)) (ws_ne (Nat.ne_of_beq_eq_false rfl) (ws_ne (Nat.ne_of_beq_eq_false rfl) w_15)) h_up (by first | omega | (simp only [List.length_append, List.length_nil, List.length_cons, List.length_take, List.length_replicate, List.length_range, List.length_map, lof_len, pad_len, padd_len, md5_len, strm_len, strms_len, entOf_len, hif_len] <;> omega)) ws_eq (ws_ne (Nat.ne_of_beq_eq_false rfl) (ws_ne (Nat.ne_of_beq_eq_false rfl) w_17)) (hs_nil _) (by first | omega | (simp only [List.length_append, List.length_nil, List.length_cons, List.length_take, List.length_replicate, List.length_range, List.length_map, lof_len, pad_len, padd_len, md5_len, strm_len, strms_len, entOf_len, hif_len] <;> omega)) (ws_ne (Nat.ne_of_beq_eq_false rfl) (ws_ne (Nat.ne_of_beq_eq_false rfl) w_27)) (ws_ne (Nat.ne_of_beq_eq_false rfl) (ws_ne (Nat.ne_of_beq_eq_false rfl) w_28)) h_gl (by first | omega | (simp only [List.length_append, List.length_nil, List.length_cons, List.length_take, List.length_replicate, List.length_range, List.length_map, lof_len, pad_len, padd_len, md5_len, strm_len, strms_len, entOf_len, hif_len] <;> omega)) (ws_ne (Nat.ne_of_beq_eq_false rfl) (ws_ne (Nat.ne_of_beq_eq_false rfl) w_29)) (ws_ne (Nat.ne_of_beq_eq_false rfl) (ws_ne (Nat.ne_of_beq_eq_false rfl) w_30)) h_tl (by first | omega | (simp only [List.length_append, List.length_nil, List.length_cons, List.length_take, List.length_replicate, List.length_range, List.length_map, lof_len, pad_len, padd_len, md5_len, strm_len, strms_len, entOf_len, hif_len] <;> omega)) (ws_ne (Nat.ne_of_beq_eq_false rfl) (ws_ne (Nat.ne_of_beq_eq_false rfl) w_31)) (ws_ne (Nat.ne_of_beq_eq_false rfl) (ws_ne (Nat.ne_of_beq_eq_false rfl) w_32)) h_ml (by first | omega | (simp only [List.length_append, List.length_nil, List.length_cons, List.length_take, List.length_replicate, List.length_range, List.length_map, lof_len, pad_len, padd_len, md5_len, strm_len, strms_len, entOf_len, hif_len] <;> omega)) (ws_ne (Nat.ne_of_beq_eq_false rfl) (ws_ne (Nat.ne_of_beq_eq_false rfl) w_33)) (ws_ne (Nat.ne_of_beq_eq_false rfl) (ws_ne (Nat.ne_of_beq_eq_false rfl) w_34)) h_ul (by first | omega | (simp only [List.length_append, List.length_nil, List.length_cons, List.length_take, List.length_replicate, List.length_range, List.length_map, lof_len, pad_len, padd_len, md5_len, strm_len, strms_len, entOf_len, hif_len] <;> omega)) (ws_ne (Nat.ne_of_beq_eq_false rfl) (ws_ne (Nat.ne_of_beq_eq_false rfl) w_18)) (ws_ne (Nat.ne_of_beq_eq_false rfl) (ws_ne (Nat.ne_of_beq_eq_false rfl) w_19)) (ws_ne (Nat.ne_of_beq_eq_false rfl) (ws_ne (Nat.ne_of_beq_eq_false rfl) w_20)) (ws_ne (Nat.ne_of_beq_eq_false rfl) (ws_ne (Nat.ne_of_beq_eq_false rfl) w_21)) (ws_ne (Nat.ne_of_beq_eq_false rfl) (ws_ne (Nat.ne_of_beq_eq_false rfl) w_22)) (ws_ne (Nat.ne_of_beq_eq_false rfl) (ws_ne (Nat.ne_of_beq_eq_false rfl) w_23)) hsb (ws_ne (Nat.ne_of_beq_eq_false rfl) (ws_ne (Nat.ne_of_beq_eq_false rfl) w_24)) (ws_ne (Nat.ne_of_beq_eq_false rfl) (ws_ne (Nat.ne_of_beq_eq_false rfl) w_25)) (ws_ne (Nat.ne_of_beq_eq_false rfl) (ws_ne (Nat.ne_of_beq_eq_false rfl) w_26)), (fr_set (Nat.le_of_ble_eq_true rfl) (fr_set (Nat.le_of_ble_eq_true rfl) (fr_rf _)))⟩)
          · skip
            exact r_throwS C T_ NT dX5_handler_40 dX5_handler_43 dX5_handler_44 dX5_handler_46 dX5_handler_49 exxA rfl (List.mem_of_getElem? (i := 4) rfl) (Nat.le_of_ble_eq_true rfl) (Nat.le_of_ble_eq_true rfl) (Nat.le_of_ble_eq_true rfl) (Nat.le_of_ble_eq_true rfl) (⟨rfl, ⟨rfl, fun z => c_37 (Int32.not_lt.mp z.2.2.2.1)⟩⟩)
        · skip
          refine r_iconst C dX5_handler_31 (v := 5) (by decide) ?_
          refine r_goto C 37 dX5_handler_32 (by decide) ?_
          refine r_icmp_le C 50 dX5_handler_37 (by decide) (fun c_37 => ?_) (fun c_37 => ?_)
          · skip
            obtain ⟨l9, hl9, rfl⟩ := nI_of (x := p2) (fun z => c_22 (Int32.lt_of_lt_of_le z (by decide)))
            refine r_aload_n C dX5_handler_50 rfl ?_
            refine r_get C dX5_handler_51 fgRX5_24 (Nat.le_of_ble_eq_true rfl) w_0 rfl ?_
            refine r_iload_n C dX5_handler_54 rfl ?_
            refine r_put C dX5_handler_55 fpRX5_60 (Nat.le_of_ble_eq_true rfl) w_5 rfl rfl (Nat.le_of_ble_eq_true rfl) (fs' := [.int p1, .int (nI ln), .int pm, .int lo, .ref 6, .ref 8, .ref 10, .ref 12, .ref 14, .ref 16, .ref 18, .ref 20, .ref 22, .ref 27, .ref 29, .ref 31, .ref 33]) rfl ?_
            refine r_aload_n C dX5_handler_58 rfl ?_
            refine r_get C dX5_handler_59 fgRX5_24 (Nat.le_of_ble_eq_true rfl) (ws_ne (Nat.ne_of_beq_eq_false rfl) w_0) rfl ?_
            refine r_iload_n C dX5_handler_62 rfl ?_
            refine r_put C dX5_handler_63 fpRX5_63 (Nat.le_of_ble_eq_true rfl) ws_eq rfl rfl (Nat.le_of_ble_eq_true rfl) (fs' := [.int p1, .int (nI l9), .int pm, .int lo, .ref 6, .ref 8, .ref 10, .ref 12, .ref 14, .ref 16, .ref 18, .ref 20, .ref 22, .ref 27, .ref 29, .ref 31, .ref 33]) rfl ?_
            refine r_eq rfl rfl ws_same ?_
            refine r_aload_n C dX5_handler_66 rfl ?_
            refine r_get C dX5_handler_67 fgRX5_24 (Nat.le_of_ble_eq_true rfl) (ws_ne (Nat.ne_of_beq_eq_false rfl) w_0) rfl ?_
            refine r_iload_n C dX5_handler_70 rfl ?_
            refine r_put C dX5_handler_71 fpRX5_66 (Nat.le_of_ble_eq_true rfl) ws_eq rfl rfl (Nat.le_of_ble_eq_true rfl) (fs' := [.int p1, .int (nI l9), .int p3, .int lo, .ref 6, .ref 8, .ref 10, .ref 12, .ref 14, .ref 16, .ref 18, .ref 20, .ref 22, .ref 27, .ref 29, .ref 31, .ref 33]) rfl ?_
            refine r_eq rfl rfl ws_same ?_
            refine r_aload_n C dX5_handler_74 rfl ?_
            refine r_get C dX5_handler_75 fgRX5_24 (Nat.le_of_ble_eq_true rfl) (ws_ne (Nat.ne_of_beq_eq_false rfl) w_0) rfl ?_
            refine r_iload C dX5_handler_78 rfl ?_
            refine r_put C dX5_handler_80 fpRX5_69 (Nat.le_of_ble_eq_true rfl) ws_eq (by rcases h4 with h | h <;> rw [h] <;> rfl) (by rcases h4 with h | h <;> rw [h] <;> rfl) (Nat.le_of_ble_eq_true rfl) (fs' := [.int p1, .int (nI l9), .int p3, .int p4, .ref 6, .ref 8, .ref 10, .ref 12, .ref 14, .ref 16, .ref 18, .ref 20, .ref 22, .ref 27, .ref 29, .ref 31, .ref 33]) rfl ?_
            refine r_eq rfl rfl ws_same ?_
            refine r_aload_n C dX5_handler_83 rfl ?_
            refine r_get C dX5_handler_84 fgRX5_24 (Nat.le_of_ble_eq_true rfl) (ws_ne (Nat.ne_of_beq_eq_false rfl) w_0) rfl ?_
            refine r_get C dX5_handler_87 fgRX5_73 (Nat.le_of_ble_eq_true rfl) ws_eq rfl ?_
            refine r_callVv C (As := []) (rest := []) dX5_handler_90 (cX3_clear9 (Nat.le_of_ble_eq_true rfl) (Nat.le_of_ble_eq_true rfl) (Nat.ne_of_beq_eq_false rfl) (ws_ne (Nat.ne_of_beq_eq_false rfl) w_16) (ws_ne (Nat.ne_of_beq_eq_false rfl) w_17) h_kn (by first | omega | (simp only [List.length_append, List.length_nil, List.length_cons, List.length_take, List.length_replicate, List.length_range, List.length_map, lof_len, pad_len, padd_len, md5_len, strm_len, strms_len, entOf_len, hif_len] <;> omega)) (by decide)) okX3_clear mlRX5_76 imX3_clear seX3_clear ⟨by decide, by decide⟩ rfl rfl (Nat.le_of_ble_eq_true rfl) (ws_ne (Nat.ne_of_beq_eq_false rfl) w_16) rfl rfl (Nat.le_of_ble_eq_true rfl) (by decide) (by decide) (fun w9 h9 => ?_)
            obtain rfl := h9
            exact r_returnX C T_ (Nat.le_of_ble_eq_true rfl) (Nat.le_of_ble_eq_true rfl) rfl dX5_handler_93 (⟨rfl, ⟨c_2, Int32.not_lt.mpr c_7, c_22, fun z => absurd (Int32.lt_of_lt_of_le z c_37) (by decide), Or.inr (Int32.le_antisymm c_37 (Int32.not_lt.mp c_22))⟩, by rw [show (nI l9).toNatClampNeg = l9 from nI_clamp (by omega)]; exact CW_mk (ws_ne (Nat.ne_of_beq_eq_false rfl) (ws_ne (Nat.ne_of_beq_eq_false rfl) w_0)) (ws_ne (Nat.ne_of_beq_eq_false rfl) ws_eq) (ws_ne (Nat.ne_of_beq_eq_false rfl) (ws_ne (Nat.ne_of_beq_eq_false rfl) w_1)) (ws_ne (Nat.ne_of_beq_eq_false rfl) (ws_ne (Nat.ne_of_beq_eq_false rfl) w_2)) h_xs (by first | omega | (simp only [List.length_append, List.length_nil, List.length_cons, List.length_take, List.length_replicate, List.length_range, List.length_map, lof_len, pad_len, padd_len, md5_len, strm_len, strms_len, entOf_len, hif_len] <;> omega)) (ws_ne (Nat.ne_of_beq_eq_false rfl) (ws_ne (Nat.ne_of_beq_eq_false rfl) w_3)) (ws_ne (Nat.ne_of_beq_eq_false rfl) (ws_ne (Nat.ne_of_beq_eq_false rfl) w_4)) h_rs (by first | omega | (simp only [List.length_append, List.length_nil, List.length_cons, List.length_take, List.length_replicate, List.length_range, List.length_map, lof_len, pad_len, padd_len, md5_len, strm_len, strms_len, entOf_len, hif_len] <;> omega)) (ws_ne (Nat.ne_of_beq_eq_false rfl) (ws_ne (Nat.ne_of_beq_eq_false rfl) w_6)) (ws_ne (Nat.ne_of_beq_eq_false rfl) (ws_ne (Nat.ne_of_beq_eq_false rfl) w_7)) h_ow (by first | omega | (simp only [List.length_append, List.length_nil, List.length_cons, List.length_take, List.length_replicate, List.length_range, List.length_map, lof_len, pad_len, padd_len, md5_len, strm_len, strms_len, entOf_len, hif_len] <;> omega)) (ws_ne (Nat.ne_of_beq_eq_false rfl) (ws_ne (Nat.ne_of_beq_eq_false rfl) w_8)) (ws_ne (Nat.ne_of_beq_eq_false rfl) (ws_ne (Nat.ne_of_beq_eq_false rfl) w_9)) h_us (by first | omega | (simp only [List.length_append, List.length_nil, List.length_cons, List.length_take, List.length_replicate, List.length_range, List.length_map, lof_len, pad_len, padd_len, md5_len, strm_len, strms_len, entOf_len, hif_len] <;> omega)) (ws_ne (Nat.ne_of_beq_eq_false rfl) (ws_ne (Nat.ne_of_beq_eq_false rfl) w_10)) (ws_ne (Nat.ne_of_beq_eq_false rfl) (ws_ne (Nat.ne_of_beq_eq_false rfl) w_11)) h_nb (by first | omega | (simp only [List.length_append, List.length_nil, List.length_cons, List.length_take, List.length_replicate, List.length_range, List.length_map, lof_len, pad_len, padd_len, md5_len, strm_len, strms_len, entOf_len, hif_len] <;> omega)) (ws_ne (Nat.ne_of_beq_eq_false rfl) (ws_ne (Nat.ne_of_beq_eq_false rfl) w_12)) (ws_ne (Nat.ne_of_beq_eq_false rfl) (ws_ne (Nat.ne_of_beq_eq_false rfl) w_13)) h_op (by first | omega | (simp only [List.length_append, List.length_nil, List.length_cons, List.length_take, List.length_replicate, List.length_range, List.length_map, lof_len, pad_len, padd_len, md5_len, strm_len, strms_len, entOf_len, hif_len] <;> omega)) (ws_ne (Nat.ne_of_beq_eq_false rfl) (ws_ne (Nat.ne_of_beq_eq_false rfl) w_14)) (ws_ne (Nat.ne_of_beq_eq_false rfl) (ws_ne (Nat.ne_of_beq_eq_false rfl) w_15)) h_up (by first | omega | (simp only [List.length_append, List.length_nil, List.length_cons, List.length_take, List.length_replicate, List.length_range, List.length_map, lof_len, pad_len, padd_len, md5_len, strm_len, strms_len, entOf_len, hif_len] <;> omega)) ws_eq (ws_ne (Nat.ne_of_beq_eq_false rfl) (ws_ne (Nat.ne_of_beq_eq_false rfl) w_17)) (hs_nil _) (by first | omega | (simp only [List.length_append, List.length_nil, List.length_cons, List.length_take, List.length_replicate, List.length_range, List.length_map, lof_len, pad_len, padd_len, md5_len, strm_len, strms_len, entOf_len, hif_len] <;> omega)) (ws_ne (Nat.ne_of_beq_eq_false rfl) (ws_ne (Nat.ne_of_beq_eq_false rfl) w_27)) (ws_ne (Nat.ne_of_beq_eq_false rfl) (ws_ne (Nat.ne_of_beq_eq_false rfl) w_28)) h_gl (by first | omega | (simp only [List.length_append, List.length_nil, List.length_cons, List.length_take, List.length_replicate, List.length_range, List.length_map, lof_len, pad_len, padd_len, md5_len, strm_len, strms_len, entOf_len, hif_len] <;> omega)) (ws_ne (Nat.ne_of_beq_eq_false rfl) (ws_ne (Nat.ne_of_beq_eq_false rfl) w_29)) (ws_ne (Nat.ne_of_beq_eq_false rfl) (ws_ne (Nat.ne_of_beq_eq_false rfl) w_30)) h_tl (by first | omega | (simp only [List.length_append, List.length_nil, List.length_cons, List.length_take, List.length_replicate, List.length_range, List.length_map, lof_len, pad_len, padd_len, md5_len, strm_len, strms_len, entOf_len, hif_len] <;> omega)) (ws_ne (Nat.ne_of_beq_eq_false rfl) (ws_ne (Nat.ne_of_beq_eq_false rfl) w_31)) (ws_ne (Nat.ne_of_beq_eq_false rfl) (ws_ne (Nat.ne_of_beq_eq_false rfl) w_32)) h_ml (by first | omega | (simp only [List.length_append, List.length_nil, List.length_cons, List.length_take, List.length_replicate, List.length_range, List.length_map, lof_len, pad_len, padd_len, md5_len, strm_len, strms_len, entOf_len, hif_len] <;> omega)) (ws_ne (Nat.ne_of_beq_eq_false rfl) (ws_ne (Nat.ne_of_beq_eq_false rfl) w_33)) (ws_ne (Nat.ne_of_beq_eq_false rfl) (ws_ne (Nat.ne_of_beq_eq_false rfl) w_34)) h_ul (by first | omega | (simp only [List.length_append, List.length_nil, List.length_cons, List.length_take, List.length_replicate, List.length_range, List.length_map, lof_len, pad_len, padd_len, md5_len, strm_len, strms_len, entOf_len, hif_len] <;> omega)) (ws_ne (Nat.ne_of_beq_eq_false rfl) (ws_ne (Nat.ne_of_beq_eq_false rfl) w_18)) (ws_ne (Nat.ne_of_beq_eq_false rfl) (ws_ne (Nat.ne_of_beq_eq_false rfl) w_19)) (ws_ne (Nat.ne_of_beq_eq_false rfl) (ws_ne (Nat.ne_of_beq_eq_false rfl) w_20)) (ws_ne (Nat.ne_of_beq_eq_false rfl) (ws_ne (Nat.ne_of_beq_eq_false rfl) w_21)) (ws_ne (Nat.ne_of_beq_eq_false rfl) (ws_ne (Nat.ne_of_beq_eq_false rfl) w_22)) (ws_ne (Nat.ne_of_beq_eq_false rfl) (ws_ne (Nat.ne_of_beq_eq_false rfl) w_23)) hsb (ws_ne (Nat.ne_of_beq_eq_false rfl) (ws_ne (Nat.ne_of_beq_eq_false rfl) w_24)) (ws_ne (Nat.ne_of_beq_eq_false rfl) (ws_ne (Nat.ne_of_beq_eq_false rfl) w_25)) (ws_ne (Nat.ne_of_beq_eq_false rfl) (ws_ne (Nat.ne_of_beq_eq_false rfl) w_26)), (fr_set (Nat.le_of_ble_eq_true rfl) (fr_set (Nat.le_of_ble_eq_true rfl) (fr_rf _)))⟩)
          · skip
            exact r_throwS C T_ NT dX5_handler_40 dX5_handler_43 dX5_handler_44 dX5_handler_46 dX5_handler_49 exxA rfl (List.mem_of_getElem? (i := 4) rfl) (Nat.le_of_ble_eq_true rfl) (Nat.le_of_ble_eq_true rfl) (Nat.le_of_ble_eq_true rfl) (Nat.le_of_ble_eq_true rfl) (⟨rfl, ⟨rfl, fun z => c_37 (z.2.2.2.2.elim (fun y => absurd (show (2 : Int32) < 2 from c_28 ▸ y) (by decide)) (fun y => by rw [y]; decide))⟩⟩)
    · skip
      exact r_throwS C T_ NT dX5_handler_10 dX5_handler_13 dX5_handler_14 dX5_handler_16 dX5_handler_19 exxA rfl (List.mem_of_getElem? (i := 3) rfl) (Nat.le_of_ble_eq_true rfl) (Nat.le_of_ble_eq_true rfl) (Nat.le_of_ble_eq_true rfl) (Nat.le_of_ble_eq_true rfl) (⟨rfl, ⟨rfl, fun z => c_7 (Int32.not_lt.mp z.2.1)⟩⟩)
theorem PS_ow {xs rs : List Nat} {rv : Int32} {ln : Nat} {pm lo : Int32} {ow us nb op up kn : List Nat} (ps : PSok (xs, rs, rv, ln, pm, lo, ow, us, nb, op, up, kn)) : PSok (xs, rs, rv, ln, pm, lo, strms (ownKey rv ln op) (turnsOf rv) (padd up), us, nb, op, up, kn) := by
  obtain ⟨bx, br, bo, bu, bn, bp, bq, bk9, lo9, lu9, hkn, hrv, hln, hlo⟩ := ps
  exact ⟨bx, br, byt_strms _ (byt_padd bq) _, bu, bn, bp, bq, bk9, by rw [strms_len, padd_len], lu9, hkn, hrv, hln, hlo⟩
theorem PS_us {xs rs : List Nat} {rv : Int32} {ln : Nat} {pm lo : Int32} {ow us nb op up kn : List Nat} (ps : PSok (xs, rs, rv, ln, pm, lo, ow, us, nb, op, up, kn)) : PSok (xs, rs, rv, ln, pm, lo, ow, entOf rv nb (keyOf rv ln pm lo ow nb up), nb, op, up, kn) := by
  obtain ⟨bx, br, bo, bu, bn, bp, bq, bk9, lo9, lu9, hkn, hrv, hln, hlo⟩ := ps
  exact ⟨bx, br, bo, byt_entOf _ _ _, bn, bp, bq, bk9, lo9, entOf_len _ _ _, hkn, hrv, hln, hlo⟩
set_option maxHeartbeats 4000000 in
set_option maxRecDepth 100000 in
theorem cX5_enter9 {w : Wo} {xs rs : List Nat} {rv : Int32} {ln : Nat} {pm lo : Int32} {ow us nb op up kn : List Nat} (cw : CW (xs, rs, rv, ln, pm, lo, ow, us, nb, op, up, kn) w) (ps : PSok (xs, rs, rv, ln, pm, lo, ow, us, nb, op, up, kn)) {p1 : Int32} : Xtr mX5_enter [.ref 0, .int p1] w (PV fun w' => ((p1 = 0 ∧ CW (xs, rs, rv, ln, pm, lo, strms (ownKey rv ln op) (turnsOf rv) (padd up), us, nb, op, up, []) w') ∨ (p1 = 1 ∧ CW (xs, rs, rv, ln, pm, lo, ow, entOf rv nb (keyOf rv ln pm lo ow nb up), nb, op, up, []) w')) ∧ fr w w') (fun E w' => w' = w ∧ ((E = "java/lang/IllegalArgumentException" ∧ (¬ p1 = 0 ∧ ¬ p1 = 1)))) := by
  refine Xtr_intro okX5_enter rfl (Nat.le_of_ble_eq_true rfl) (L := [some (.ref 0), some (.int p1)]) rfl (fun g ct C T_ NT => ?_)
  have cw0 := cw
  have ps0 := ps
  refine CW_open cw (fun f2 f4 f7 f9 f11 f13 f15 f17 f28 f30 f32 f34 gl tl ml ul sA sB sC sD fw ftb SB K B fe w_0 w_5 w_1 w_2 h_xs k_xs w_3 w_4 h_rs k_rs w_6 w_7 h_ow k_ow w_8 w_9 h_us k_us w_10 w_11 h_nb k_nb w_12 w_13 h_op k_op w_14 w_15 h_up k_up w_16 w_17 h_kn k_kn w_27 w_28 h_gl k_gl w_29 w_30 h_tl k_tl w_31 w_32 h_ml k_ml w_33 w_34 h_ul k_ul w_18 w_19 w_20 w_21 w_22 w_23 hsb w_24 w_25 w_26 => ?_)
  obtain ⟨bx, br, bo, bu, bn, bp, bq, bk9, lo9, lu9, hkn, hrv, hln, hlo⟩ := ps
  refine r_iload_n C dX5_enter_0 rfl ?_
  refine r_if_eq C 19 dX5_enter_1 (by decide) (fun c_1 => ?_) (fun c_1 => ?_)
  · skip
    refine r_iload_n C dX5_enter_19 rfl ?_
    refine r_if_ne C 33 dX5_enter_20 (by decide) (fun c_20 => ?_) (fun c_20 => ?_)
    · skip
      exact (by first | omega | exact absurd c_20 c_1 | exact absurd c_1 c_20)
    · skip
      refine r_aload_n C dX5_enter_23 rfl ?_
      refine r_get C dX5_enter_24 fgRX5_24 (Nat.le_of_ble_eq_true rfl) w_0 rfl ?_
      refine r_callVv C (As := []) (rest := []) dX5_enter_27 (cX1_makeOwnerEntry9 cw0 ps0) okX1_makeOwnerEntry mlRX5_96 imX1_makeOwnerEntry seX1_makeOwnerEntry ⟨by decide, by decide⟩ rfl rfl (Nat.le_of_ble_eq_true rfl) w_5 rfl rfl (Nat.le_of_ble_eq_true rfl) (by decide) (by decide) (fun w9 h9 => ?_)
      obtain ⟨hc_, hf_⟩ := h9
      have ps9 := PS_ow ps0
      refine r_goto C 40 dX5_enter_30 (by decide) ?_
      refine r_aload_n C dX5_enter_40 rfl ?_
      refine r_get C dX5_enter_41 fgRX5_24 (Nat.le_of_ble_eq_true rfl) (CW_0 hc_) rfl ?_
      refine r_get C dX5_enter_44 fgRX5_73 (Nat.le_of_ble_eq_true rfl) (CW_5 hc_) rfl ?_
      refine r_callVv C (As := []) (rest := []) dX5_enter_47 (cX3_clearK9 hc_ ps9) okX3_clear mlRX5_76 imX3_clear seX3_clear ⟨by decide, by decide⟩ rfl rfl (Nat.le_of_ble_eq_true rfl) (CW_16 hc_) rfl rfl (Nat.le_of_ble_eq_true rfl) (by decide) (by decide) (fun w9 h9 => ?_)
      obtain ⟨hd_, hg_⟩ := h9
      exact r_returnX C T_ (Nat.le_of_ble_eq_true rfl) (Nat.le_of_ble_eq_true rfl) rfl dX5_enter_50 (⟨rfl, Or.inl ⟨c_1, hd_⟩, fr_tr hf_ hg_⟩)
  · skip
    refine r_iload_n C dX5_enter_4 rfl ?_
    refine r_iconst C dX5_enter_5 (v := 1) (by decide) ?_
    refine r_icmp_eq C 19 dX5_enter_6 (by decide) (fun c_6 => ?_) (fun c_6 => ?_)
    · skip
      refine r_iload_n C dX5_enter_19 rfl ?_
      refine r_if_ne C 33 dX5_enter_20 (by decide) (fun c_20 => ?_) (fun c_20 => ?_)
      · skip
        refine r_aload_n C dX5_enter_33 rfl ?_
        refine r_get C dX5_enter_34 fgRX5_24 (Nat.le_of_ble_eq_true rfl) w_0 rfl ?_
        refine r_callVv C (As := []) (rest := []) dX5_enter_37 (cX1_makeUserEntry9 cw0 ps0) okX1_makeUserEntry mlRX5_99 imX1_makeUserEntry seX1_makeUserEntry ⟨by decide, by decide⟩ rfl rfl (Nat.le_of_ble_eq_true rfl) w_5 rfl rfl (Nat.le_of_ble_eq_true rfl) (by decide) (by decide) (fun w9 h9 => ?_)
        obtain ⟨hc_, hf_⟩ := h9
        have ps9 := PS_us ps0
        refine r_aload_n C dX5_enter_40 rfl ?_
        refine r_get C dX5_enter_41 fgRX5_24 (Nat.le_of_ble_eq_true rfl) (CW_0 hc_) rfl ?_
        refine r_get C dX5_enter_44 fgRX5_73 (Nat.le_of_ble_eq_true rfl) (CW_5 hc_) rfl ?_
        refine r_callVv C (As := []) (rest := []) dX5_enter_47 (cX3_clearK9 hc_ ps9) okX3_clear mlRX5_76 imX3_clear seX3_clear ⟨by decide, by decide⟩ rfl rfl (Nat.le_of_ble_eq_true rfl) (CW_16 hc_) rfl rfl (Nat.le_of_ble_eq_true rfl) (by decide) (by decide) (fun w9 h9 => ?_)
        obtain ⟨hd_, hg_⟩ := h9
        exact r_returnX C T_ (Nat.le_of_ble_eq_true rfl) (Nat.le_of_ble_eq_true rfl) rfl dX5_enter_50 (⟨rfl, Or.inr ⟨c_6, hd_⟩, fr_tr hf_ hg_⟩)
      · skip
        exact (by first | omega | exact absurd c_20 c_1 | exact absurd c_1 c_20)
    · skip
      exact r_throwS C T_ NT dX5_enter_9 dX5_enter_12 dX5_enter_13 dX5_enter_15 dX5_enter_18 exxA rfl (List.mem_of_getElem? (i := 7) rfl) (Nat.le_of_ble_eq_true rfl) (Nat.le_of_ble_eq_true rfl) (Nat.le_of_ble_eq_true rfl) (Nat.le_of_ble_eq_true rfl) (⟨rfl, ⟨rfl, c_1, c_6⟩⟩)
set_option maxHeartbeats 4000000 in
set_option maxRecDepth 100000 in
theorem cX5_undo9 {w : Wo} {xs rs : List Nat} {rv : Int32} {ln : Nat} {pm lo : Int32} {ow us nb op up kn : List Nat} (cw : CW (xs, rs, rv, ln, pm, lo, ow, us, nb, op, up, kn) w) (ps : PSok (xs, rs, rv, ln, pm, lo, ow, us, nb, op, up, kn)) {nu ge me : Int32} : Xtr mX5_undo [.ref 0, .int nu, .int ge, .int me] w (PI fun r w' => sndO nu ge me ∧ ¬ kn = [] ∧ CW (xs, (unR me (objKey ln kn nu ge (me = 2)) xs rs).2, rv, ln, pm, lo, ow, us, nb, op, up, kn) w' ∧ fr w w' ∧ r = (unR me (objKey ln kn nu ge (me = 2)) xs rs).1) (fun E w' => w' = w ∧ ((E = "java/lang/IllegalArgumentException" ∧ ¬ sndO nu ge me) ∨ (E = "java/lang/IllegalStateException" ∧ sndO nu ge me ∧ kn = []))) := by
  refine Xtr_intro okX5_undo rfl (Nat.le_of_ble_eq_true rfl) (L := [some (.ref 0), some (.int nu), some (.int ge), some (.int me)]) rfl (fun g ct C T_ NT => ?_)
  have cw0 := cw
  have ps0 := ps
  refine CW_open cw (fun f2 f4 f7 f9 f11 f13 f15 f17 f28 f30 f32 f34 gl tl ml ul sA sB sC sD fw ftb SB K B fe w_0 w_5 w_1 w_2 h_xs k_xs w_3 w_4 h_rs k_rs w_6 w_7 h_ow k_ow w_8 w_9 h_us k_us w_10 w_11 h_nb k_nb w_12 w_13 h_op k_op w_14 w_15 h_up k_up w_16 w_17 h_kn k_kn w_27 w_28 h_gl k_gl w_29 w_30 h_tl k_tl w_31 w_32 h_ml k_ml w_33 w_34 h_ul k_ul w_18 w_19 w_20 w_21 w_22 w_23 hsb w_24 w_25 w_26 => ?_)
  obtain ⟨bx, br, bo, bu, bn, bp, bq, bk9, lo9, lu9, hkn, hrv, hln, hlo⟩ := ps
  refine r_iload_n C dX5_undo_0 rfl ?_
  refine r_iload_n C dX5_undo_1 rfl ?_
  refine r_iload_n C dX5_undo_2 rfl ?_
  refine r_callSi C (As := [.int nu, .int ge, .int me]) (rest := []) dX5_undo_3 (cX5_isObject9) okX5_isObject mlRX5_120 stX5_isObject ⟨by decide, by decide⟩ rfl rfl (Nat.le_of_ble_eq_true rfl) (by decide) (by decide) (fun r_1 w9 h9 => ?_)
  obtain ⟨e9, er_⟩ := h9
  have e9 := e9.symm
  subst e9
  refine r_if_ne C 19 dX5_undo_6 (by decide) (fun c_6 => ?_) (fun c_6 => ?_)
  · skip
    have hs9 := (er_.resolve_right (fun z => c_6 z.2)).1
    refine r_aload_n C dX5_undo_19 rfl ?_
    refine r_get C dX5_undo_20 fgRX5_24 (Nat.le_of_ble_eq_true rfl) w_0 rfl ?_
    refine r_get C dX5_undo_23 fgRX5_73 (Nat.le_of_ble_eq_true rfl) w_5 rfl ?_
    refine r_get C dX5_undo_26 fgRX5_28 (Nat.le_of_ble_eq_true rfl) w_16 rfl ?_
    refine r_if_ne C 42 dX5_undo_29 (by decide) (fun c_29 => ?_) (fun c_29 => ?_)
    · skip
      have c_29 : ¬ (kn.length = 0) := fun h9 => c_29 ((nI_eq (a := kn.length) (b := 0) (by omega) (by omega)).mpr h9)
      have hk9 : ¬ kn = [] := fun z => c_29 (by rw [z]; rfl)
      refine r_iload_n C dX5_undo_42 rfl ?_
      refine r_iconst C dX5_undo_43 (v := 2) (by decide) ?_
      refine r_icmp_ne C 54 dX5_undo_44 (by decide) (fun c_44 => ?_) (fun c_44 => ?_)
      · skip
        refine r_aload_n C dX5_undo_54 rfl ?_
        refine r_iload_n C dX5_undo_55 rfl ?_
        refine r_iload_n C dX5_undo_56 rfl ?_
        refine r_iload_n C dX5_undo_57 rfl ?_
        refine r_callVi C (As := [.int nu, .int ge, .int me]) (rest := []) dX5_undo_58 (cX5_streamOrCopy9 cw0 ps0) okX5_streamOrCopy mlRX5_132 imX5_streamOrCopy seX5_streamOrCopy ⟨by decide, by decide⟩ rfl rfl (Nat.le_of_ble_eq_true rfl) w_0 rfl rfl (Nat.le_of_ble_eq_true rfl) (by decide) (by decide) (fun r_ w9 h9 => ?_)
        obtain ⟨hc_, hf_, hr_⟩ := h9
        exact r_ireturnX C T_ (Nat.le_of_ble_eq_true rfl) (Nat.le_of_ble_eq_true rfl) rfl rfl dX5_undo_61 (⟨_, rfl, hs9, hk9, by rw [show unR me (objKey ln kn nu ge (me = 2)) xs rs = (nI xs.length, if me = 1 then strm (objKey ln kn nu ge (me = 2)) 0 xs else xs) from if_neg c_44]; exact hc_, hf_, by rw [show unR me (objKey ln kn nu ge (me = 2)) xs rs = (nI xs.length, if me = 1 then strm (objKey ln kn nu ge (me = 2)) 0 xs else xs) from if_neg c_44]; exact hr_⟩)
      · skip
        refine r_aload_n C dX5_undo_47 rfl ?_
        refine r_iload_n C dX5_undo_48 rfl ?_
        refine r_iload_n C dX5_undo_49 rfl ?_
        refine r_callVi C (As := [.int nu, .int ge]) (rest := []) dX5_undo_50 (cX5_undoBlocks9 cw0 ps0) okX5_undoBlocks mlRX5_128 imX5_undoBlocks seX5_undoBlocks ⟨by decide, by decide⟩ rfl rfl (Nat.le_of_ble_eq_true rfl) w_0 rfl rfl (Nat.le_of_ble_eq_true rfl) (by decide) (by decide) (fun r_ w9 h9 => ?_)
        obtain ⟨hc_, hf_, hr_⟩ := h9
        exact r_ireturnX C T_ (Nat.le_of_ble_eq_true rfl) (Nat.le_of_ble_eq_true rfl) rfl rfl dX5_undo_53 (⟨_, rfl, hs9, hk9, by rw [show unR me (objKey ln kn nu ge (me = 2)) xs rs = undB (kx (objKey ln kn nu ge (me = 2))) xs rs from if_pos c_44]; subst c_44; exact hc_, hf_, by rw [show unR me (objKey ln kn nu ge (me = 2)) xs rs = undB (kx (objKey ln kn nu ge (me = 2))) xs rs from if_pos c_44]; subst c_44; exact hr_⟩)
    · skip
      have c_29 : kn.length = 0 := (nI_eq (a := kn.length) (b := 0) (by omega) (by omega)).mp c_29
      have hk9 : kn = [] := List.eq_nil_of_length_eq_zero c_29
      exact r_throwS C T_ NT dX5_undo_32 dX5_undo_35 dX5_undo_36 dX5_undo_38 dX5_undo_41 exxS rfl (List.mem_of_getElem? (i := 9) rfl) (Nat.le_of_ble_eq_true rfl) (Nat.le_of_ble_eq_true rfl) (Nat.le_of_ble_eq_true rfl) (Nat.le_of_ble_eq_true rfl) (⟨rfl, Or.inr (⟨rfl, hs9, hk9⟩)⟩)
  · skip
    have hs9 := (er_.resolve_left (fun z => absurd (z.2.symm.trans c_6) (by decide))).1
    exact r_throwS C T_ NT dX5_undo_9 dX5_undo_12 dX5_undo_13 dX5_undo_15 dX5_undo_18 exxA rfl (List.mem_of_getElem? (i := 8) rfl) (Nat.le_of_ble_eq_true rfl) (Nat.le_of_ble_eq_true rfl) (Nat.le_of_ble_eq_true rfl) (Nat.le_of_ble_eq_true rfl) (⟨rfl, Or.inl ⟨rfl, hs9⟩⟩)
set_option maxHeartbeats 4000000 in
set_option maxRecDepth 100000 in
theorem cX5_seal9 {w : Wo} {xs rs : List Nat} {rv : Int32} {ln : Nat} {pm lo : Int32} {ow us nb op up kn : List Nat} (cw : CW (xs, rs, rv, ln, pm, lo, ow, us, nb, op, up, kn) w) (ps : PSok (xs, rs, rv, ln, pm, lo, ow, us, nb, op, up, kn)) {nu ge me one two : Int32} : Xtr mX5_seal [.ref 0, .int nu, .int ge, .int me, .int one, .int two] w (PI fun r w' => sndO nu ge me ∧ ¬ kn = [] ∧ fitR me xs ∧ CW (xs, (seR me (objKey ln kn nu ge (me = 2)) xs one two).2, rv, ln, pm, lo, ow, us, nb, op, up, kn) w' ∧ fr w w' ∧ r = (seR me (objKey ln kn nu ge (me = 2)) xs one two).1) (fun E w' => w' = w ∧ ((E = "java/lang/IllegalArgumentException" ∧ ¬ sndO nu ge me) ∨ (E = "java/lang/IllegalStateException" ∧ sndO nu ge me ∧ (kn = [] ∨ ¬ fitR me xs)))) := by
  refine Xtr_intro okX5_seal rfl (Nat.le_of_ble_eq_true rfl) (L := [some (.ref 0), some (.int nu), some (.int ge), some (.int me), some (.int one), some (.int two)]) rfl (fun g ct C T_ NT => ?_)
  have cw0 := cw
  have ps0 := ps
  refine CW_open cw (fun f2 f4 f7 f9 f11 f13 f15 f17 f28 f30 f32 f34 gl tl ml ul sA sB sC sD fw ftb SB K B fe w_0 w_5 w_1 w_2 h_xs k_xs w_3 w_4 h_rs k_rs w_6 w_7 h_ow k_ow w_8 w_9 h_us k_us w_10 w_11 h_nb k_nb w_12 w_13 h_op k_op w_14 w_15 h_up k_up w_16 w_17 h_kn k_kn w_27 w_28 h_gl k_gl w_29 w_30 h_tl k_tl w_31 w_32 h_ml k_ml w_33 w_34 h_ul k_ul w_18 w_19 w_20 w_21 w_22 w_23 hsb w_24 w_25 w_26 => ?_)
  obtain ⟨bx, br, bo, bu, bn, bp, bq, bk9, lo9, lu9, hkn, hrv, hln, hlo⟩ := ps
  refine r_iload_n C dX5_seal_0 rfl ?_
  refine r_iload_n C dX5_seal_1 rfl ?_
  refine r_iload_n C dX5_seal_2 rfl ?_
  refine r_callSi C (As := [.int nu, .int ge, .int me]) (rest := []) dX5_seal_3 (cX5_isObject9) okX5_isObject mlRX5_120 stX5_isObject ⟨by decide, by decide⟩ rfl rfl (Nat.le_of_ble_eq_true rfl) (by decide) (by decide) (fun r_1 w9 h9 => ?_)
  obtain ⟨e9, er_⟩ := h9
  have e9 := e9.symm
  subst e9
  refine r_if_ne C 19 dX5_seal_6 (by decide) (fun c_6 => ?_) (fun c_6 => ?_)
  · skip
    have hs9 := (er_.resolve_right (fun z => c_6 z.2)).1
    refine r_aload_n C dX5_seal_19 rfl ?_
    refine r_get C dX5_seal_20 fgRX5_24 (Nat.le_of_ble_eq_true rfl) w_0 rfl ?_
    refine r_get C dX5_seal_23 fgRX5_73 (Nat.le_of_ble_eq_true rfl) w_5 rfl ?_
    refine r_get C dX5_seal_26 fgRX5_28 (Nat.le_of_ble_eq_true rfl) w_16 rfl ?_
    refine r_if_ne C 42 dX5_seal_29 (by decide) (fun c_29 => ?_) (fun c_29 => ?_)
    · skip
      have c_29 : ¬ (kn.length = 0) := fun h9 => c_29 ((nI_eq (a := kn.length) (b := 0) (by omega) (by omega)).mpr h9)
      have hk9 : ¬ kn = [] := fun z => c_29 (by rw [z]; rfl)
      refine r_iload_n C dX5_seal_42 rfl ?_
      refine r_iconst C dX5_seal_43 (v := 2) (by decide) ?_
      refine r_icmp_eq C 55 dX5_seal_44 (by decide) (fun c_44 => ?_) (fun c_44 => ?_)
      · skip
        refine r_bipush C dX5_seal_55 (v := 16) (by decide) ?_
        refine r_aload_n C dX5_seal_57 rfl ?_
        refine r_get C dX5_seal_58 fgRX5_14 (Nat.le_of_ble_eq_true rfl) w_0 rfl ?_
        refine r_get C dX5_seal_61 fgRX5_28 (Nat.le_of_ble_eq_true rfl) w_1 rfl ?_
        refine r_iadd C dX5_seal_64 ?_
        refine r_top (y := nI (16 + xs.length)) (nI_add 16 xs.length) ?_
        refine r_aload_n C dX5_seal_65 rfl ?_
        refine r_callVi C (As := []) (rest := [.int (nI (16 + xs.length))]) dX5_seal_66 (cX5_fillingBytes9 cw0 ps0) okX5_fillingBytes mlRX5_136 imX5_fillingBytes seX5_fillingBytes ⟨by decide, by decide⟩ rfl rfl (Nat.le_of_ble_eq_true rfl) w_0 rfl rfl (Nat.le_of_ble_eq_true rfl) (by decide) (by decide) (fun r_2 w9 h9 => ?_)
        obtain ⟨e9, rfl⟩ := h9
        have e9 := e9.symm
        subst e9
        refine r_iadd C dX5_seal_69 ?_
        refine r_top (y := nI ((16 + xs.length) + (16 - xs.length % 16))) (nI_add (16 + xs.length) (16 - xs.length % 16)) ?_
        refine r_sipush C dX5_seal_70 (v := 16384) (by decide) ?_
        refine r_icmp_le C 86 dX5_seal_73 (by decide) (fun c_73 => ?_) (fun c_73 => ?_)
        · skip
          have c_73 : ((16 + xs.length) + (16 - xs.length % 16)) ≤ 16384 := (nI_leI (a := (16 + xs.length) + (16 - xs.length % 16)) (b := 16384) (by omega) (by omega)).mp c_73
          refine r_aload_n C dX5_seal_86 rfl ?_
          refine r_iload_n C dX5_seal_87 rfl ?_
          refine r_iload_n C dX5_seal_88 rfl ?_
          refine r_iload C dX5_seal_89 rfl ?_
          refine r_iload C dX5_seal_91 rfl ?_
          refine r_callVi C (As := [.int nu, .int ge, .int one, .int two]) (rest := []) dX5_seal_93 (cX5_sealBlocks9 cw0 ps0 (by omega)) okX5_sealBlocks mlRX5_142 imX5_sealBlocks seX5_sealBlocks ⟨by decide, by decide⟩ rfl rfl (Nat.le_of_ble_eq_true rfl) w_0 rfl rfl (Nat.le_of_ble_eq_true rfl) (by decide) (by decide) (fun r_ w9 h9 => ?_)
          obtain ⟨hc_, hf_, hr_⟩ := h9
          exact r_ireturnX C T_ (Nat.le_of_ble_eq_true rfl) (Nat.le_of_ble_eq_true rfl) rfl rfl dX5_seal_96 (⟨_, rfl, hs9, hk9, Or.inr (by omega), by rw [show seR me (objKey ln kn nu ge (me = 2)) xs one two = (nI (selB (kx (objKey ln kn nu ge (me = 2))) xs one two).length, selB (kx (objKey ln kn nu ge (me = 2))) xs one two) from if_pos c_44]; subst c_44; exact hc_, hf_, by rw [show seR me (objKey ln kn nu ge (me = 2)) xs one two = (nI (selB (kx (objKey ln kn nu ge (me = 2))) xs one two).length, selB (kx (objKey ln kn nu ge (me = 2))) xs one two) from if_pos c_44]; subst c_44; exact hr_⟩)
        · skip
          have c_73 : ¬ (((16 + xs.length) + (16 - xs.length % 16)) ≤ 16384) := fun h9 => c_73 ((nI_leI (a := (16 + xs.length) + (16 - xs.length % 16)) (b := 16384) (by omega) (by omega)).mpr h9)
          exact r_throwS C T_ NT dX5_seal_76 dX5_seal_79 dX5_seal_80 dX5_seal_82 dX5_seal_85 exxS rfl (List.mem_of_getElem? (i := 10) rfl) (Nat.le_of_ble_eq_true rfl) (Nat.le_of_ble_eq_true rfl) (Nat.le_of_ble_eq_true rfl) (Nat.le_of_ble_eq_true rfl) (⟨rfl, Or.inr (⟨rfl, hs9, Or.inr (fun z => z.elim (fun y => y c_44) (fun y => absurd y (by omega)))⟩)⟩)
      · skip
        refine r_aload_n C dX5_seal_47 rfl ?_
        refine r_iload_n C dX5_seal_48 rfl ?_
        refine r_iload_n C dX5_seal_49 rfl ?_
        refine r_iload_n C dX5_seal_50 rfl ?_
        refine r_callVi C (As := [.int nu, .int ge, .int me]) (rest := []) dX5_seal_51 (cX5_streamOrCopy9 cw0 ps0) okX5_streamOrCopy mlRX5_132 imX5_streamOrCopy seX5_streamOrCopy ⟨by decide, by decide⟩ rfl rfl (Nat.le_of_ble_eq_true rfl) w_0 rfl rfl (Nat.le_of_ble_eq_true rfl) (by decide) (by decide) (fun r_ w9 h9 => ?_)
        obtain ⟨hc_, hf_, hr_⟩ := h9
        exact r_ireturnX C T_ (Nat.le_of_ble_eq_true rfl) (Nat.le_of_ble_eq_true rfl) rfl rfl dX5_seal_54 (⟨_, rfl, hs9, hk9, Or.inl c_44, by rw [show seR me (objKey ln kn nu ge (me = 2)) xs one two = (nI xs.length, if me = 1 then strm (objKey ln kn nu ge (me = 2)) 0 xs else xs) from if_neg c_44]; exact hc_, hf_, by rw [show seR me (objKey ln kn nu ge (me = 2)) xs one two = (nI xs.length, if me = 1 then strm (objKey ln kn nu ge (me = 2)) 0 xs else xs) from if_neg c_44]; exact hr_⟩)
    · skip
      have c_29 : kn.length = 0 := (nI_eq (a := kn.length) (b := 0) (by omega) (by omega)).mp c_29
      have hk9 : kn = [] := List.eq_nil_of_length_eq_zero c_29
      exact r_throwS C T_ NT dX5_seal_32 dX5_seal_35 dX5_seal_36 dX5_seal_38 dX5_seal_41 exxS rfl (List.mem_of_getElem? (i := 9) rfl) (Nat.le_of_ble_eq_true rfl) (Nat.le_of_ble_eq_true rfl) (Nat.le_of_ble_eq_true rfl) (Nat.le_of_ble_eq_true rfl) (⟨rfl, Or.inr (⟨rfl, hs9, Or.inl hk9⟩)⟩)
  · skip
    have hs9 := (er_.resolve_left (fun z => absurd (z.2.symm.trans c_6) (by decide))).1
    exact r_throwS C T_ NT dX5_seal_9 dX5_seal_12 dX5_seal_13 dX5_seal_15 dX5_seal_18 exxA rfl (List.mem_of_getElem? (i := 8) rfl) (Nat.le_of_ble_eq_true rfl) (Nat.le_of_ble_eq_true rfl) (Nat.le_of_ble_eq_true rfl) (Nat.le_of_ble_eq_true rfl) (⟨rfl, Or.inl ⟨rfl, hs9⟩⟩)
set_option maxHeartbeats 4000000 in
set_option maxRecDepth 100000 in
theorem cX1_toldRow9_0 {w : Wo} {rv pm lo : Int32} {ln : Nat} (w_5 : w 5 = ob 1 [.int rv, .int (nI ln), .int pm, .int lo, .ref 6, .ref 8, .ref 10, .ref 12, .ref 14, .ref 16, .ref 18, .ref 20, .ref 22, .ref 27, .ref 29, .ref 31, .ref 33]) : Ctr mX1_toldRow [.ref 5, .int 0] w (PR fun a w' => a = 6 ∧ w' = w) := by
  refine Ctr_intro okX1_toldRow rfl (Nat.le_of_ble_eq_true rfl) (L := [some (.ref 5), some (.int 0)]) rfl (fun g ct C T_ => ?_)
  refine r_iload_n C dX1_toldRow_0 rfl ?_
  refine r_tabIn C 36 dX1_toldRow_1 (by decide) (by decide) (off := 35) (by decide) (by decide) ?_
  refine r_aload_n C dX1_toldRow_36 rfl ?_
  refine r_get C dX1_toldRow_37 fgRX1_30 (Nat.le_of_ble_eq_true rfl) w_5 rfl ?_
  exact r_areturn C T_ rfl dX1_toldRow_40 (⟨_, rfl, rfl, rfl⟩)
set_option maxHeartbeats 4000000 in
set_option maxRecDepth 100000 in
theorem cX1_toldRow9_1 {w : Wo} {rv pm lo : Int32} {ln : Nat} (w_5 : w 5 = ob 1 [.int rv, .int (nI ln), .int pm, .int lo, .ref 6, .ref 8, .ref 10, .ref 12, .ref 14, .ref 16, .ref 18, .ref 20, .ref 22, .ref 27, .ref 29, .ref 31, .ref 33]) : Ctr mX1_toldRow [.ref 5, .int 1] w (PR fun a w' => a = 8 ∧ w' = w) := by
  refine Ctr_intro okX1_toldRow rfl (Nat.le_of_ble_eq_true rfl) (L := [some (.ref 5), some (.int 1)]) rfl (fun g ct C T_ => ?_)
  refine r_iload_n C dX1_toldRow_0 rfl ?_
  refine r_tabIn C 41 dX1_toldRow_1 (by decide) (by decide) (off := 40) (by decide) (by decide) ?_
  refine r_aload_n C dX1_toldRow_41 rfl ?_
  refine r_get C dX1_toldRow_42 fgRX1_34 (Nat.le_of_ble_eq_true rfl) w_5 rfl ?_
  exact r_areturn C T_ rfl dX1_toldRow_45 (⟨_, rfl, rfl, rfl⟩)
set_option maxHeartbeats 4000000 in
set_option maxRecDepth 100000 in
theorem cX1_toldRow9_2 {w : Wo} {rv pm lo : Int32} {ln : Nat} (w_5 : w 5 = ob 1 [.int rv, .int (nI ln), .int pm, .int lo, .ref 6, .ref 8, .ref 10, .ref 12, .ref 14, .ref 16, .ref 18, .ref 20, .ref 22, .ref 27, .ref 29, .ref 31, .ref 33]) : Ctr mX1_toldRow [.ref 5, .int 2] w (PR fun a w' => a = 10 ∧ w' = w) := by
  refine Ctr_intro okX1_toldRow rfl (Nat.le_of_ble_eq_true rfl) (L := [some (.ref 5), some (.int 2)]) rfl (fun g ct C T_ => ?_)
  refine r_iload_n C dX1_toldRow_0 rfl ?_
  refine r_tabIn C 46 dX1_toldRow_1 (by decide) (by decide) (off := 45) (by decide) (by decide) ?_
  refine r_aload_n C dX1_toldRow_46 rfl ?_
  refine r_get C dX1_toldRow_47 fgRX1_37 (Nat.le_of_ble_eq_true rfl) w_5 rfl ?_
  exact r_areturn C T_ rfl dX1_toldRow_50 (⟨_, rfl, rfl, rfl⟩)
set_option maxHeartbeats 4000000 in
set_option maxRecDepth 100000 in
theorem cX1_toldRow9_3 {w : Wo} {rv pm lo : Int32} {ln : Nat} (w_5 : w 5 = ob 1 [.int rv, .int (nI ln), .int pm, .int lo, .ref 6, .ref 8, .ref 10, .ref 12, .ref 14, .ref 16, .ref 18, .ref 20, .ref 22, .ref 27, .ref 29, .ref 31, .ref 33]) : Ctr mX1_toldRow [.ref 5, .int 3] w (PR fun a w' => a = 12 ∧ w' = w) := by
  refine Ctr_intro okX1_toldRow rfl (Nat.le_of_ble_eq_true rfl) (L := [some (.ref 5), some (.int 3)]) rfl (fun g ct C T_ => ?_)
  refine r_iload_n C dX1_toldRow_0 rfl ?_
  refine r_tabIn C 51 dX1_toldRow_1 (by decide) (by decide) (off := 50) (by decide) (by decide) ?_
  refine r_aload_n C dX1_toldRow_51 rfl ?_
  refine r_get C dX1_toldRow_52 fgRX1_40 (Nat.le_of_ble_eq_true rfl) w_5 rfl ?_
  exact r_areturn C T_ rfl dX1_toldRow_55 (⟨_, rfl, rfl, rfl⟩)
set_option maxHeartbeats 4000000 in
set_option maxRecDepth 100000 in
theorem cX1_toldRow9_4 {w : Wo} {rv pm lo : Int32} {ln : Nat} (w_5 : w 5 = ob 1 [.int rv, .int (nI ln), .int pm, .int lo, .ref 6, .ref 8, .ref 10, .ref 12, .ref 14, .ref 16, .ref 18, .ref 20, .ref 22, .ref 27, .ref 29, .ref 31, .ref 33]) : Ctr mX1_toldRow [.ref 5, .int 4] w (PR fun a w' => a = 14 ∧ w' = w) := by
  refine Ctr_intro okX1_toldRow rfl (Nat.le_of_ble_eq_true rfl) (L := [some (.ref 5), some (.int 4)]) rfl (fun g ct C T_ => ?_)
  refine r_iload_n C dX1_toldRow_0 rfl ?_
  refine r_tabIn C 56 dX1_toldRow_1 (by decide) (by decide) (off := 55) (by decide) (by decide) ?_
  refine r_aload_n C dX1_toldRow_56 rfl ?_
  refine r_get C dX1_toldRow_57 fgRX1_43 (Nat.le_of_ble_eq_true rfl) w_5 rfl ?_
  exact r_areturn C T_ rfl dX1_toldRow_60 (⟨_, rfl, rfl, rfl⟩)
set_option maxHeartbeats 4000000 in
theorem cX1_toldRow9_x {w : Wo} {p1 : Int32} (hno : ¬ tkIn p1) : Ctr mX1_toldRow [.ref 5, .int p1] w (fun r w' => r = some .null ∧ w' = w) := by
  refine Ctr_intro okX1_toldRow rfl (Nat.le_of_ble_eq_true rfl) (L := [some (.ref 5), some (.int p1)]) rfl (fun g ct C T_ => ?_)
  refine r_iload_n C dX1_toldRow_0 rfl ?_
  refine r_tabOut C 61 dX1_toldRow_1 (by
    by_cases h : p1 < 0
    · exact Or.inl (Int32.lt_iff_toInt_lt.mp h)
    · by_cases h2 : 4 < p1
      · exact Or.inr (Int32.lt_iff_toInt_lt.mp h2)
      · exact absurd ⟨h, h2⟩ hno) (by decide) ?_
  refine r_null C dX1_toldRow_61 ?_
  exact r_areturn0 C T_ rfl dX1_toldRow_62 ⟨rfl, rfl⟩
set_option maxHeartbeats 4000000 in
set_option maxRecDepth 100000 in
theorem cX5_take9_0 {w : Wo} {xs rs : List Nat} {rv : Int32} {ln : Nat} {pm lo : Int32} {ow us nb op up kn : List Nat} (cw : CW (xs, rs, rv, ln, pm, lo, ow, us, nb, op, up, kn) w) (ps : PSok (xs, rs, rv, ln, pm, lo, ow, us, nb, op, up, kn)) : Xtr mX5_take [.ref 0, .int 0] w (PI fun r w' => tkIn 0 ∧ tkOk 0 xs ∧ CW (tkS 0 (xs, rs, rv, ln, pm, lo, ow, us, nb, op, up, kn)) w' ∧ fr w w' ∧ r = nI xs.length) (fun E w' => w' = w ∧ ((E = "java/lang/IllegalArgumentException" ∧ ¬ tkIn 0) ∨ (E = "java/lang/IllegalStateException" ∧ tkIn 0 ∧ ¬ tkOk 0 xs))) := by
  refine Xtr_intro okX5_take rfl (Nat.le_of_ble_eq_true rfl) (L := [some (.ref 0), some (.int 0), none, none]) rfl (fun g ct C T_ NT => ?_)
  refine CW_open cw (fun f2 f4 f7 f9 f11 f13 f15 f17 f28 f30 f32 f34 gl tl ml ul sA sB sC sD fw ftb SB K B fe w_0 w_5 w_1 w_2 h_xs k_xs w_3 w_4 h_rs k_rs w_6 w_7 h_ow k_ow w_8 w_9 h_us k_us w_10 w_11 h_nb k_nb w_12 w_13 h_op k_op w_14 w_15 h_up k_up w_16 w_17 h_kn k_kn w_27 w_28 h_gl k_gl w_29 w_30 h_tl k_tl w_31 w_32 h_ml k_ml w_33 w_34 h_ul k_ul w_18 w_19 w_20 w_21 w_22 w_23 hsb w_24 w_25 w_26 => ?_)
  obtain ⟨bx, br, bo, bu, bn, bp, bq, bk9, lo9, lu9, hkn, hrv, hln, hlo⟩ := ps
  refine r_aload_n C dX5_take_0 rfl ?_
  refine r_get C dX5_take_1 fgRX5_24 (Nat.le_of_ble_eq_true rfl) w_0 rfl ?_
  refine r_iload_n C dX5_take_4 rfl ?_
  refine r_callVr C (As := [.int 0]) (rest := []) dX5_take_5 (cX1_toldRow9_0 w_5) okX1_toldRow mlRX5_79 imX1_toldRow seX1_toldRow ⟨by decide, by decide⟩ rfl rfl (Nat.le_of_ble_eq_true rfl) w_5 rfl rfl (Nat.le_of_ble_eq_true rfl) (by decide) (by decide) (fun a_1 w9 h9 => ?_)
  obtain ⟨rfl, e9⟩ := h9
  have e9 := e9.symm
  subst e9
  refine r_astore_n C dX5_take_8 (L' := [some (.ref 0), some (.int 0), some (.ref 6), none]) (by decide) rfl ?_
  refine r_aload_n C dX5_take_9 rfl ?_
  refine r_nonnull C 23 dX5_take_10 (by decide) ?_
  refine r_iload_n C dX5_take_23 rfl ?_
  refine r_iconst C dX5_take_24 (v := 1) (by decide) ?_
  refine r_icmp_gt C 32 dX5_take_25 (by decide) (fun c_25 => ?_) (fun c_25 => ?_)
  · skip
    exact absurd c_25 (by decide)
  · skip
    refine r_iconst C dX5_take_28 (v := 1) (by decide) ?_
    refine r_goto C 33 dX5_take_29 (by decide) ?_
    refine r_istore_n C dX5_take_33 (L' := [some (.ref 0), some (.int 0), some (.ref 6), some (.int 1)]) (by decide) rfl ?_
    refine r_iload_n C dX5_take_34 rfl ?_
    refine r_if_eq C 53 dX5_take_35 (by decide) (fun c_35 => ?_) (fun c_35 => ?_)
    · skip
      exact absurd c_35 (by decide)
    · skip
      refine r_aload_n C dX5_take_38 rfl ?_
      refine r_get C dX5_take_39 fgRX5_14 (Nat.le_of_ble_eq_true rfl) w_0 rfl ?_
      refine r_get C dX5_take_42 fgRX5_28 (Nat.le_of_ble_eq_true rfl) w_1 rfl ?_
      refine r_bipush C dX5_take_45 (v := 32) (by decide) ?_
      refine r_icmp_eq C 75 dX5_take_47 (by decide) (fun c_47 => ?_) (fun c_47 => ?_)
      · skip
        have c_47 : xs.length = 32 := (nI_eq (a := xs.length) (b := 32) (by omega) (by omega)).mp c_47
        refine r_aload_n C dX5_take_75 rfl ?_
        refine r_aload_n C dX5_take_76 rfl ?_
        refine r_get C dX5_take_77 fgRX5_14 (Nat.le_of_ble_eq_true rfl) w_0 rfl ?_
        refine r_callVv C (As := [.ref 1]) (rest := []) dX5_take_80 (cX3_become9 (Nat.le_of_ble_eq_true rfl) (Nat.le_of_ble_eq_true rfl) (Nat.ne_of_beq_eq_false rfl) w_6 w_7 h_ow (by first | omega | (simp only [List.length_append, List.length_nil, List.length_cons, List.length_take, List.length_replicate, List.length_range, List.length_map, lof_len, pad_len, padd_len, md5_len, strm_len, strms_len, entOf_len, hif_len] <;> omega)) (by decide) (Nat.le_of_ble_eq_true rfl) (Nat.le_of_ble_eq_true rfl) (Nat.ne_of_beq_eq_false rfl) (Nat.ne_of_beq_eq_false rfl) (Nat.ne_of_beq_eq_false rfl) (Nat.ne_of_beq_eq_false rfl) w_1 w_2 h_xs (by first | omega | (simp only [List.length_append, List.length_nil, List.length_cons, List.length_take, List.length_replicate, List.length_range, List.length_map, lof_len, pad_len, padd_len, md5_len, strm_len, strms_len, entOf_len, hif_len] <;> omega)) (by decide) (by first | omega | (simp only [List.length_append, List.length_nil, List.length_cons, List.length_take, List.length_replicate, List.length_range, List.length_map, lof_len, pad_len, padd_len, md5_len, strm_len, strms_len, entOf_len, hif_len] <;> omega))) okX3_become mlRX5_90 imX3_become seX3_become ⟨by decide, by decide⟩ rfl rfl (Nat.le_of_ble_eq_true rfl) w_6 rfl rfl (Nat.le_of_ble_eq_true rfl) (by decide) (by decide) (fun w9 h9 => ?_)
        obtain ⟨f_2, rfl, h_3⟩ := h9
        refine r_iload_n C dX5_take_83 rfl ?_
        refine r_iconst C dX5_take_84 (v := 2) (by decide) ?_
        refine r_icmp_gt C 98 dX5_take_85 (by decide) (fun c_85 => ?_) (fun c_85 => ?_)
        · skip
          exact absurd c_85 (by decide)
        · skip
          refine r_aload_n C dX5_take_88 rfl ?_
          refine r_get C dX5_take_89 fgRX5_24 (Nat.le_of_ble_eq_true rfl) (ws_ne (Nat.ne_of_beq_eq_false rfl) (ws_ne (Nat.ne_of_beq_eq_false rfl) w_0)) rfl ?_
          refine r_get C dX5_take_92 fgRX5_73 (Nat.le_of_ble_eq_true rfl) (ws_ne (Nat.ne_of_beq_eq_false rfl) (ws_ne (Nat.ne_of_beq_eq_false rfl) w_5)) rfl ?_
          refine r_callVv C (As := []) (rest := []) dX5_take_95 (cX3_clear9 (Nat.le_of_ble_eq_true rfl) (Nat.le_of_ble_eq_true rfl) (Nat.ne_of_beq_eq_false rfl) (ws_ne (Nat.ne_of_beq_eq_false rfl) (ws_ne (Nat.ne_of_beq_eq_false rfl) w_16)) (ws_ne (Nat.ne_of_beq_eq_false rfl) (ws_ne (Nat.ne_of_beq_eq_false rfl) w_17)) h_kn (by first | omega | (simp only [List.length_append, List.length_nil, List.length_cons, List.length_take, List.length_replicate, List.length_range, List.length_map, lof_len, pad_len, padd_len, md5_len, strm_len, strms_len, entOf_len, hif_len] <;> omega)) (by decide)) okX3_clear mlRX5_76 imX3_clear seX3_clear ⟨by decide, by decide⟩ rfl rfl (Nat.le_of_ble_eq_true rfl) (ws_ne (Nat.ne_of_beq_eq_false rfl) (ws_ne (Nat.ne_of_beq_eq_false rfl) w_16)) rfl rfl (Nat.le_of_ble_eq_true rfl) (by decide) (by decide) (fun w9 h9 => ?_)
          obtain rfl := h9
          refine r_aload_n C dX5_take_98 rfl ?_
          refine r_get C dX5_take_99 fgRX5_14 (Nat.le_of_ble_eq_true rfl) (ws_ne (Nat.ne_of_beq_eq_false rfl) (ws_ne (Nat.ne_of_beq_eq_false rfl) (ws_ne (Nat.ne_of_beq_eq_false rfl) w_0))) rfl ?_
          refine r_get C dX5_take_102 fgRX5_28 (Nat.le_of_ble_eq_true rfl) (ws_ne (Nat.ne_of_beq_eq_false rfl) (ws_ne (Nat.ne_of_beq_eq_false rfl) (ws_ne (Nat.ne_of_beq_eq_false rfl) w_1))) rfl ?_
          exact r_ireturnX C T_ (Nat.le_of_ble_eq_true rfl) (Nat.le_of_ble_eq_true rfl) rfl rfl dX5_take_105 (⟨_, rfl, ⟨by decide, by decide⟩, (by unfold tkOk; rw [if_pos (by decide)]; omega), by rw [tkS_0]; exact CW_mk (ws_ne (Nat.ne_of_beq_eq_false rfl) (ws_ne (Nat.ne_of_beq_eq_false rfl) (ws_ne (Nat.ne_of_beq_eq_false rfl) w_0))) (ws_ne (Nat.ne_of_beq_eq_false rfl) (ws_ne (Nat.ne_of_beq_eq_false rfl) (ws_ne (Nat.ne_of_beq_eq_false rfl) w_5))) (ws_ne (Nat.ne_of_beq_eq_false rfl) (ws_ne (Nat.ne_of_beq_eq_false rfl) (ws_ne (Nat.ne_of_beq_eq_false rfl) w_1))) (ws_ne (Nat.ne_of_beq_eq_false rfl) (ws_ne (Nat.ne_of_beq_eq_false rfl) (ws_ne (Nat.ne_of_beq_eq_false rfl) w_2))) h_xs (by first | omega | (simp only [List.length_append, List.length_nil, List.length_cons, List.length_take, List.length_replicate, List.length_range, List.length_map, lof_len, pad_len, padd_len, md5_len, strm_len, strms_len, entOf_len, hif_len] <;> omega)) (ws_ne (Nat.ne_of_beq_eq_false rfl) (ws_ne (Nat.ne_of_beq_eq_false rfl) (ws_ne (Nat.ne_of_beq_eq_false rfl) w_3))) (ws_ne (Nat.ne_of_beq_eq_false rfl) (ws_ne (Nat.ne_of_beq_eq_false rfl) (ws_ne (Nat.ne_of_beq_eq_false rfl) w_4))) h_rs (by first | omega | (simp only [List.length_append, List.length_nil, List.length_cons, List.length_take, List.length_replicate, List.length_range, List.length_map, lof_len, pad_len, padd_len, md5_len, strm_len, strms_len, entOf_len, hif_len] <;> omega)) (ws_ne (Nat.ne_of_beq_eq_false rfl) ws_eq) (ws_ne (Nat.ne_of_beq_eq_false rfl) (ws_ne (Nat.ne_of_beq_eq_false rfl) ws_eq)) h_3 (by first | omega | (simp only [List.length_append, List.length_nil, List.length_cons, List.length_take, List.length_replicate, List.length_range, List.length_map, lof_len, pad_len, padd_len, md5_len, strm_len, strms_len, entOf_len, hif_len] <;> omega)) (ws_ne (Nat.ne_of_beq_eq_false rfl) (ws_ne (Nat.ne_of_beq_eq_false rfl) (ws_ne (Nat.ne_of_beq_eq_false rfl) w_8))) (ws_ne (Nat.ne_of_beq_eq_false rfl) (ws_ne (Nat.ne_of_beq_eq_false rfl) (ws_ne (Nat.ne_of_beq_eq_false rfl) w_9))) h_us (by first | omega | (simp only [List.length_append, List.length_nil, List.length_cons, List.length_take, List.length_replicate, List.length_range, List.length_map, lof_len, pad_len, padd_len, md5_len, strm_len, strms_len, entOf_len, hif_len] <;> omega)) (ws_ne (Nat.ne_of_beq_eq_false rfl) (ws_ne (Nat.ne_of_beq_eq_false rfl) (ws_ne (Nat.ne_of_beq_eq_false rfl) w_10))) (ws_ne (Nat.ne_of_beq_eq_false rfl) (ws_ne (Nat.ne_of_beq_eq_false rfl) (ws_ne (Nat.ne_of_beq_eq_false rfl) w_11))) h_nb (by first | omega | (simp only [List.length_append, List.length_nil, List.length_cons, List.length_take, List.length_replicate, List.length_range, List.length_map, lof_len, pad_len, padd_len, md5_len, strm_len, strms_len, entOf_len, hif_len] <;> omega)) (ws_ne (Nat.ne_of_beq_eq_false rfl) (ws_ne (Nat.ne_of_beq_eq_false rfl) (ws_ne (Nat.ne_of_beq_eq_false rfl) w_12))) (ws_ne (Nat.ne_of_beq_eq_false rfl) (ws_ne (Nat.ne_of_beq_eq_false rfl) (ws_ne (Nat.ne_of_beq_eq_false rfl) w_13))) h_op (by first | omega | (simp only [List.length_append, List.length_nil, List.length_cons, List.length_take, List.length_replicate, List.length_range, List.length_map, lof_len, pad_len, padd_len, md5_len, strm_len, strms_len, entOf_len, hif_len] <;> omega)) (ws_ne (Nat.ne_of_beq_eq_false rfl) (ws_ne (Nat.ne_of_beq_eq_false rfl) (ws_ne (Nat.ne_of_beq_eq_false rfl) w_14))) (ws_ne (Nat.ne_of_beq_eq_false rfl) (ws_ne (Nat.ne_of_beq_eq_false rfl) (ws_ne (Nat.ne_of_beq_eq_false rfl) w_15))) h_up (by first | omega | (simp only [List.length_append, List.length_nil, List.length_cons, List.length_take, List.length_replicate, List.length_range, List.length_map, lof_len, pad_len, padd_len, md5_len, strm_len, strms_len, entOf_len, hif_len] <;> omega)) ws_eq (ws_ne (Nat.ne_of_beq_eq_false rfl) (ws_ne (Nat.ne_of_beq_eq_false rfl) (ws_ne (Nat.ne_of_beq_eq_false rfl) w_17))) (hs_nil _) (by first | omega | (simp only [List.length_append, List.length_nil, List.length_cons, List.length_take, List.length_replicate, List.length_range, List.length_map, lof_len, pad_len, padd_len, md5_len, strm_len, strms_len, entOf_len, hif_len] <;> omega)) (ws_ne (Nat.ne_of_beq_eq_false rfl) (ws_ne (Nat.ne_of_beq_eq_false rfl) (ws_ne (Nat.ne_of_beq_eq_false rfl) w_27))) (ws_ne (Nat.ne_of_beq_eq_false rfl) (ws_ne (Nat.ne_of_beq_eq_false rfl) (ws_ne (Nat.ne_of_beq_eq_false rfl) w_28))) h_gl (by first | omega | (simp only [List.length_append, List.length_nil, List.length_cons, List.length_take, List.length_replicate, List.length_range, List.length_map, lof_len, pad_len, padd_len, md5_len, strm_len, strms_len, entOf_len, hif_len] <;> omega)) (ws_ne (Nat.ne_of_beq_eq_false rfl) (ws_ne (Nat.ne_of_beq_eq_false rfl) (ws_ne (Nat.ne_of_beq_eq_false rfl) w_29))) (ws_ne (Nat.ne_of_beq_eq_false rfl) (ws_ne (Nat.ne_of_beq_eq_false rfl) (ws_ne (Nat.ne_of_beq_eq_false rfl) w_30))) h_tl (by first | omega | (simp only [List.length_append, List.length_nil, List.length_cons, List.length_take, List.length_replicate, List.length_range, List.length_map, lof_len, pad_len, padd_len, md5_len, strm_len, strms_len, entOf_len, hif_len] <;> omega)) (ws_ne (Nat.ne_of_beq_eq_false rfl) (ws_ne (Nat.ne_of_beq_eq_false rfl) (ws_ne (Nat.ne_of_beq_eq_false rfl) w_31))) (ws_ne (Nat.ne_of_beq_eq_false rfl) (ws_ne (Nat.ne_of_beq_eq_false rfl) (ws_ne (Nat.ne_of_beq_eq_false rfl) w_32))) h_ml (by first | omega | (simp only [List.length_append, List.length_nil, List.length_cons, List.length_take, List.length_replicate, List.length_range, List.length_map, lof_len, pad_len, padd_len, md5_len, strm_len, strms_len, entOf_len, hif_len] <;> omega)) (ws_ne (Nat.ne_of_beq_eq_false rfl) (ws_ne (Nat.ne_of_beq_eq_false rfl) (ws_ne (Nat.ne_of_beq_eq_false rfl) w_33))) (ws_ne (Nat.ne_of_beq_eq_false rfl) (ws_ne (Nat.ne_of_beq_eq_false rfl) (ws_ne (Nat.ne_of_beq_eq_false rfl) w_34))) h_ul (by first | omega | (simp only [List.length_append, List.length_nil, List.length_cons, List.length_take, List.length_replicate, List.length_range, List.length_map, lof_len, pad_len, padd_len, md5_len, strm_len, strms_len, entOf_len, hif_len] <;> omega)) (ws_ne (Nat.ne_of_beq_eq_false rfl) (ws_ne (Nat.ne_of_beq_eq_false rfl) (ws_ne (Nat.ne_of_beq_eq_false rfl) w_18))) (ws_ne (Nat.ne_of_beq_eq_false rfl) (ws_ne (Nat.ne_of_beq_eq_false rfl) (ws_ne (Nat.ne_of_beq_eq_false rfl) w_19))) (ws_ne (Nat.ne_of_beq_eq_false rfl) (ws_ne (Nat.ne_of_beq_eq_false rfl) (ws_ne (Nat.ne_of_beq_eq_false rfl) w_20))) (ws_ne (Nat.ne_of_beq_eq_false rfl) (ws_ne (Nat.ne_of_beq_eq_false rfl) (ws_ne (Nat.ne_of_beq_eq_false rfl) w_21))) (ws_ne (Nat.ne_of_beq_eq_false rfl) (ws_ne (Nat.ne_of_beq_eq_false rfl) (ws_ne (Nat.ne_of_beq_eq_false rfl) w_22))) (ws_ne (Nat.ne_of_beq_eq_false rfl) (ws_ne (Nat.ne_of_beq_eq_false rfl) (ws_ne (Nat.ne_of_beq_eq_false rfl) w_23))) hsb (ws_ne (Nat.ne_of_beq_eq_false rfl) (ws_ne (Nat.ne_of_beq_eq_false rfl) (ws_ne (Nat.ne_of_beq_eq_false rfl) w_24))) (ws_ne (Nat.ne_of_beq_eq_false rfl) (ws_ne (Nat.ne_of_beq_eq_false rfl) (ws_ne (Nat.ne_of_beq_eq_false rfl) w_25))) (ws_ne (Nat.ne_of_beq_eq_false rfl) (ws_ne (Nat.ne_of_beq_eq_false rfl) (ws_ne (Nat.ne_of_beq_eq_false rfl) w_26))), (fr_set (Nat.le_of_ble_eq_true rfl) (fr_set (Nat.le_of_ble_eq_true rfl) (fr_set (Nat.le_of_ble_eq_true rfl) (fr_rf _)))), rfl⟩)
      · skip
        have c_47 : ¬ (xs.length = 32) := fun h9 => c_47 ((nI_eq (a := xs.length) (b := 32) (by omega) (by omega)).mpr h9)
        refine r_goto C 65 dX5_take_50 (by decide) ?_
        exact r_throwS C T_ NT dX5_take_65 dX5_take_68 dX5_take_69 dX5_take_71 dX5_take_74 exxS rfl (List.mem_of_getElem? (i := 6) rfl) (Nat.le_of_ble_eq_true rfl) (Nat.le_of_ble_eq_true rfl) (Nat.le_of_ble_eq_true rfl) (Nat.le_of_ble_eq_true rfl) (⟨rfl, Or.inr (⟨rfl, ⟨by decide, by decide⟩, fun z => absurd (show xs.length = 32 from by unfold tkOk at z; rw [if_pos (by decide)] at z; exact z) (by omega)⟩)⟩)
set_option maxHeartbeats 4000000 in
set_option maxRecDepth 100000 in
theorem cX5_take9_1 {w : Wo} {xs rs : List Nat} {rv : Int32} {ln : Nat} {pm lo : Int32} {ow us nb op up kn : List Nat} (cw : CW (xs, rs, rv, ln, pm, lo, ow, us, nb, op, up, kn) w) (ps : PSok (xs, rs, rv, ln, pm, lo, ow, us, nb, op, up, kn)) : Xtr mX5_take [.ref 0, .int 1] w (PI fun r w' => tkIn 1 ∧ tkOk 1 xs ∧ CW (tkS 1 (xs, rs, rv, ln, pm, lo, ow, us, nb, op, up, kn)) w' ∧ fr w w' ∧ r = nI xs.length) (fun E w' => w' = w ∧ ((E = "java/lang/IllegalArgumentException" ∧ ¬ tkIn 1) ∨ (E = "java/lang/IllegalStateException" ∧ tkIn 1 ∧ ¬ tkOk 1 xs))) := by
  refine Xtr_intro okX5_take rfl (Nat.le_of_ble_eq_true rfl) (L := [some (.ref 0), some (.int 1), none, none]) rfl (fun g ct C T_ NT => ?_)
  refine CW_open cw (fun f2 f4 f7 f9 f11 f13 f15 f17 f28 f30 f32 f34 gl tl ml ul sA sB sC sD fw ftb SB K B fe w_0 w_5 w_1 w_2 h_xs k_xs w_3 w_4 h_rs k_rs w_6 w_7 h_ow k_ow w_8 w_9 h_us k_us w_10 w_11 h_nb k_nb w_12 w_13 h_op k_op w_14 w_15 h_up k_up w_16 w_17 h_kn k_kn w_27 w_28 h_gl k_gl w_29 w_30 h_tl k_tl w_31 w_32 h_ml k_ml w_33 w_34 h_ul k_ul w_18 w_19 w_20 w_21 w_22 w_23 hsb w_24 w_25 w_26 => ?_)
  obtain ⟨bx, br, bo, bu, bn, bp, bq, bk9, lo9, lu9, hkn, hrv, hln, hlo⟩ := ps
  refine r_aload_n C dX5_take_0 rfl ?_
  refine r_get C dX5_take_1 fgRX5_24 (Nat.le_of_ble_eq_true rfl) w_0 rfl ?_
  refine r_iload_n C dX5_take_4 rfl ?_
  refine r_callVr C (As := [.int 1]) (rest := []) dX5_take_5 (cX1_toldRow9_1 w_5) okX1_toldRow mlRX5_79 imX1_toldRow seX1_toldRow ⟨by decide, by decide⟩ rfl rfl (Nat.le_of_ble_eq_true rfl) w_5 rfl rfl (Nat.le_of_ble_eq_true rfl) (by decide) (by decide) (fun a_1 w9 h9 => ?_)
  obtain ⟨rfl, e9⟩ := h9
  have e9 := e9.symm
  subst e9
  refine r_astore_n C dX5_take_8 (L' := [some (.ref 0), some (.int 1), some (.ref 8), none]) (by decide) rfl ?_
  refine r_aload_n C dX5_take_9 rfl ?_
  refine r_nonnull C 23 dX5_take_10 (by decide) ?_
  refine r_iload_n C dX5_take_23 rfl ?_
  refine r_iconst C dX5_take_24 (v := 1) (by decide) ?_
  refine r_icmp_gt C 32 dX5_take_25 (by decide) (fun c_25 => ?_) (fun c_25 => ?_)
  · skip
    exact absurd c_25 (by decide)
  · skip
    refine r_iconst C dX5_take_28 (v := 1) (by decide) ?_
    refine r_goto C 33 dX5_take_29 (by decide) ?_
    refine r_istore_n C dX5_take_33 (L' := [some (.ref 0), some (.int 1), some (.ref 8), some (.int 1)]) (by decide) rfl ?_
    refine r_iload_n C dX5_take_34 rfl ?_
    refine r_if_eq C 53 dX5_take_35 (by decide) (fun c_35 => ?_) (fun c_35 => ?_)
    · skip
      exact absurd c_35 (by decide)
    · skip
      refine r_aload_n C dX5_take_38 rfl ?_
      refine r_get C dX5_take_39 fgRX5_14 (Nat.le_of_ble_eq_true rfl) w_0 rfl ?_
      refine r_get C dX5_take_42 fgRX5_28 (Nat.le_of_ble_eq_true rfl) w_1 rfl ?_
      refine r_bipush C dX5_take_45 (v := 32) (by decide) ?_
      refine r_icmp_eq C 75 dX5_take_47 (by decide) (fun c_47 => ?_) (fun c_47 => ?_)
      · skip
        have c_47 : xs.length = 32 := (nI_eq (a := xs.length) (b := 32) (by omega) (by omega)).mp c_47
        refine r_aload_n C dX5_take_75 rfl ?_
        refine r_aload_n C dX5_take_76 rfl ?_
        refine r_get C dX5_take_77 fgRX5_14 (Nat.le_of_ble_eq_true rfl) w_0 rfl ?_
        refine r_callVv C (As := [.ref 1]) (rest := []) dX5_take_80 (cX3_become9 (Nat.le_of_ble_eq_true rfl) (Nat.le_of_ble_eq_true rfl) (Nat.ne_of_beq_eq_false rfl) w_8 w_9 h_us (by first | omega | (simp only [List.length_append, List.length_nil, List.length_cons, List.length_take, List.length_replicate, List.length_range, List.length_map, lof_len, pad_len, padd_len, md5_len, strm_len, strms_len, entOf_len, hif_len] <;> omega)) (by decide) (Nat.le_of_ble_eq_true rfl) (Nat.le_of_ble_eq_true rfl) (Nat.ne_of_beq_eq_false rfl) (Nat.ne_of_beq_eq_false rfl) (Nat.ne_of_beq_eq_false rfl) (Nat.ne_of_beq_eq_false rfl) w_1 w_2 h_xs (by first | omega | (simp only [List.length_append, List.length_nil, List.length_cons, List.length_take, List.length_replicate, List.length_range, List.length_map, lof_len, pad_len, padd_len, md5_len, strm_len, strms_len, entOf_len, hif_len] <;> omega)) (by decide) (by first | omega | (simp only [List.length_append, List.length_nil, List.length_cons, List.length_take, List.length_replicate, List.length_range, List.length_map, lof_len, pad_len, padd_len, md5_len, strm_len, strms_len, entOf_len, hif_len] <;> omega))) okX3_become mlRX5_90 imX3_become seX3_become ⟨by decide, by decide⟩ rfl rfl (Nat.le_of_ble_eq_true rfl) w_8 rfl rfl (Nat.le_of_ble_eq_true rfl) (by decide) (by decide) (fun w9 h9 => ?_)
        obtain ⟨f_2, rfl, h_3⟩ := h9
        refine r_iload_n C dX5_take_83 rfl ?_
        refine r_iconst C dX5_take_84 (v := 2) (by decide) ?_
        refine r_icmp_gt C 98 dX5_take_85 (by decide) (fun c_85 => ?_) (fun c_85 => ?_)
        · skip
          exact absurd c_85 (by decide)
        · skip
          refine r_aload_n C dX5_take_88 rfl ?_
          refine r_get C dX5_take_89 fgRX5_24 (Nat.le_of_ble_eq_true rfl) (ws_ne (Nat.ne_of_beq_eq_false rfl) (ws_ne (Nat.ne_of_beq_eq_false rfl) w_0)) rfl ?_
          refine r_get C dX5_take_92 fgRX5_73 (Nat.le_of_ble_eq_true rfl) (ws_ne (Nat.ne_of_beq_eq_false rfl) (ws_ne (Nat.ne_of_beq_eq_false rfl) w_5)) rfl ?_
          refine r_callVv C (As := []) (rest := []) dX5_take_95 (cX3_clear9 (Nat.le_of_ble_eq_true rfl) (Nat.le_of_ble_eq_true rfl) (Nat.ne_of_beq_eq_false rfl) (ws_ne (Nat.ne_of_beq_eq_false rfl) (ws_ne (Nat.ne_of_beq_eq_false rfl) w_16)) (ws_ne (Nat.ne_of_beq_eq_false rfl) (ws_ne (Nat.ne_of_beq_eq_false rfl) w_17)) h_kn (by first | omega | (simp only [List.length_append, List.length_nil, List.length_cons, List.length_take, List.length_replicate, List.length_range, List.length_map, lof_len, pad_len, padd_len, md5_len, strm_len, strms_len, entOf_len, hif_len] <;> omega)) (by decide)) okX3_clear mlRX5_76 imX3_clear seX3_clear ⟨by decide, by decide⟩ rfl rfl (Nat.le_of_ble_eq_true rfl) (ws_ne (Nat.ne_of_beq_eq_false rfl) (ws_ne (Nat.ne_of_beq_eq_false rfl) w_16)) rfl rfl (Nat.le_of_ble_eq_true rfl) (by decide) (by decide) (fun w9 h9 => ?_)
          obtain rfl := h9
          refine r_aload_n C dX5_take_98 rfl ?_
          refine r_get C dX5_take_99 fgRX5_14 (Nat.le_of_ble_eq_true rfl) (ws_ne (Nat.ne_of_beq_eq_false rfl) (ws_ne (Nat.ne_of_beq_eq_false rfl) (ws_ne (Nat.ne_of_beq_eq_false rfl) w_0))) rfl ?_
          refine r_get C dX5_take_102 fgRX5_28 (Nat.le_of_ble_eq_true rfl) (ws_ne (Nat.ne_of_beq_eq_false rfl) (ws_ne (Nat.ne_of_beq_eq_false rfl) (ws_ne (Nat.ne_of_beq_eq_false rfl) w_1))) rfl ?_
          exact r_ireturnX C T_ (Nat.le_of_ble_eq_true rfl) (Nat.le_of_ble_eq_true rfl) rfl rfl dX5_take_105 (⟨_, rfl, ⟨by decide, by decide⟩, (by unfold tkOk; rw [if_pos (by decide)]; omega), by rw [tkS_1]; exact CW_mk (ws_ne (Nat.ne_of_beq_eq_false rfl) (ws_ne (Nat.ne_of_beq_eq_false rfl) (ws_ne (Nat.ne_of_beq_eq_false rfl) w_0))) (ws_ne (Nat.ne_of_beq_eq_false rfl) (ws_ne (Nat.ne_of_beq_eq_false rfl) (ws_ne (Nat.ne_of_beq_eq_false rfl) w_5))) (ws_ne (Nat.ne_of_beq_eq_false rfl) (ws_ne (Nat.ne_of_beq_eq_false rfl) (ws_ne (Nat.ne_of_beq_eq_false rfl) w_1))) (ws_ne (Nat.ne_of_beq_eq_false rfl) (ws_ne (Nat.ne_of_beq_eq_false rfl) (ws_ne (Nat.ne_of_beq_eq_false rfl) w_2))) h_xs (by first | omega | (simp only [List.length_append, List.length_nil, List.length_cons, List.length_take, List.length_replicate, List.length_range, List.length_map, lof_len, pad_len, padd_len, md5_len, strm_len, strms_len, entOf_len, hif_len] <;> omega)) (ws_ne (Nat.ne_of_beq_eq_false rfl) (ws_ne (Nat.ne_of_beq_eq_false rfl) (ws_ne (Nat.ne_of_beq_eq_false rfl) w_3))) (ws_ne (Nat.ne_of_beq_eq_false rfl) (ws_ne (Nat.ne_of_beq_eq_false rfl) (ws_ne (Nat.ne_of_beq_eq_false rfl) w_4))) h_rs (by first | omega | (simp only [List.length_append, List.length_nil, List.length_cons, List.length_take, List.length_replicate, List.length_range, List.length_map, lof_len, pad_len, padd_len, md5_len, strm_len, strms_len, entOf_len, hif_len] <;> omega)) (ws_ne (Nat.ne_of_beq_eq_false rfl) (ws_ne (Nat.ne_of_beq_eq_false rfl) (ws_ne (Nat.ne_of_beq_eq_false rfl) w_6))) (ws_ne (Nat.ne_of_beq_eq_false rfl) (ws_ne (Nat.ne_of_beq_eq_false rfl) (ws_ne (Nat.ne_of_beq_eq_false rfl) w_7))) h_ow (by first | omega | (simp only [List.length_append, List.length_nil, List.length_cons, List.length_take, List.length_replicate, List.length_range, List.length_map, lof_len, pad_len, padd_len, md5_len, strm_len, strms_len, entOf_len, hif_len] <;> omega)) (ws_ne (Nat.ne_of_beq_eq_false rfl) ws_eq) (ws_ne (Nat.ne_of_beq_eq_false rfl) (ws_ne (Nat.ne_of_beq_eq_false rfl) ws_eq)) h_3 (by first | omega | (simp only [List.length_append, List.length_nil, List.length_cons, List.length_take, List.length_replicate, List.length_range, List.length_map, lof_len, pad_len, padd_len, md5_len, strm_len, strms_len, entOf_len, hif_len] <;> omega)) (ws_ne (Nat.ne_of_beq_eq_false rfl) (ws_ne (Nat.ne_of_beq_eq_false rfl) (ws_ne (Nat.ne_of_beq_eq_false rfl) w_10))) (ws_ne (Nat.ne_of_beq_eq_false rfl) (ws_ne (Nat.ne_of_beq_eq_false rfl) (ws_ne (Nat.ne_of_beq_eq_false rfl) w_11))) h_nb (by first | omega | (simp only [List.length_append, List.length_nil, List.length_cons, List.length_take, List.length_replicate, List.length_range, List.length_map, lof_len, pad_len, padd_len, md5_len, strm_len, strms_len, entOf_len, hif_len] <;> omega)) (ws_ne (Nat.ne_of_beq_eq_false rfl) (ws_ne (Nat.ne_of_beq_eq_false rfl) (ws_ne (Nat.ne_of_beq_eq_false rfl) w_12))) (ws_ne (Nat.ne_of_beq_eq_false rfl) (ws_ne (Nat.ne_of_beq_eq_false rfl) (ws_ne (Nat.ne_of_beq_eq_false rfl) w_13))) h_op (by first | omega | (simp only [List.length_append, List.length_nil, List.length_cons, List.length_take, List.length_replicate, List.length_range, List.length_map, lof_len, pad_len, padd_len, md5_len, strm_len, strms_len, entOf_len, hif_len] <;> omega)) (ws_ne (Nat.ne_of_beq_eq_false rfl) (ws_ne (Nat.ne_of_beq_eq_false rfl) (ws_ne (Nat.ne_of_beq_eq_false rfl) w_14))) (ws_ne (Nat.ne_of_beq_eq_false rfl) (ws_ne (Nat.ne_of_beq_eq_false rfl) (ws_ne (Nat.ne_of_beq_eq_false rfl) w_15))) h_up (by first | omega | (simp only [List.length_append, List.length_nil, List.length_cons, List.length_take, List.length_replicate, List.length_range, List.length_map, lof_len, pad_len, padd_len, md5_len, strm_len, strms_len, entOf_len, hif_len] <;> omega)) ws_eq (ws_ne (Nat.ne_of_beq_eq_false rfl) (ws_ne (Nat.ne_of_beq_eq_false rfl) (ws_ne (Nat.ne_of_beq_eq_false rfl) w_17))) (hs_nil _) (by first | omega | (simp only [List.length_append, List.length_nil, List.length_cons, List.length_take, List.length_replicate, List.length_range, List.length_map, lof_len, pad_len, padd_len, md5_len, strm_len, strms_len, entOf_len, hif_len] <;> omega)) (ws_ne (Nat.ne_of_beq_eq_false rfl) (ws_ne (Nat.ne_of_beq_eq_false rfl) (ws_ne (Nat.ne_of_beq_eq_false rfl) w_27))) (ws_ne (Nat.ne_of_beq_eq_false rfl) (ws_ne (Nat.ne_of_beq_eq_false rfl) (ws_ne (Nat.ne_of_beq_eq_false rfl) w_28))) h_gl (by first | omega | (simp only [List.length_append, List.length_nil, List.length_cons, List.length_take, List.length_replicate, List.length_range, List.length_map, lof_len, pad_len, padd_len, md5_len, strm_len, strms_len, entOf_len, hif_len] <;> omega)) (ws_ne (Nat.ne_of_beq_eq_false rfl) (ws_ne (Nat.ne_of_beq_eq_false rfl) (ws_ne (Nat.ne_of_beq_eq_false rfl) w_29))) (ws_ne (Nat.ne_of_beq_eq_false rfl) (ws_ne (Nat.ne_of_beq_eq_false rfl) (ws_ne (Nat.ne_of_beq_eq_false rfl) w_30))) h_tl (by first | omega | (simp only [List.length_append, List.length_nil, List.length_cons, List.length_take, List.length_replicate, List.length_range, List.length_map, lof_len, pad_len, padd_len, md5_len, strm_len, strms_len, entOf_len, hif_len] <;> omega)) (ws_ne (Nat.ne_of_beq_eq_false rfl) (ws_ne (Nat.ne_of_beq_eq_false rfl) (ws_ne (Nat.ne_of_beq_eq_false rfl) w_31))) (ws_ne (Nat.ne_of_beq_eq_false rfl) (ws_ne (Nat.ne_of_beq_eq_false rfl) (ws_ne (Nat.ne_of_beq_eq_false rfl) w_32))) h_ml (by first | omega | (simp only [List.length_append, List.length_nil, List.length_cons, List.length_take, List.length_replicate, List.length_range, List.length_map, lof_len, pad_len, padd_len, md5_len, strm_len, strms_len, entOf_len, hif_len] <;> omega)) (ws_ne (Nat.ne_of_beq_eq_false rfl) (ws_ne (Nat.ne_of_beq_eq_false rfl) (ws_ne (Nat.ne_of_beq_eq_false rfl) w_33))) (ws_ne (Nat.ne_of_beq_eq_false rfl) (ws_ne (Nat.ne_of_beq_eq_false rfl) (ws_ne (Nat.ne_of_beq_eq_false rfl) w_34))) h_ul (by first | omega | (simp only [List.length_append, List.length_nil, List.length_cons, List.length_take, List.length_replicate, List.length_range, List.length_map, lof_len, pad_len, padd_len, md5_len, strm_len, strms_len, entOf_len, hif_len] <;> omega)) (ws_ne (Nat.ne_of_beq_eq_false rfl) (ws_ne (Nat.ne_of_beq_eq_false rfl) (ws_ne (Nat.ne_of_beq_eq_false rfl) w_18))) (ws_ne (Nat.ne_of_beq_eq_false rfl) (ws_ne (Nat.ne_of_beq_eq_false rfl) (ws_ne (Nat.ne_of_beq_eq_false rfl) w_19))) (ws_ne (Nat.ne_of_beq_eq_false rfl) (ws_ne (Nat.ne_of_beq_eq_false rfl) (ws_ne (Nat.ne_of_beq_eq_false rfl) w_20))) (ws_ne (Nat.ne_of_beq_eq_false rfl) (ws_ne (Nat.ne_of_beq_eq_false rfl) (ws_ne (Nat.ne_of_beq_eq_false rfl) w_21))) (ws_ne (Nat.ne_of_beq_eq_false rfl) (ws_ne (Nat.ne_of_beq_eq_false rfl) (ws_ne (Nat.ne_of_beq_eq_false rfl) w_22))) (ws_ne (Nat.ne_of_beq_eq_false rfl) (ws_ne (Nat.ne_of_beq_eq_false rfl) (ws_ne (Nat.ne_of_beq_eq_false rfl) w_23))) hsb (ws_ne (Nat.ne_of_beq_eq_false rfl) (ws_ne (Nat.ne_of_beq_eq_false rfl) (ws_ne (Nat.ne_of_beq_eq_false rfl) w_24))) (ws_ne (Nat.ne_of_beq_eq_false rfl) (ws_ne (Nat.ne_of_beq_eq_false rfl) (ws_ne (Nat.ne_of_beq_eq_false rfl) w_25))) (ws_ne (Nat.ne_of_beq_eq_false rfl) (ws_ne (Nat.ne_of_beq_eq_false rfl) (ws_ne (Nat.ne_of_beq_eq_false rfl) w_26))), (fr_set (Nat.le_of_ble_eq_true rfl) (fr_set (Nat.le_of_ble_eq_true rfl) (fr_set (Nat.le_of_ble_eq_true rfl) (fr_rf _)))), rfl⟩)
      · skip
        have c_47 : ¬ (xs.length = 32) := fun h9 => c_47 ((nI_eq (a := xs.length) (b := 32) (by omega) (by omega)).mpr h9)
        refine r_goto C 65 dX5_take_50 (by decide) ?_
        exact r_throwS C T_ NT dX5_take_65 dX5_take_68 dX5_take_69 dX5_take_71 dX5_take_74 exxS rfl (List.mem_of_getElem? (i := 6) rfl) (Nat.le_of_ble_eq_true rfl) (Nat.le_of_ble_eq_true rfl) (Nat.le_of_ble_eq_true rfl) (Nat.le_of_ble_eq_true rfl) (⟨rfl, Or.inr (⟨rfl, ⟨by decide, by decide⟩, fun z => absurd (show xs.length = 32 from by unfold tkOk at z; rw [if_pos (by decide)] at z; exact z) (by omega)⟩)⟩)
set_option maxHeartbeats 4000000 in
set_option maxRecDepth 100000 in
theorem cX5_take9_2 {w : Wo} {xs rs : List Nat} {rv : Int32} {ln : Nat} {pm lo : Int32} {ow us nb op up kn : List Nat} (cw : CW (xs, rs, rv, ln, pm, lo, ow, us, nb, op, up, kn) w) (ps : PSok (xs, rs, rv, ln, pm, lo, ow, us, nb, op, up, kn)) : Xtr mX5_take [.ref 0, .int 2] w (PI fun r w' => tkIn 2 ∧ tkOk 2 xs ∧ CW (tkS 2 (xs, rs, rv, ln, pm, lo, ow, us, nb, op, up, kn)) w' ∧ fr w w' ∧ r = nI xs.length) (fun E w' => w' = w ∧ ((E = "java/lang/IllegalArgumentException" ∧ ¬ tkIn 2) ∨ (E = "java/lang/IllegalStateException" ∧ tkIn 2 ∧ ¬ tkOk 2 xs))) := by
  refine Xtr_intro okX5_take rfl (Nat.le_of_ble_eq_true rfl) (L := [some (.ref 0), some (.int 2), none, none]) rfl (fun g ct C T_ NT => ?_)
  refine CW_open cw (fun f2 f4 f7 f9 f11 f13 f15 f17 f28 f30 f32 f34 gl tl ml ul sA sB sC sD fw ftb SB K B fe w_0 w_5 w_1 w_2 h_xs k_xs w_3 w_4 h_rs k_rs w_6 w_7 h_ow k_ow w_8 w_9 h_us k_us w_10 w_11 h_nb k_nb w_12 w_13 h_op k_op w_14 w_15 h_up k_up w_16 w_17 h_kn k_kn w_27 w_28 h_gl k_gl w_29 w_30 h_tl k_tl w_31 w_32 h_ml k_ml w_33 w_34 h_ul k_ul w_18 w_19 w_20 w_21 w_22 w_23 hsb w_24 w_25 w_26 => ?_)
  obtain ⟨bx, br, bo, bu, bn, bp, bq, bk9, lo9, lu9, hkn, hrv, hln, hlo⟩ := ps
  refine r_aload_n C dX5_take_0 rfl ?_
  refine r_get C dX5_take_1 fgRX5_24 (Nat.le_of_ble_eq_true rfl) w_0 rfl ?_
  refine r_iload_n C dX5_take_4 rfl ?_
  refine r_callVr C (As := [.int 2]) (rest := []) dX5_take_5 (cX1_toldRow9_2 w_5) okX1_toldRow mlRX5_79 imX1_toldRow seX1_toldRow ⟨by decide, by decide⟩ rfl rfl (Nat.le_of_ble_eq_true rfl) w_5 rfl rfl (Nat.le_of_ble_eq_true rfl) (by decide) (by decide) (fun a_1 w9 h9 => ?_)
  obtain ⟨rfl, e9⟩ := h9
  have e9 := e9.symm
  subst e9
  refine r_astore_n C dX5_take_8 (L' := [some (.ref 0), some (.int 2), some (.ref 10), none]) (by decide) rfl ?_
  refine r_aload_n C dX5_take_9 rfl ?_
  refine r_nonnull C 23 dX5_take_10 (by decide) ?_
  refine r_iload_n C dX5_take_23 rfl ?_
  refine r_iconst C dX5_take_24 (v := 1) (by decide) ?_
  refine r_icmp_gt C 32 dX5_take_25 (by decide) (fun c_25 => ?_) (fun c_25 => ?_)
  · skip
    refine r_iconst C dX5_take_32 (v := 0) (by decide) ?_
    refine r_istore_n C dX5_take_33 (L' := [some (.ref 0), some (.int 2), some (.ref 10), some (.int 0)]) (by decide) rfl ?_
    refine r_iload_n C dX5_take_34 rfl ?_
    refine r_if_eq C 53 dX5_take_35 (by decide) (fun c_35 => ?_) (fun c_35 => ?_)
    · skip
      refine r_aload_n C dX5_take_53 rfl ?_
      refine r_get C dX5_take_54 fgRX5_14 (Nat.le_of_ble_eq_true rfl) w_0 rfl ?_
      refine r_get C dX5_take_57 fgRX5_28 (Nat.le_of_ble_eq_true rfl) w_1 rfl ?_
      refine r_bipush C dX5_take_60 (v := 64) (by decide) ?_
      refine r_icmp_le C 75 dX5_take_62 (by decide) (fun c_62 => ?_) (fun c_62 => ?_)
      · skip
        have c_62 : xs.length ≤ 64 := (nI_leI (a := xs.length) (b := 64) (by omega) (by omega)).mp c_62
        refine r_aload_n C dX5_take_75 rfl ?_
        refine r_aload_n C dX5_take_76 rfl ?_
        refine r_get C dX5_take_77 fgRX5_14 (Nat.le_of_ble_eq_true rfl) w_0 rfl ?_
        refine r_callVv C (As := [.ref 1]) (rest := []) dX5_take_80 (cX3_become9 (Nat.le_of_ble_eq_true rfl) (Nat.le_of_ble_eq_true rfl) (Nat.ne_of_beq_eq_false rfl) w_10 w_11 h_nb (by first | omega | (simp only [List.length_append, List.length_nil, List.length_cons, List.length_take, List.length_replicate, List.length_range, List.length_map, lof_len, pad_len, padd_len, md5_len, strm_len, strms_len, entOf_len, hif_len] <;> omega)) (by decide) (Nat.le_of_ble_eq_true rfl) (Nat.le_of_ble_eq_true rfl) (Nat.ne_of_beq_eq_false rfl) (Nat.ne_of_beq_eq_false rfl) (Nat.ne_of_beq_eq_false rfl) (Nat.ne_of_beq_eq_false rfl) w_1 w_2 h_xs (by first | omega | (simp only [List.length_append, List.length_nil, List.length_cons, List.length_take, List.length_replicate, List.length_range, List.length_map, lof_len, pad_len, padd_len, md5_len, strm_len, strms_len, entOf_len, hif_len] <;> omega)) (by decide) (by first | omega | (simp only [List.length_append, List.length_nil, List.length_cons, List.length_take, List.length_replicate, List.length_range, List.length_map, lof_len, pad_len, padd_len, md5_len, strm_len, strms_len, entOf_len, hif_len] <;> omega))) okX3_become mlRX5_90 imX3_become seX3_become ⟨by decide, by decide⟩ rfl rfl (Nat.le_of_ble_eq_true rfl) w_10 rfl rfl (Nat.le_of_ble_eq_true rfl) (by decide) (by decide) (fun w9 h9 => ?_)
        obtain ⟨f_2, rfl, h_3⟩ := h9
        refine r_iload_n C dX5_take_83 rfl ?_
        refine r_iconst C dX5_take_84 (v := 2) (by decide) ?_
        refine r_icmp_gt C 98 dX5_take_85 (by decide) (fun c_85 => ?_) (fun c_85 => ?_)
        · skip
          exact absurd c_85 (by decide)
        · skip
          refine r_aload_n C dX5_take_88 rfl ?_
          refine r_get C dX5_take_89 fgRX5_24 (Nat.le_of_ble_eq_true rfl) (ws_ne (Nat.ne_of_beq_eq_false rfl) (ws_ne (Nat.ne_of_beq_eq_false rfl) w_0)) rfl ?_
          refine r_get C dX5_take_92 fgRX5_73 (Nat.le_of_ble_eq_true rfl) (ws_ne (Nat.ne_of_beq_eq_false rfl) (ws_ne (Nat.ne_of_beq_eq_false rfl) w_5)) rfl ?_
          refine r_callVv C (As := []) (rest := []) dX5_take_95 (cX3_clear9 (Nat.le_of_ble_eq_true rfl) (Nat.le_of_ble_eq_true rfl) (Nat.ne_of_beq_eq_false rfl) (ws_ne (Nat.ne_of_beq_eq_false rfl) (ws_ne (Nat.ne_of_beq_eq_false rfl) w_16)) (ws_ne (Nat.ne_of_beq_eq_false rfl) (ws_ne (Nat.ne_of_beq_eq_false rfl) w_17)) h_kn (by first | omega | (simp only [List.length_append, List.length_nil, List.length_cons, List.length_take, List.length_replicate, List.length_range, List.length_map, lof_len, pad_len, padd_len, md5_len, strm_len, strms_len, entOf_len, hif_len] <;> omega)) (by decide)) okX3_clear mlRX5_76 imX3_clear seX3_clear ⟨by decide, by decide⟩ rfl rfl (Nat.le_of_ble_eq_true rfl) (ws_ne (Nat.ne_of_beq_eq_false rfl) (ws_ne (Nat.ne_of_beq_eq_false rfl) w_16)) rfl rfl (Nat.le_of_ble_eq_true rfl) (by decide) (by decide) (fun w9 h9 => ?_)
          obtain rfl := h9
          refine r_aload_n C dX5_take_98 rfl ?_
          refine r_get C dX5_take_99 fgRX5_14 (Nat.le_of_ble_eq_true rfl) (ws_ne (Nat.ne_of_beq_eq_false rfl) (ws_ne (Nat.ne_of_beq_eq_false rfl) (ws_ne (Nat.ne_of_beq_eq_false rfl) w_0))) rfl ?_
          refine r_get C dX5_take_102 fgRX5_28 (Nat.le_of_ble_eq_true rfl) (ws_ne (Nat.ne_of_beq_eq_false rfl) (ws_ne (Nat.ne_of_beq_eq_false rfl) (ws_ne (Nat.ne_of_beq_eq_false rfl) w_1))) rfl ?_
          exact r_ireturnX C T_ (Nat.le_of_ble_eq_true rfl) (Nat.le_of_ble_eq_true rfl) rfl rfl dX5_take_105 (⟨_, rfl, ⟨by decide, by decide⟩, (by unfold tkOk; rw [if_neg (by decide)]; omega), by rw [tkS_2]; exact CW_mk (ws_ne (Nat.ne_of_beq_eq_false rfl) (ws_ne (Nat.ne_of_beq_eq_false rfl) (ws_ne (Nat.ne_of_beq_eq_false rfl) w_0))) (ws_ne (Nat.ne_of_beq_eq_false rfl) (ws_ne (Nat.ne_of_beq_eq_false rfl) (ws_ne (Nat.ne_of_beq_eq_false rfl) w_5))) (ws_ne (Nat.ne_of_beq_eq_false rfl) (ws_ne (Nat.ne_of_beq_eq_false rfl) (ws_ne (Nat.ne_of_beq_eq_false rfl) w_1))) (ws_ne (Nat.ne_of_beq_eq_false rfl) (ws_ne (Nat.ne_of_beq_eq_false rfl) (ws_ne (Nat.ne_of_beq_eq_false rfl) w_2))) h_xs (by first | omega | (simp only [List.length_append, List.length_nil, List.length_cons, List.length_take, List.length_replicate, List.length_range, List.length_map, lof_len, pad_len, padd_len, md5_len, strm_len, strms_len, entOf_len, hif_len] <;> omega)) (ws_ne (Nat.ne_of_beq_eq_false rfl) (ws_ne (Nat.ne_of_beq_eq_false rfl) (ws_ne (Nat.ne_of_beq_eq_false rfl) w_3))) (ws_ne (Nat.ne_of_beq_eq_false rfl) (ws_ne (Nat.ne_of_beq_eq_false rfl) (ws_ne (Nat.ne_of_beq_eq_false rfl) w_4))) h_rs (by first | omega | (simp only [List.length_append, List.length_nil, List.length_cons, List.length_take, List.length_replicate, List.length_range, List.length_map, lof_len, pad_len, padd_len, md5_len, strm_len, strms_len, entOf_len, hif_len] <;> omega)) (ws_ne (Nat.ne_of_beq_eq_false rfl) (ws_ne (Nat.ne_of_beq_eq_false rfl) (ws_ne (Nat.ne_of_beq_eq_false rfl) w_6))) (ws_ne (Nat.ne_of_beq_eq_false rfl) (ws_ne (Nat.ne_of_beq_eq_false rfl) (ws_ne (Nat.ne_of_beq_eq_false rfl) w_7))) h_ow (by first | omega | (simp only [List.length_append, List.length_nil, List.length_cons, List.length_take, List.length_replicate, List.length_range, List.length_map, lof_len, pad_len, padd_len, md5_len, strm_len, strms_len, entOf_len, hif_len] <;> omega)) (ws_ne (Nat.ne_of_beq_eq_false rfl) (ws_ne (Nat.ne_of_beq_eq_false rfl) (ws_ne (Nat.ne_of_beq_eq_false rfl) w_8))) (ws_ne (Nat.ne_of_beq_eq_false rfl) (ws_ne (Nat.ne_of_beq_eq_false rfl) (ws_ne (Nat.ne_of_beq_eq_false rfl) w_9))) h_us (by first | omega | (simp only [List.length_append, List.length_nil, List.length_cons, List.length_take, List.length_replicate, List.length_range, List.length_map, lof_len, pad_len, padd_len, md5_len, strm_len, strms_len, entOf_len, hif_len] <;> omega)) (ws_ne (Nat.ne_of_beq_eq_false rfl) ws_eq) (ws_ne (Nat.ne_of_beq_eq_false rfl) (ws_ne (Nat.ne_of_beq_eq_false rfl) ws_eq)) h_3 (by first | omega | (simp only [List.length_append, List.length_nil, List.length_cons, List.length_take, List.length_replicate, List.length_range, List.length_map, lof_len, pad_len, padd_len, md5_len, strm_len, strms_len, entOf_len, hif_len] <;> omega)) (ws_ne (Nat.ne_of_beq_eq_false rfl) (ws_ne (Nat.ne_of_beq_eq_false rfl) (ws_ne (Nat.ne_of_beq_eq_false rfl) w_12))) (ws_ne (Nat.ne_of_beq_eq_false rfl) (ws_ne (Nat.ne_of_beq_eq_false rfl) (ws_ne (Nat.ne_of_beq_eq_false rfl) w_13))) h_op (by first | omega | (simp only [List.length_append, List.length_nil, List.length_cons, List.length_take, List.length_replicate, List.length_range, List.length_map, lof_len, pad_len, padd_len, md5_len, strm_len, strms_len, entOf_len, hif_len] <;> omega)) (ws_ne (Nat.ne_of_beq_eq_false rfl) (ws_ne (Nat.ne_of_beq_eq_false rfl) (ws_ne (Nat.ne_of_beq_eq_false rfl) w_14))) (ws_ne (Nat.ne_of_beq_eq_false rfl) (ws_ne (Nat.ne_of_beq_eq_false rfl) (ws_ne (Nat.ne_of_beq_eq_false rfl) w_15))) h_up (by first | omega | (simp only [List.length_append, List.length_nil, List.length_cons, List.length_take, List.length_replicate, List.length_range, List.length_map, lof_len, pad_len, padd_len, md5_len, strm_len, strms_len, entOf_len, hif_len] <;> omega)) ws_eq (ws_ne (Nat.ne_of_beq_eq_false rfl) (ws_ne (Nat.ne_of_beq_eq_false rfl) (ws_ne (Nat.ne_of_beq_eq_false rfl) w_17))) (hs_nil _) (by first | omega | (simp only [List.length_append, List.length_nil, List.length_cons, List.length_take, List.length_replicate, List.length_range, List.length_map, lof_len, pad_len, padd_len, md5_len, strm_len, strms_len, entOf_len, hif_len] <;> omega)) (ws_ne (Nat.ne_of_beq_eq_false rfl) (ws_ne (Nat.ne_of_beq_eq_false rfl) (ws_ne (Nat.ne_of_beq_eq_false rfl) w_27))) (ws_ne (Nat.ne_of_beq_eq_false rfl) (ws_ne (Nat.ne_of_beq_eq_false rfl) (ws_ne (Nat.ne_of_beq_eq_false rfl) w_28))) h_gl (by first | omega | (simp only [List.length_append, List.length_nil, List.length_cons, List.length_take, List.length_replicate, List.length_range, List.length_map, lof_len, pad_len, padd_len, md5_len, strm_len, strms_len, entOf_len, hif_len] <;> omega)) (ws_ne (Nat.ne_of_beq_eq_false rfl) (ws_ne (Nat.ne_of_beq_eq_false rfl) (ws_ne (Nat.ne_of_beq_eq_false rfl) w_29))) (ws_ne (Nat.ne_of_beq_eq_false rfl) (ws_ne (Nat.ne_of_beq_eq_false rfl) (ws_ne (Nat.ne_of_beq_eq_false rfl) w_30))) h_tl (by first | omega | (simp only [List.length_append, List.length_nil, List.length_cons, List.length_take, List.length_replicate, List.length_range, List.length_map, lof_len, pad_len, padd_len, md5_len, strm_len, strms_len, entOf_len, hif_len] <;> omega)) (ws_ne (Nat.ne_of_beq_eq_false rfl) (ws_ne (Nat.ne_of_beq_eq_false rfl) (ws_ne (Nat.ne_of_beq_eq_false rfl) w_31))) (ws_ne (Nat.ne_of_beq_eq_false rfl) (ws_ne (Nat.ne_of_beq_eq_false rfl) (ws_ne (Nat.ne_of_beq_eq_false rfl) w_32))) h_ml (by first | omega | (simp only [List.length_append, List.length_nil, List.length_cons, List.length_take, List.length_replicate, List.length_range, List.length_map, lof_len, pad_len, padd_len, md5_len, strm_len, strms_len, entOf_len, hif_len] <;> omega)) (ws_ne (Nat.ne_of_beq_eq_false rfl) (ws_ne (Nat.ne_of_beq_eq_false rfl) (ws_ne (Nat.ne_of_beq_eq_false rfl) w_33))) (ws_ne (Nat.ne_of_beq_eq_false rfl) (ws_ne (Nat.ne_of_beq_eq_false rfl) (ws_ne (Nat.ne_of_beq_eq_false rfl) w_34))) h_ul (by first | omega | (simp only [List.length_append, List.length_nil, List.length_cons, List.length_take, List.length_replicate, List.length_range, List.length_map, lof_len, pad_len, padd_len, md5_len, strm_len, strms_len, entOf_len, hif_len] <;> omega)) (ws_ne (Nat.ne_of_beq_eq_false rfl) (ws_ne (Nat.ne_of_beq_eq_false rfl) (ws_ne (Nat.ne_of_beq_eq_false rfl) w_18))) (ws_ne (Nat.ne_of_beq_eq_false rfl) (ws_ne (Nat.ne_of_beq_eq_false rfl) (ws_ne (Nat.ne_of_beq_eq_false rfl) w_19))) (ws_ne (Nat.ne_of_beq_eq_false rfl) (ws_ne (Nat.ne_of_beq_eq_false rfl) (ws_ne (Nat.ne_of_beq_eq_false rfl) w_20))) (ws_ne (Nat.ne_of_beq_eq_false rfl) (ws_ne (Nat.ne_of_beq_eq_false rfl) (ws_ne (Nat.ne_of_beq_eq_false rfl) w_21))) (ws_ne (Nat.ne_of_beq_eq_false rfl) (ws_ne (Nat.ne_of_beq_eq_false rfl) (ws_ne (Nat.ne_of_beq_eq_false rfl) w_22))) (ws_ne (Nat.ne_of_beq_eq_false rfl) (ws_ne (Nat.ne_of_beq_eq_false rfl) (ws_ne (Nat.ne_of_beq_eq_false rfl) w_23))) hsb (ws_ne (Nat.ne_of_beq_eq_false rfl) (ws_ne (Nat.ne_of_beq_eq_false rfl) (ws_ne (Nat.ne_of_beq_eq_false rfl) w_24))) (ws_ne (Nat.ne_of_beq_eq_false rfl) (ws_ne (Nat.ne_of_beq_eq_false rfl) (ws_ne (Nat.ne_of_beq_eq_false rfl) w_25))) (ws_ne (Nat.ne_of_beq_eq_false rfl) (ws_ne (Nat.ne_of_beq_eq_false rfl) (ws_ne (Nat.ne_of_beq_eq_false rfl) w_26))), (fr_set (Nat.le_of_ble_eq_true rfl) (fr_set (Nat.le_of_ble_eq_true rfl) (fr_set (Nat.le_of_ble_eq_true rfl) (fr_rf _)))), rfl⟩)
      · skip
        have c_62 : ¬ (xs.length ≤ 64) := fun h9 => c_62 ((nI_leI (a := xs.length) (b := 64) (by omega) (by omega)).mpr h9)
        exact r_throwS C T_ NT dX5_take_65 dX5_take_68 dX5_take_69 dX5_take_71 dX5_take_74 exxS rfl (List.mem_of_getElem? (i := 6) rfl) (Nat.le_of_ble_eq_true rfl) (Nat.le_of_ble_eq_true rfl) (Nat.le_of_ble_eq_true rfl) (Nat.le_of_ble_eq_true rfl) (⟨rfl, Or.inr (⟨rfl, ⟨by decide, by decide⟩, fun z => absurd (show xs.length ≤ 64 from by unfold tkOk at z; rw [if_neg (by decide)] at z; exact z) (by omega)⟩)⟩)
    · skip
      exact absurd c_35 (by decide)
  · skip
    exact absurd c_25 (by decide)
set_option maxHeartbeats 4000000 in
set_option maxRecDepth 100000 in
theorem cX5_take9_3 {w : Wo} {xs rs : List Nat} {rv : Int32} {ln : Nat} {pm lo : Int32} {ow us nb op up kn : List Nat} (cw : CW (xs, rs, rv, ln, pm, lo, ow, us, nb, op, up, kn) w) (ps : PSok (xs, rs, rv, ln, pm, lo, ow, us, nb, op, up, kn)) : Xtr mX5_take [.ref 0, .int 3] w (PI fun r w' => tkIn 3 ∧ tkOk 3 xs ∧ CW (tkS 3 (xs, rs, rv, ln, pm, lo, ow, us, nb, op, up, kn)) w' ∧ fr w w' ∧ r = nI xs.length) (fun E w' => w' = w ∧ ((E = "java/lang/IllegalArgumentException" ∧ ¬ tkIn 3) ∨ (E = "java/lang/IllegalStateException" ∧ tkIn 3 ∧ ¬ tkOk 3 xs))) := by
  refine Xtr_intro okX5_take rfl (Nat.le_of_ble_eq_true rfl) (L := [some (.ref 0), some (.int 3), none, none]) rfl (fun g ct C T_ NT => ?_)
  refine CW_open cw (fun f2 f4 f7 f9 f11 f13 f15 f17 f28 f30 f32 f34 gl tl ml ul sA sB sC sD fw ftb SB K B fe w_0 w_5 w_1 w_2 h_xs k_xs w_3 w_4 h_rs k_rs w_6 w_7 h_ow k_ow w_8 w_9 h_us k_us w_10 w_11 h_nb k_nb w_12 w_13 h_op k_op w_14 w_15 h_up k_up w_16 w_17 h_kn k_kn w_27 w_28 h_gl k_gl w_29 w_30 h_tl k_tl w_31 w_32 h_ml k_ml w_33 w_34 h_ul k_ul w_18 w_19 w_20 w_21 w_22 w_23 hsb w_24 w_25 w_26 => ?_)
  obtain ⟨bx, br, bo, bu, bn, bp, bq, bk9, lo9, lu9, hkn, hrv, hln, hlo⟩ := ps
  refine r_aload_n C dX5_take_0 rfl ?_
  refine r_get C dX5_take_1 fgRX5_24 (Nat.le_of_ble_eq_true rfl) w_0 rfl ?_
  refine r_iload_n C dX5_take_4 rfl ?_
  refine r_callVr C (As := [.int 3]) (rest := []) dX5_take_5 (cX1_toldRow9_3 w_5) okX1_toldRow mlRX5_79 imX1_toldRow seX1_toldRow ⟨by decide, by decide⟩ rfl rfl (Nat.le_of_ble_eq_true rfl) w_5 rfl rfl (Nat.le_of_ble_eq_true rfl) (by decide) (by decide) (fun a_1 w9 h9 => ?_)
  obtain ⟨rfl, e9⟩ := h9
  have e9 := e9.symm
  subst e9
  refine r_astore_n C dX5_take_8 (L' := [some (.ref 0), some (.int 3), some (.ref 12), none]) (by decide) rfl ?_
  refine r_aload_n C dX5_take_9 rfl ?_
  refine r_nonnull C 23 dX5_take_10 (by decide) ?_
  refine r_iload_n C dX5_take_23 rfl ?_
  refine r_iconst C dX5_take_24 (v := 1) (by decide) ?_
  refine r_icmp_gt C 32 dX5_take_25 (by decide) (fun c_25 => ?_) (fun c_25 => ?_)
  · skip
    refine r_iconst C dX5_take_32 (v := 0) (by decide) ?_
    refine r_istore_n C dX5_take_33 (L' := [some (.ref 0), some (.int 3), some (.ref 12), some (.int 0)]) (by decide) rfl ?_
    refine r_iload_n C dX5_take_34 rfl ?_
    refine r_if_eq C 53 dX5_take_35 (by decide) (fun c_35 => ?_) (fun c_35 => ?_)
    · skip
      refine r_aload_n C dX5_take_53 rfl ?_
      refine r_get C dX5_take_54 fgRX5_14 (Nat.le_of_ble_eq_true rfl) w_0 rfl ?_
      refine r_get C dX5_take_57 fgRX5_28 (Nat.le_of_ble_eq_true rfl) w_1 rfl ?_
      refine r_bipush C dX5_take_60 (v := 64) (by decide) ?_
      refine r_icmp_le C 75 dX5_take_62 (by decide) (fun c_62 => ?_) (fun c_62 => ?_)
      · skip
        have c_62 : xs.length ≤ 64 := (nI_leI (a := xs.length) (b := 64) (by omega) (by omega)).mp c_62
        refine r_aload_n C dX5_take_75 rfl ?_
        refine r_aload_n C dX5_take_76 rfl ?_
        refine r_get C dX5_take_77 fgRX5_14 (Nat.le_of_ble_eq_true rfl) w_0 rfl ?_
        refine r_callVv C (As := [.ref 1]) (rest := []) dX5_take_80 (cX3_become9 (Nat.le_of_ble_eq_true rfl) (Nat.le_of_ble_eq_true rfl) (Nat.ne_of_beq_eq_false rfl) w_12 w_13 h_op (by first | omega | (simp only [List.length_append, List.length_nil, List.length_cons, List.length_take, List.length_replicate, List.length_range, List.length_map, lof_len, pad_len, padd_len, md5_len, strm_len, strms_len, entOf_len, hif_len] <;> omega)) (by decide) (Nat.le_of_ble_eq_true rfl) (Nat.le_of_ble_eq_true rfl) (Nat.ne_of_beq_eq_false rfl) (Nat.ne_of_beq_eq_false rfl) (Nat.ne_of_beq_eq_false rfl) (Nat.ne_of_beq_eq_false rfl) w_1 w_2 h_xs (by first | omega | (simp only [List.length_append, List.length_nil, List.length_cons, List.length_take, List.length_replicate, List.length_range, List.length_map, lof_len, pad_len, padd_len, md5_len, strm_len, strms_len, entOf_len, hif_len] <;> omega)) (by decide) (by first | omega | (simp only [List.length_append, List.length_nil, List.length_cons, List.length_take, List.length_replicate, List.length_range, List.length_map, lof_len, pad_len, padd_len, md5_len, strm_len, strms_len, entOf_len, hif_len] <;> omega))) okX3_become mlRX5_90 imX3_become seX3_become ⟨by decide, by decide⟩ rfl rfl (Nat.le_of_ble_eq_true rfl) w_12 rfl rfl (Nat.le_of_ble_eq_true rfl) (by decide) (by decide) (fun w9 h9 => ?_)
        obtain ⟨f_2, rfl, h_3⟩ := h9
        refine r_iload_n C dX5_take_83 rfl ?_
        refine r_iconst C dX5_take_84 (v := 2) (by decide) ?_
        refine r_icmp_gt C 98 dX5_take_85 (by decide) (fun c_85 => ?_) (fun c_85 => ?_)
        · skip
          refine r_aload_n C dX5_take_98 rfl ?_
          refine r_get C dX5_take_99 fgRX5_14 (Nat.le_of_ble_eq_true rfl) (ws_ne (Nat.ne_of_beq_eq_false rfl) (ws_ne (Nat.ne_of_beq_eq_false rfl) w_0)) rfl ?_
          refine r_get C dX5_take_102 fgRX5_28 (Nat.le_of_ble_eq_true rfl) (ws_ne (Nat.ne_of_beq_eq_false rfl) (ws_ne (Nat.ne_of_beq_eq_false rfl) w_1)) rfl ?_
          exact r_ireturnX C T_ (Nat.le_of_ble_eq_true rfl) (Nat.le_of_ble_eq_true rfl) rfl rfl dX5_take_105 (⟨_, rfl, ⟨by decide, by decide⟩, (by unfold tkOk; rw [if_neg (by decide)]; omega), by rw [tkS_3]; exact CW_mk (ws_ne (Nat.ne_of_beq_eq_false rfl) (ws_ne (Nat.ne_of_beq_eq_false rfl) w_0)) (ws_ne (Nat.ne_of_beq_eq_false rfl) (ws_ne (Nat.ne_of_beq_eq_false rfl) w_5)) (ws_ne (Nat.ne_of_beq_eq_false rfl) (ws_ne (Nat.ne_of_beq_eq_false rfl) w_1)) (ws_ne (Nat.ne_of_beq_eq_false rfl) (ws_ne (Nat.ne_of_beq_eq_false rfl) w_2)) h_xs (by first | omega | (simp only [List.length_append, List.length_nil, List.length_cons, List.length_take, List.length_replicate, List.length_range, List.length_map, lof_len, pad_len, padd_len, md5_len, strm_len, strms_len, entOf_len, hif_len] <;> omega)) (ws_ne (Nat.ne_of_beq_eq_false rfl) (ws_ne (Nat.ne_of_beq_eq_false rfl) w_3)) (ws_ne (Nat.ne_of_beq_eq_false rfl) (ws_ne (Nat.ne_of_beq_eq_false rfl) w_4)) h_rs (by first | omega | (simp only [List.length_append, List.length_nil, List.length_cons, List.length_take, List.length_replicate, List.length_range, List.length_map, lof_len, pad_len, padd_len, md5_len, strm_len, strms_len, entOf_len, hif_len] <;> omega)) (ws_ne (Nat.ne_of_beq_eq_false rfl) (ws_ne (Nat.ne_of_beq_eq_false rfl) w_6)) (ws_ne (Nat.ne_of_beq_eq_false rfl) (ws_ne (Nat.ne_of_beq_eq_false rfl) w_7)) h_ow (by first | omega | (simp only [List.length_append, List.length_nil, List.length_cons, List.length_take, List.length_replicate, List.length_range, List.length_map, lof_len, pad_len, padd_len, md5_len, strm_len, strms_len, entOf_len, hif_len] <;> omega)) (ws_ne (Nat.ne_of_beq_eq_false rfl) (ws_ne (Nat.ne_of_beq_eq_false rfl) w_8)) (ws_ne (Nat.ne_of_beq_eq_false rfl) (ws_ne (Nat.ne_of_beq_eq_false rfl) w_9)) h_us (by first | omega | (simp only [List.length_append, List.length_nil, List.length_cons, List.length_take, List.length_replicate, List.length_range, List.length_map, lof_len, pad_len, padd_len, md5_len, strm_len, strms_len, entOf_len, hif_len] <;> omega)) (ws_ne (Nat.ne_of_beq_eq_false rfl) (ws_ne (Nat.ne_of_beq_eq_false rfl) w_10)) (ws_ne (Nat.ne_of_beq_eq_false rfl) (ws_ne (Nat.ne_of_beq_eq_false rfl) w_11)) h_nb (by first | omega | (simp only [List.length_append, List.length_nil, List.length_cons, List.length_take, List.length_replicate, List.length_range, List.length_map, lof_len, pad_len, padd_len, md5_len, strm_len, strms_len, entOf_len, hif_len] <;> omega)) ws_eq (ws_ne (Nat.ne_of_beq_eq_false rfl) ws_eq) h_3 (by first | omega | (simp only [List.length_append, List.length_nil, List.length_cons, List.length_take, List.length_replicate, List.length_range, List.length_map, lof_len, pad_len, padd_len, md5_len, strm_len, strms_len, entOf_len, hif_len] <;> omega)) (ws_ne (Nat.ne_of_beq_eq_false rfl) (ws_ne (Nat.ne_of_beq_eq_false rfl) w_14)) (ws_ne (Nat.ne_of_beq_eq_false rfl) (ws_ne (Nat.ne_of_beq_eq_false rfl) w_15)) h_up (by first | omega | (simp only [List.length_append, List.length_nil, List.length_cons, List.length_take, List.length_replicate, List.length_range, List.length_map, lof_len, pad_len, padd_len, md5_len, strm_len, strms_len, entOf_len, hif_len] <;> omega)) (ws_ne (Nat.ne_of_beq_eq_false rfl) (ws_ne (Nat.ne_of_beq_eq_false rfl) w_16)) (ws_ne (Nat.ne_of_beq_eq_false rfl) (ws_ne (Nat.ne_of_beq_eq_false rfl) w_17)) h_kn (by first | omega | (simp only [List.length_append, List.length_nil, List.length_cons, List.length_take, List.length_replicate, List.length_range, List.length_map, lof_len, pad_len, padd_len, md5_len, strm_len, strms_len, entOf_len, hif_len] <;> omega)) (ws_ne (Nat.ne_of_beq_eq_false rfl) (ws_ne (Nat.ne_of_beq_eq_false rfl) w_27)) (ws_ne (Nat.ne_of_beq_eq_false rfl) (ws_ne (Nat.ne_of_beq_eq_false rfl) w_28)) h_gl (by first | omega | (simp only [List.length_append, List.length_nil, List.length_cons, List.length_take, List.length_replicate, List.length_range, List.length_map, lof_len, pad_len, padd_len, md5_len, strm_len, strms_len, entOf_len, hif_len] <;> omega)) (ws_ne (Nat.ne_of_beq_eq_false rfl) (ws_ne (Nat.ne_of_beq_eq_false rfl) w_29)) (ws_ne (Nat.ne_of_beq_eq_false rfl) (ws_ne (Nat.ne_of_beq_eq_false rfl) w_30)) h_tl (by first | omega | (simp only [List.length_append, List.length_nil, List.length_cons, List.length_take, List.length_replicate, List.length_range, List.length_map, lof_len, pad_len, padd_len, md5_len, strm_len, strms_len, entOf_len, hif_len] <;> omega)) (ws_ne (Nat.ne_of_beq_eq_false rfl) (ws_ne (Nat.ne_of_beq_eq_false rfl) w_31)) (ws_ne (Nat.ne_of_beq_eq_false rfl) (ws_ne (Nat.ne_of_beq_eq_false rfl) w_32)) h_ml (by first | omega | (simp only [List.length_append, List.length_nil, List.length_cons, List.length_take, List.length_replicate, List.length_range, List.length_map, lof_len, pad_len, padd_len, md5_len, strm_len, strms_len, entOf_len, hif_len] <;> omega)) (ws_ne (Nat.ne_of_beq_eq_false rfl) (ws_ne (Nat.ne_of_beq_eq_false rfl) w_33)) (ws_ne (Nat.ne_of_beq_eq_false rfl) (ws_ne (Nat.ne_of_beq_eq_false rfl) w_34)) h_ul (by first | omega | (simp only [List.length_append, List.length_nil, List.length_cons, List.length_take, List.length_replicate, List.length_range, List.length_map, lof_len, pad_len, padd_len, md5_len, strm_len, strms_len, entOf_len, hif_len] <;> omega)) (ws_ne (Nat.ne_of_beq_eq_false rfl) (ws_ne (Nat.ne_of_beq_eq_false rfl) w_18)) (ws_ne (Nat.ne_of_beq_eq_false rfl) (ws_ne (Nat.ne_of_beq_eq_false rfl) w_19)) (ws_ne (Nat.ne_of_beq_eq_false rfl) (ws_ne (Nat.ne_of_beq_eq_false rfl) w_20)) (ws_ne (Nat.ne_of_beq_eq_false rfl) (ws_ne (Nat.ne_of_beq_eq_false rfl) w_21)) (ws_ne (Nat.ne_of_beq_eq_false rfl) (ws_ne (Nat.ne_of_beq_eq_false rfl) w_22)) (ws_ne (Nat.ne_of_beq_eq_false rfl) (ws_ne (Nat.ne_of_beq_eq_false rfl) w_23)) hsb (ws_ne (Nat.ne_of_beq_eq_false rfl) (ws_ne (Nat.ne_of_beq_eq_false rfl) w_24)) (ws_ne (Nat.ne_of_beq_eq_false rfl) (ws_ne (Nat.ne_of_beq_eq_false rfl) w_25)) (ws_ne (Nat.ne_of_beq_eq_false rfl) (ws_ne (Nat.ne_of_beq_eq_false rfl) w_26)), (fr_set (Nat.le_of_ble_eq_true rfl) (fr_set (Nat.le_of_ble_eq_true rfl) (fr_rf _))), rfl⟩)
        · skip
          exact absurd c_85 (by decide)
      · skip
        have c_62 : ¬ (xs.length ≤ 64) := fun h9 => c_62 ((nI_leI (a := xs.length) (b := 64) (by omega) (by omega)).mpr h9)
        exact r_throwS C T_ NT dX5_take_65 dX5_take_68 dX5_take_69 dX5_take_71 dX5_take_74 exxS rfl (List.mem_of_getElem? (i := 6) rfl) (Nat.le_of_ble_eq_true rfl) (Nat.le_of_ble_eq_true rfl) (Nat.le_of_ble_eq_true rfl) (Nat.le_of_ble_eq_true rfl) (⟨rfl, Or.inr (⟨rfl, ⟨by decide, by decide⟩, fun z => absurd (show xs.length ≤ 64 from by unfold tkOk at z; rw [if_neg (by decide)] at z; exact z) (by omega)⟩)⟩)
    · skip
      exact absurd c_35 (by decide)
  · skip
    exact absurd c_25 (by decide)
set_option maxHeartbeats 4000000 in
set_option maxRecDepth 100000 in
theorem cX5_take9_4 {w : Wo} {xs rs : List Nat} {rv : Int32} {ln : Nat} {pm lo : Int32} {ow us nb op up kn : List Nat} (cw : CW (xs, rs, rv, ln, pm, lo, ow, us, nb, op, up, kn) w) (ps : PSok (xs, rs, rv, ln, pm, lo, ow, us, nb, op, up, kn)) : Xtr mX5_take [.ref 0, .int 4] w (PI fun r w' => tkIn 4 ∧ tkOk 4 xs ∧ CW (tkS 4 (xs, rs, rv, ln, pm, lo, ow, us, nb, op, up, kn)) w' ∧ fr w w' ∧ r = nI xs.length) (fun E w' => w' = w ∧ ((E = "java/lang/IllegalArgumentException" ∧ ¬ tkIn 4) ∨ (E = "java/lang/IllegalStateException" ∧ tkIn 4 ∧ ¬ tkOk 4 xs))) := by
  refine Xtr_intro okX5_take rfl (Nat.le_of_ble_eq_true rfl) (L := [some (.ref 0), some (.int 4), none, none]) rfl (fun g ct C T_ NT => ?_)
  refine CW_open cw (fun f2 f4 f7 f9 f11 f13 f15 f17 f28 f30 f32 f34 gl tl ml ul sA sB sC sD fw ftb SB K B fe w_0 w_5 w_1 w_2 h_xs k_xs w_3 w_4 h_rs k_rs w_6 w_7 h_ow k_ow w_8 w_9 h_us k_us w_10 w_11 h_nb k_nb w_12 w_13 h_op k_op w_14 w_15 h_up k_up w_16 w_17 h_kn k_kn w_27 w_28 h_gl k_gl w_29 w_30 h_tl k_tl w_31 w_32 h_ml k_ml w_33 w_34 h_ul k_ul w_18 w_19 w_20 w_21 w_22 w_23 hsb w_24 w_25 w_26 => ?_)
  obtain ⟨bx, br, bo, bu, bn, bp, bq, bk9, lo9, lu9, hkn, hrv, hln, hlo⟩ := ps
  refine r_aload_n C dX5_take_0 rfl ?_
  refine r_get C dX5_take_1 fgRX5_24 (Nat.le_of_ble_eq_true rfl) w_0 rfl ?_
  refine r_iload_n C dX5_take_4 rfl ?_
  refine r_callVr C (As := [.int 4]) (rest := []) dX5_take_5 (cX1_toldRow9_4 w_5) okX1_toldRow mlRX5_79 imX1_toldRow seX1_toldRow ⟨by decide, by decide⟩ rfl rfl (Nat.le_of_ble_eq_true rfl) w_5 rfl rfl (Nat.le_of_ble_eq_true rfl) (by decide) (by decide) (fun a_1 w9 h9 => ?_)
  obtain ⟨rfl, e9⟩ := h9
  have e9 := e9.symm
  subst e9
  refine r_astore_n C dX5_take_8 (L' := [some (.ref 0), some (.int 4), some (.ref 14), none]) (by decide) rfl ?_
  refine r_aload_n C dX5_take_9 rfl ?_
  refine r_nonnull C 23 dX5_take_10 (by decide) ?_
  refine r_iload_n C dX5_take_23 rfl ?_
  refine r_iconst C dX5_take_24 (v := 1) (by decide) ?_
  refine r_icmp_gt C 32 dX5_take_25 (by decide) (fun c_25 => ?_) (fun c_25 => ?_)
  · skip
    refine r_iconst C dX5_take_32 (v := 0) (by decide) ?_
    refine r_istore_n C dX5_take_33 (L' := [some (.ref 0), some (.int 4), some (.ref 14), some (.int 0)]) (by decide) rfl ?_
    refine r_iload_n C dX5_take_34 rfl ?_
    refine r_if_eq C 53 dX5_take_35 (by decide) (fun c_35 => ?_) (fun c_35 => ?_)
    · skip
      refine r_aload_n C dX5_take_53 rfl ?_
      refine r_get C dX5_take_54 fgRX5_14 (Nat.le_of_ble_eq_true rfl) w_0 rfl ?_
      refine r_get C dX5_take_57 fgRX5_28 (Nat.le_of_ble_eq_true rfl) w_1 rfl ?_
      refine r_bipush C dX5_take_60 (v := 64) (by decide) ?_
      refine r_icmp_le C 75 dX5_take_62 (by decide) (fun c_62 => ?_) (fun c_62 => ?_)
      · skip
        have c_62 : xs.length ≤ 64 := (nI_leI (a := xs.length) (b := 64) (by omega) (by omega)).mp c_62
        refine r_aload_n C dX5_take_75 rfl ?_
        refine r_aload_n C dX5_take_76 rfl ?_
        refine r_get C dX5_take_77 fgRX5_14 (Nat.le_of_ble_eq_true rfl) w_0 rfl ?_
        refine r_callVv C (As := [.ref 1]) (rest := []) dX5_take_80 (cX3_become9 (Nat.le_of_ble_eq_true rfl) (Nat.le_of_ble_eq_true rfl) (Nat.ne_of_beq_eq_false rfl) w_14 w_15 h_up (by first | omega | (simp only [List.length_append, List.length_nil, List.length_cons, List.length_take, List.length_replicate, List.length_range, List.length_map, lof_len, pad_len, padd_len, md5_len, strm_len, strms_len, entOf_len, hif_len] <;> omega)) (by decide) (Nat.le_of_ble_eq_true rfl) (Nat.le_of_ble_eq_true rfl) (Nat.ne_of_beq_eq_false rfl) (Nat.ne_of_beq_eq_false rfl) (Nat.ne_of_beq_eq_false rfl) (Nat.ne_of_beq_eq_false rfl) w_1 w_2 h_xs (by first | omega | (simp only [List.length_append, List.length_nil, List.length_cons, List.length_take, List.length_replicate, List.length_range, List.length_map, lof_len, pad_len, padd_len, md5_len, strm_len, strms_len, entOf_len, hif_len] <;> omega)) (by decide) (by first | omega | (simp only [List.length_append, List.length_nil, List.length_cons, List.length_take, List.length_replicate, List.length_range, List.length_map, lof_len, pad_len, padd_len, md5_len, strm_len, strms_len, entOf_len, hif_len] <;> omega))) okX3_become mlRX5_90 imX3_become seX3_become ⟨by decide, by decide⟩ rfl rfl (Nat.le_of_ble_eq_true rfl) w_14 rfl rfl (Nat.le_of_ble_eq_true rfl) (by decide) (by decide) (fun w9 h9 => ?_)
        obtain ⟨f_2, rfl, h_3⟩ := h9
        refine r_iload_n C dX5_take_83 rfl ?_
        refine r_iconst C dX5_take_84 (v := 2) (by decide) ?_
        refine r_icmp_gt C 98 dX5_take_85 (by decide) (fun c_85 => ?_) (fun c_85 => ?_)
        · skip
          refine r_aload_n C dX5_take_98 rfl ?_
          refine r_get C dX5_take_99 fgRX5_14 (Nat.le_of_ble_eq_true rfl) (ws_ne (Nat.ne_of_beq_eq_false rfl) (ws_ne (Nat.ne_of_beq_eq_false rfl) w_0)) rfl ?_
          refine r_get C dX5_take_102 fgRX5_28 (Nat.le_of_ble_eq_true rfl) (ws_ne (Nat.ne_of_beq_eq_false rfl) (ws_ne (Nat.ne_of_beq_eq_false rfl) w_1)) rfl ?_
          exact r_ireturnX C T_ (Nat.le_of_ble_eq_true rfl) (Nat.le_of_ble_eq_true rfl) rfl rfl dX5_take_105 (⟨_, rfl, ⟨by decide, by decide⟩, (by unfold tkOk; rw [if_neg (by decide)]; omega), by rw [tkS_4]; exact CW_mk (ws_ne (Nat.ne_of_beq_eq_false rfl) (ws_ne (Nat.ne_of_beq_eq_false rfl) w_0)) (ws_ne (Nat.ne_of_beq_eq_false rfl) (ws_ne (Nat.ne_of_beq_eq_false rfl) w_5)) (ws_ne (Nat.ne_of_beq_eq_false rfl) (ws_ne (Nat.ne_of_beq_eq_false rfl) w_1)) (ws_ne (Nat.ne_of_beq_eq_false rfl) (ws_ne (Nat.ne_of_beq_eq_false rfl) w_2)) h_xs (by first | omega | (simp only [List.length_append, List.length_nil, List.length_cons, List.length_take, List.length_replicate, List.length_range, List.length_map, lof_len, pad_len, padd_len, md5_len, strm_len, strms_len, entOf_len, hif_len] <;> omega)) (ws_ne (Nat.ne_of_beq_eq_false rfl) (ws_ne (Nat.ne_of_beq_eq_false rfl) w_3)) (ws_ne (Nat.ne_of_beq_eq_false rfl) (ws_ne (Nat.ne_of_beq_eq_false rfl) w_4)) h_rs (by first | omega | (simp only [List.length_append, List.length_nil, List.length_cons, List.length_take, List.length_replicate, List.length_range, List.length_map, lof_len, pad_len, padd_len, md5_len, strm_len, strms_len, entOf_len, hif_len] <;> omega)) (ws_ne (Nat.ne_of_beq_eq_false rfl) (ws_ne (Nat.ne_of_beq_eq_false rfl) w_6)) (ws_ne (Nat.ne_of_beq_eq_false rfl) (ws_ne (Nat.ne_of_beq_eq_false rfl) w_7)) h_ow (by first | omega | (simp only [List.length_append, List.length_nil, List.length_cons, List.length_take, List.length_replicate, List.length_range, List.length_map, lof_len, pad_len, padd_len, md5_len, strm_len, strms_len, entOf_len, hif_len] <;> omega)) (ws_ne (Nat.ne_of_beq_eq_false rfl) (ws_ne (Nat.ne_of_beq_eq_false rfl) w_8)) (ws_ne (Nat.ne_of_beq_eq_false rfl) (ws_ne (Nat.ne_of_beq_eq_false rfl) w_9)) h_us (by first | omega | (simp only [List.length_append, List.length_nil, List.length_cons, List.length_take, List.length_replicate, List.length_range, List.length_map, lof_len, pad_len, padd_len, md5_len, strm_len, strms_len, entOf_len, hif_len] <;> omega)) (ws_ne (Nat.ne_of_beq_eq_false rfl) (ws_ne (Nat.ne_of_beq_eq_false rfl) w_10)) (ws_ne (Nat.ne_of_beq_eq_false rfl) (ws_ne (Nat.ne_of_beq_eq_false rfl) w_11)) h_nb (by first | omega | (simp only [List.length_append, List.length_nil, List.length_cons, List.length_take, List.length_replicate, List.length_range, List.length_map, lof_len, pad_len, padd_len, md5_len, strm_len, strms_len, entOf_len, hif_len] <;> omega)) (ws_ne (Nat.ne_of_beq_eq_false rfl) (ws_ne (Nat.ne_of_beq_eq_false rfl) w_12)) (ws_ne (Nat.ne_of_beq_eq_false rfl) (ws_ne (Nat.ne_of_beq_eq_false rfl) w_13)) h_op (by first | omega | (simp only [List.length_append, List.length_nil, List.length_cons, List.length_take, List.length_replicate, List.length_range, List.length_map, lof_len, pad_len, padd_len, md5_len, strm_len, strms_len, entOf_len, hif_len] <;> omega)) ws_eq (ws_ne (Nat.ne_of_beq_eq_false rfl) ws_eq) h_3 (by first | omega | (simp only [List.length_append, List.length_nil, List.length_cons, List.length_take, List.length_replicate, List.length_range, List.length_map, lof_len, pad_len, padd_len, md5_len, strm_len, strms_len, entOf_len, hif_len] <;> omega)) (ws_ne (Nat.ne_of_beq_eq_false rfl) (ws_ne (Nat.ne_of_beq_eq_false rfl) w_16)) (ws_ne (Nat.ne_of_beq_eq_false rfl) (ws_ne (Nat.ne_of_beq_eq_false rfl) w_17)) h_kn (by first | omega | (simp only [List.length_append, List.length_nil, List.length_cons, List.length_take, List.length_replicate, List.length_range, List.length_map, lof_len, pad_len, padd_len, md5_len, strm_len, strms_len, entOf_len, hif_len] <;> omega)) (ws_ne (Nat.ne_of_beq_eq_false rfl) (ws_ne (Nat.ne_of_beq_eq_false rfl) w_27)) (ws_ne (Nat.ne_of_beq_eq_false rfl) (ws_ne (Nat.ne_of_beq_eq_false rfl) w_28)) h_gl (by first | omega | (simp only [List.length_append, List.length_nil, List.length_cons, List.length_take, List.length_replicate, List.length_range, List.length_map, lof_len, pad_len, padd_len, md5_len, strm_len, strms_len, entOf_len, hif_len] <;> omega)) (ws_ne (Nat.ne_of_beq_eq_false rfl) (ws_ne (Nat.ne_of_beq_eq_false rfl) w_29)) (ws_ne (Nat.ne_of_beq_eq_false rfl) (ws_ne (Nat.ne_of_beq_eq_false rfl) w_30)) h_tl (by first | omega | (simp only [List.length_append, List.length_nil, List.length_cons, List.length_take, List.length_replicate, List.length_range, List.length_map, lof_len, pad_len, padd_len, md5_len, strm_len, strms_len, entOf_len, hif_len] <;> omega)) (ws_ne (Nat.ne_of_beq_eq_false rfl) (ws_ne (Nat.ne_of_beq_eq_false rfl) w_31)) (ws_ne (Nat.ne_of_beq_eq_false rfl) (ws_ne (Nat.ne_of_beq_eq_false rfl) w_32)) h_ml (by first | omega | (simp only [List.length_append, List.length_nil, List.length_cons, List.length_take, List.length_replicate, List.length_range, List.length_map, lof_len, pad_len, padd_len, md5_len, strm_len, strms_len, entOf_len, hif_len] <;> omega)) (ws_ne (Nat.ne_of_beq_eq_false rfl) (ws_ne (Nat.ne_of_beq_eq_false rfl) w_33)) (ws_ne (Nat.ne_of_beq_eq_false rfl) (ws_ne (Nat.ne_of_beq_eq_false rfl) w_34)) h_ul (by first | omega | (simp only [List.length_append, List.length_nil, List.length_cons, List.length_take, List.length_replicate, List.length_range, List.length_map, lof_len, pad_len, padd_len, md5_len, strm_len, strms_len, entOf_len, hif_len] <;> omega)) (ws_ne (Nat.ne_of_beq_eq_false rfl) (ws_ne (Nat.ne_of_beq_eq_false rfl) w_18)) (ws_ne (Nat.ne_of_beq_eq_false rfl) (ws_ne (Nat.ne_of_beq_eq_false rfl) w_19)) (ws_ne (Nat.ne_of_beq_eq_false rfl) (ws_ne (Nat.ne_of_beq_eq_false rfl) w_20)) (ws_ne (Nat.ne_of_beq_eq_false rfl) (ws_ne (Nat.ne_of_beq_eq_false rfl) w_21)) (ws_ne (Nat.ne_of_beq_eq_false rfl) (ws_ne (Nat.ne_of_beq_eq_false rfl) w_22)) (ws_ne (Nat.ne_of_beq_eq_false rfl) (ws_ne (Nat.ne_of_beq_eq_false rfl) w_23)) hsb (ws_ne (Nat.ne_of_beq_eq_false rfl) (ws_ne (Nat.ne_of_beq_eq_false rfl) w_24)) (ws_ne (Nat.ne_of_beq_eq_false rfl) (ws_ne (Nat.ne_of_beq_eq_false rfl) w_25)) (ws_ne (Nat.ne_of_beq_eq_false rfl) (ws_ne (Nat.ne_of_beq_eq_false rfl) w_26)), (fr_set (Nat.le_of_ble_eq_true rfl) (fr_set (Nat.le_of_ble_eq_true rfl) (fr_rf _))), rfl⟩)
        · skip
          exact absurd c_85 (by decide)
      · skip
        have c_62 : ¬ (xs.length ≤ 64) := fun h9 => c_62 ((nI_leI (a := xs.length) (b := 64) (by omega) (by omega)).mpr h9)
        exact r_throwS C T_ NT dX5_take_65 dX5_take_68 dX5_take_69 dX5_take_71 dX5_take_74 exxS rfl (List.mem_of_getElem? (i := 6) rfl) (Nat.le_of_ble_eq_true rfl) (Nat.le_of_ble_eq_true rfl) (Nat.le_of_ble_eq_true rfl) (Nat.le_of_ble_eq_true rfl) (⟨rfl, Or.inr (⟨rfl, ⟨by decide, by decide⟩, fun z => absurd (show xs.length ≤ 64 from by unfold tkOk at z; rw [if_neg (by decide)] at z; exact z) (by omega)⟩)⟩)
    · skip
      exact absurd c_35 (by decide)
  · skip
    exact absurd c_25 (by decide)
set_option maxHeartbeats 4000000 in
set_option maxRecDepth 100000 in
theorem cX5_take9_x {w : Wo} {xs rs : List Nat} {rv : Int32} {ln : Nat} {pm lo : Int32} {ow us nb op up kn : List Nat} (cw : CW (xs, rs, rv, ln, pm, lo, ow, us, nb, op, up, kn) w) (ps : PSok (xs, rs, rv, ln, pm, lo, ow, us, nb, op, up, kn)) {p1 : Int32} (hno : ¬ tkIn p1) : Xtr mX5_take [.ref 0, .int p1] w (PI fun r w' => tkIn p1 ∧ tkOk p1 xs ∧ CW (tkS p1 (xs, rs, rv, ln, pm, lo, ow, us, nb, op, up, kn)) w' ∧ fr w w' ∧ r = nI xs.length) (fun E w' => w' = w ∧ ((E = "java/lang/IllegalArgumentException" ∧ ¬ tkIn p1) ∨ (E = "java/lang/IllegalStateException" ∧ tkIn p1 ∧ ¬ tkOk p1 xs))) := by
  refine Xtr_intro okX5_take rfl (Nat.le_of_ble_eq_true rfl) (L := [some (.ref 0), some (.int p1), none, none]) rfl (fun g ct C T_ NT => ?_)
  refine CW_open cw (fun f2 f4 f7 f9 f11 f13 f15 f17 f28 f30 f32 f34 gl tl ml ul sA sB sC sD fw ftb SB K B fe w_0 w_5 w_1 w_2 h_xs k_xs w_3 w_4 h_rs k_rs w_6 w_7 h_ow k_ow w_8 w_9 h_us k_us w_10 w_11 h_nb k_nb w_12 w_13 h_op k_op w_14 w_15 h_up k_up w_16 w_17 h_kn k_kn w_27 w_28 h_gl k_gl w_29 w_30 h_tl k_tl w_31 w_32 h_ml k_ml w_33 w_34 h_ul k_ul w_18 w_19 w_20 w_21 w_22 w_23 hsb w_24 w_25 w_26 => ?_)
  obtain ⟨bx, br, bo, bu, bn, bp, bq, bk9, lo9, lu9, hkn, hrv, hln, hlo⟩ := ps
  refine r_aload_n C dX5_take_0 rfl ?_
  refine r_get C dX5_take_1 fgRX5_24 (Nat.le_of_ble_eq_true rfl) w_0 rfl ?_
  refine r_iload_n C dX5_take_4 rfl ?_
  refine r_callSr0 C (As := [.int p1]) (rest := []) dX5_take_5 (cX1_toldRow9_x hno) okX1_toldRow mlRX5_79 imX1_toldRow seX1_toldRow ⟨by decide, by decide⟩ rfl rfl (Nat.le_of_ble_eq_true rfl) w_5 rfl rfl (Nat.le_of_ble_eq_true rfl) (by decide) (by decide) (fun w9 h9 => ?_)
  have e9 := h9
  have e9 := e9.symm
  subst e9
  refine r_astore0_n C dX5_take_8 (L' := [some (.ref 0), some (.int p1), some (.null), none]) (by decide) rfl ?_
  refine r_aload0_n C dX5_take_9 rfl ?_
  refine r_nonnullN C dX5_take_10 ?_
  exact r_throwS C T_ NT dX5_take_13 dX5_take_16 dX5_take_17 dX5_take_19 dX5_take_22 exxA rfl (List.mem_of_getElem? (i := 5) rfl) (Nat.le_of_ble_eq_true rfl) (Nat.le_of_ble_eq_true rfl) (Nat.le_of_ble_eq_true rfl) (Nat.le_of_ble_eq_true rfl) (⟨rfl, Or.inl ⟨rfl, hno⟩⟩)
theorem cX5_take9 {w : Wo} {xs rs : List Nat} {rv : Int32} {ln : Nat} {pm lo : Int32} {ow us nb op up kn : List Nat} (cw : CW (xs, rs, rv, ln, pm, lo, ow, us, nb, op, up, kn) w) (ps : PSok (xs, rs, rv, ln, pm, lo, ow, us, nb, op, up, kn)) {p1 : Int32} : Xtr mX5_take [.ref 0, .int p1] w (PI fun r w' => tkIn p1 ∧ tkOk p1 xs ∧ CW (tkS p1 (xs, rs, rv, ln, pm, lo, ow, us, nb, op, up, kn)) w' ∧ fr w w' ∧ r = nI xs.length) (fun E w' => w' = w ∧ ((E = "java/lang/IllegalArgumentException" ∧ ¬ tkIn p1) ∨ (E = "java/lang/IllegalStateException" ∧ tkIn p1 ∧ ¬ tkOk p1 xs))) := by
  by_cases h : tkIn p1
  · obtain ⟨b, hb, rfl⟩ := nI_of2 (n := 4) (by decide) h.1 (Int32.not_lt.mp h.2)
    rcases (show b = 0 ∨ b = 1 ∨ b = 2 ∨ b = 3 ∨ b = 4 by omega) with rfl | rfl | rfl | rfl | rfl
    · exact cX5_take9_0 cw ps
    · exact cX5_take9_1 cw ps
    · exact cX5_take9_2 cw ps
    · exact cX5_take9_3 cw ps
    · exact cX5_take9_4 cw ps
  · exact cX5_take9_x cw ps h
