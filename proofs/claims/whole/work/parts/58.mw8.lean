noncomputable def unR (me : Int32) (K xs rs : List Nat) : Int32 × List Nat := if me = 2 then undB (kx K) xs rs else (nI xs.length, if me = 1 then strm K 0 xs else xs)
def seR (me : Int32) (K xs : List Nat) (one two : Int32) : Int32 × List Nat := if me = 2 then (nI (selB (kx K) xs one two).length, selB (kx K) xs one two) else (nI xs.length, if me = 1 then strm K 0 xs else xs)
def fitR (me : Int32) (xs : List Nat) : Prop := ¬ me = 2 ∨ 16 + xs.length + (16 - xs.length % 16) ≤ 16384
theorem undB_le {KK : Nat → Nat} {xs rs : List Nat} (hx : xs.length ≤ 16384) (hr : rs.length ≤ 16384) : (undB KK xs rs).2.length ≤ 16384 := by
  unfold undB
  split
  · exact hr
  · split
    · exact hr
    · show (List.map _ _).length ≤ _
      rw [List.length_map, List.length_range]
      omega
/-- what can be told -/
abbrev tkIn (p : Int32) : Prop := ¬ p < 0 ∧ ¬ 4 < p
def tkOk (p : Int32) (xs : List Nat) : Prop := if p = 0 ∨ p = 1 then xs.length = 32 else xs.length ≤ 64
def tkS (p : Int32) : SK → SK
  | (xs, rs, rv, ln, pm, lo, ow, us, nb, op, up, kn) => if p = 0 then (xs, rs, rv, ln, pm, lo, xs, us, nb, op, up, []) else if p = 1 then (xs, rs, rv, ln, pm, lo, ow, xs, nb, op, up, []) else if p = 2 then (xs, rs, rv, ln, pm, lo, ow, us, xs, op, up, []) else if p = 3 then (xs, rs, rv, ln, pm, lo, ow, us, nb, xs, up, kn) else (xs, rs, rv, ln, pm, lo, ow, us, nb, op, xs, kn)
set_option maxHeartbeats 4000000 in
set_option maxRecDepth 100000 in
theorem mX6_undo9 {w : Wo} {fa : Int32} {xs rs : List Nat} {rv : Int32} {ln : Nat} {pm lo : Int32} {ow us nb op up kn : List Nat} (mw : MW fa (xs, rs, rv, ln, pm, lo, ow, us, nb, op, up, kn) w) (ps : PSok (xs, rs, rv, ln, pm, lo, ow, us, nb, op, up, kn)) {nu ge me : Int32} : Ctr mX6_undo [.ref 35, .int nu, .int ge, .int me] w (PI fun r w' => ((¬ sndO nu ge me ∧ MW 1 (xs, rs, rv, ln, pm, lo, ow, us, nb, op, up, kn) w' ∧ r = 0) ∨ (sndO nu ge me ∧ kn = [] ∧ MW 2 (xs, rs, rv, ln, pm, lo, ow, us, nb, op, up, kn) w' ∧ r = 0) ∨ (sndO nu ge me ∧ ¬ kn = [] ∧ MW 0 (xs, (unR me (objKey ln kn nu ge (me = 2)) xs rs).2, rv, ln, pm, lo, ow, us, nb, op, up, kn) w' ∧ r = (unR me (objKey ln kn nu ge (me = 2)) xs rs).1)) ∧ frm w w') := by
  refine Ctr_intro okX6_undo rfl (Nat.le_of_ble_eq_true rfl) (L := [some (.ref 35), some (.int nu), some (.int ge), some (.int me)]) rfl (fun g ct C T_ => ?_)
  refine MW_open mw (fun fx fr9 fo fus fn fop fup fk fh hl fm fd vA vB vC vD fsn ftn fpd ft fe fp fot K B SW BK ik w_35 w_36 h_xs k_xs w_37 h_rs k_rs w_38 h_ow k_ow w_39 h_us k_us w_40 h_nb k_nb w_41 h_op k_op w_42 h_up k_up w_43 h_kn k_kn w_50 h_hl k_hl w_44 w_45 w_46 w_47 hsn w_48 htn w_49 hpd w_51 w_52 w_53 w_54 w_55 w_56 w_57 w_58 hik => ?_)
  obtain ⟨bx, br, bo, bu, bn, bp, bq, bk9, lo9, lu9, hkn, hrv, hln, hlo⟩ := ps
  refine r_aload_n C dX6_undo_0 rfl ?_
  refine r_aload_n C dX6_undo_1 rfl ?_
  refine r_iload_n C dX6_undo_2 rfl ?_
  refine r_iload_n C dX6_undo_3 rfl ?_
  refine r_iload_n C dX6_undo_4 rfl ?_
  refine r_callVi C (As := [.int nu, .int ge, .int me]) (rest := [.ref 35]) dX6_undo_5 (cX6_isSound9) okX6_isSound mlRX6_285 imX6_isSound seX6_isSound ⟨by decide, by decide⟩ rfl rfl (Nat.le_of_ble_eq_true rfl) w_35 rfl rfl (Nat.le_of_ble_eq_true rfl) (by decide) (by decide) (fun r_1 w9 h9 => ?_)
  obtain ⟨e9, er_⟩ := h9
  have e9 := e9.symm
  subst e9
  refine r_if_ne C 15 dX6_undo_8 (by decide) (fun c_8 => ?_) (fun c_8 => ?_)
  · skip
    have hs9 := (er_.resolve_right (fun z => c_8 z.2)).1
    refine r_aload_n C dX6_undo_15 rfl ?_
    refine r_get C dX6_undo_16 fgRX6_220 (Nat.le_of_ble_eq_true rfl) w_35 rfl ?_
    refine r_if_ne C 26 dX6_undo_19 (by decide) (fun c_19 => ?_) (fun c_19 => ?_)
    · skip
      have hk := hik.resolve_left (fun z => c_19 z.2)
      refine r_iconst C dX6_undo_26 (v := 0) (by decide) ?_
      refine r_callVi C (As := [.int 0]) (rest := []) dX6_undo_27 (cX6_refused9 w_35 (p1 := 0)) okX6_refused mlRX6_159 imX6_refused seX6_refused ⟨by decide, by decide⟩ rfl rfl (Nat.le_of_ble_eq_true rfl) w_35 rfl rfl (Nat.le_of_ble_eq_true rfl) (by decide) (by decide) (fun r_2 w9 h9 => ?_)
      obtain ⟨rfl, er_⟩ := h9
      have er_ : r_2 = 0 := er_.trans (if_pos (by decide))
      subst er_
      refine r_if_eq C 35 dX6_undo_30 (by decide) (fun c_30 => ?_) (fun c_30 => ?_)
      · skip
        refine r_aload_n C dX6_undo_35 rfl ?_
        refine r_iload_n C dX6_undo_36 rfl ?_
        refine r_iload_n C dX6_undo_37 rfl ?_
        refine r_iload_n C dX6_undo_38 rfl ?_
        refine r_callVv C (As := [.int nu, .int ge, .int me]) (rest := []) dX6_undo_39 (cX6_makeObjectKey9 hln (ws_ne (Nat.ne_of_beq_eq_false rfl) w_43) h_kn k_kn hk.1 ws_eq (ws_ne (Nat.ne_of_beq_eq_false rfl) w_44) (ws_ne (Nat.ne_of_beq_eq_false rfl) w_46) (ws_ne (Nat.ne_of_beq_eq_false rfl) w_45) (ws_ne (Nat.ne_of_beq_eq_false rfl) w_47) hsn (ws_ne (Nat.ne_of_beq_eq_false rfl) w_48) htn (ws_ne (Nat.ne_of_beq_eq_false rfl) w_50)) okX6_makeObjectKey mlRX6_289 imX6_makeObjectKey seX6_makeObjectKey ⟨by decide, by decide⟩ rfl rfl (Nat.le_of_ble_eq_true rfl) ws_eq rfl rfl (Nat.le_of_ble_eq_true rfl) (by decide) (by decide) (fun w9 h9 => ?_)
        obtain ⟨fm_3, t_4, t_5, t_6, t_7, fd_8, fh_9, rfl, h_10⟩ := h9
        refine r_eq rfl rfl (congrArg (fun z => wset (wset (wset (z) 46 (ia 4 (q4f t_4 t_5 t_6 t_7))) 45 (ia 16 fd_8)) 50 (ia 16 fh_9)) ((ws_comm (Nat.ne_of_beq_eq_false rfl)).trans (congrArg (fun z => wset z 44 (ia 16512 fm_3)) ws_same))) ?_
        have tl_len := objKey_len hln kn nu ge (me = 2)
        have tl_byt := byt_objKey ln kn nu ge (me = 2)
        refine r_iload_n C dX6_undo_42 rfl ?_
        refine r_iconst C dX6_undo_43 (v := 2) (by decide) ?_
        refine r_icmp_ne C 52 dX6_undo_44 (by decide) (fun c_44 => ?_) (fun c_44 => ?_)
        · skip
          refine r_iload_n C dX6_undo_52 rfl ?_
          refine r_iconst C dX6_undo_53 (v := 1) (by decide) ?_
          refine r_icmp_ne C 64 dX6_undo_54 (by decide) (fun c_54 => ?_) (fun c_54 => ?_)
          · skip
            refine r_aload_n C dX6_undo_64 rfl ?_
            refine r_callVv C (As := []) (rest := []) dX6_undo_65 (cX6_copy9 (ws_ne (Nat.ne_of_beq_eq_false rfl) (ws_ne (Nat.ne_of_beq_eq_false rfl) (ws_ne (Nat.ne_of_beq_eq_false rfl) (ws_ne (Nat.ne_of_beq_eq_false rfl) ws_eq)))) (ws_ne (Nat.ne_of_beq_eq_false rfl) (ws_ne (Nat.ne_of_beq_eq_false rfl) (ws_ne (Nat.ne_of_beq_eq_false rfl) (ws_ne (Nat.ne_of_beq_eq_false rfl) (ws_ne (Nat.ne_of_beq_eq_false rfl) w_36))))) h_xs k_xs (ws_ne (Nat.ne_of_beq_eq_false rfl) (ws_ne (Nat.ne_of_beq_eq_false rfl) (ws_ne (Nat.ne_of_beq_eq_false rfl) (ws_ne (Nat.ne_of_beq_eq_false rfl) (ws_ne (Nat.ne_of_beq_eq_false rfl) w_37)))))) okX6_copy mlRX6_299 imX6_copy seX6_copy ⟨by decide, by decide⟩ rfl rfl (Nat.le_of_ble_eq_true rfl) (ws_ne (Nat.ne_of_beq_eq_false rfl) (ws_ne (Nat.ne_of_beq_eq_false rfl) (ws_ne (Nat.ne_of_beq_eq_false rfl) (ws_ne (Nat.ne_of_beq_eq_false rfl) ws_eq)))) rfl rfl (Nat.le_of_ble_eq_true rfl) (by decide) (by decide) (fun w9 h9 => ?_)
            obtain ⟨fr_11, rfl, h_12⟩ := h9
            refine r_eq rfl rfl (congrArg (fun z => wset (z) 37 (ia 16384 fr_11)) ((ws_comm (Nat.ne_of_beq_eq_false rfl)).trans (congrArg (fun z => wset z 50 (ia 16 fh_9)) ((ws_comm (Nat.ne_of_beq_eq_false rfl)).trans (congrArg (fun z => wset z 45 (ia 16 fd_8)) ((ws_comm (Nat.ne_of_beq_eq_false rfl)).trans (congrArg (fun z => wset z 46 (ia 4 (q4f t_4 t_5 t_6 t_7))) ((ws_comm (Nat.ne_of_beq_eq_false rfl)).trans (congrArg (fun z => wset z 44 (ia 16512 fm_3)) ws_same))))))))) ?_
            refine r_aload_n C dX6_undo_68 rfl ?_
            refine r_get C dX6_undo_69 fgRX6_194 (Nat.le_of_ble_eq_true rfl) (ws_ne (Nat.ne_of_beq_eq_false rfl) (ws_ne (Nat.ne_of_beq_eq_false rfl) (ws_ne (Nat.ne_of_beq_eq_false rfl) (ws_ne (Nat.ne_of_beq_eq_false rfl) (ws_ne (Nat.ne_of_beq_eq_false rfl) ws_eq))))) rfl ?_
            exact r_ireturn C T_ rfl rfl dX6_undo_72 (⟨_, rfl, Or.inr (Or.inr ⟨hs9, (fun z => by have := hk.1; rw [z] at this; have := hln.1; simp at *; omega), by rw [show unR me (objKey ln kn nu ge (me = 2)) xs rs = (nI xs.length, xs) by unfold unR; rw [if_neg c_44, if_neg c_54]]; exact MW_mk (ws_ne (Nat.ne_of_beq_eq_false rfl) (ws_ne (Nat.ne_of_beq_eq_false rfl) (ws_ne (Nat.ne_of_beq_eq_false rfl) (ws_ne (Nat.ne_of_beq_eq_false rfl) (ws_ne (Nat.ne_of_beq_eq_false rfl) ws_eq))))) (ws_ne (Nat.ne_of_beq_eq_false rfl) (ws_ne (Nat.ne_of_beq_eq_false rfl) (ws_ne (Nat.ne_of_beq_eq_false rfl) (ws_ne (Nat.ne_of_beq_eq_false rfl) (ws_ne (Nat.ne_of_beq_eq_false rfl) (ws_ne (Nat.ne_of_beq_eq_false rfl) w_36)))))) h_xs (by first | omega | (simp only [List.length_append, List.length_nil, List.length_cons, List.length_take, List.length_replicate, List.length_range, List.length_map, lof_len, pad_len, padd_len, md5_len, strm_len, strms_len, entOf_len, hif_len] <;> omega)) ws_eq h_12 (by first | omega | (simp only [List.length_append, List.length_nil, List.length_cons, List.length_take, List.length_replicate, List.length_range, List.length_map, lof_len, pad_len, padd_len, md5_len, strm_len, strms_len, entOf_len, hif_len] <;> omega)) (ws_ne (Nat.ne_of_beq_eq_false rfl) (ws_ne (Nat.ne_of_beq_eq_false rfl) (ws_ne (Nat.ne_of_beq_eq_false rfl) (ws_ne (Nat.ne_of_beq_eq_false rfl) (ws_ne (Nat.ne_of_beq_eq_false rfl) (ws_ne (Nat.ne_of_beq_eq_false rfl) w_38)))))) h_ow (by first | omega | (simp only [List.length_append, List.length_nil, List.length_cons, List.length_take, List.length_replicate, List.length_range, List.length_map, lof_len, pad_len, padd_len, md5_len, strm_len, strms_len, entOf_len, hif_len] <;> omega)) (ws_ne (Nat.ne_of_beq_eq_false rfl) (ws_ne (Nat.ne_of_beq_eq_false rfl) (ws_ne (Nat.ne_of_beq_eq_false rfl) (ws_ne (Nat.ne_of_beq_eq_false rfl) (ws_ne (Nat.ne_of_beq_eq_false rfl) (ws_ne (Nat.ne_of_beq_eq_false rfl) w_39)))))) h_us (by first | omega | (simp only [List.length_append, List.length_nil, List.length_cons, List.length_take, List.length_replicate, List.length_range, List.length_map, lof_len, pad_len, padd_len, md5_len, strm_len, strms_len, entOf_len, hif_len] <;> omega)) (ws_ne (Nat.ne_of_beq_eq_false rfl) (ws_ne (Nat.ne_of_beq_eq_false rfl) (ws_ne (Nat.ne_of_beq_eq_false rfl) (ws_ne (Nat.ne_of_beq_eq_false rfl) (ws_ne (Nat.ne_of_beq_eq_false rfl) (ws_ne (Nat.ne_of_beq_eq_false rfl) w_40)))))) h_nb (by first | omega | (simp only [List.length_append, List.length_nil, List.length_cons, List.length_take, List.length_replicate, List.length_range, List.length_map, lof_len, pad_len, padd_len, md5_len, strm_len, strms_len, entOf_len, hif_len] <;> omega)) (ws_ne (Nat.ne_of_beq_eq_false rfl) (ws_ne (Nat.ne_of_beq_eq_false rfl) (ws_ne (Nat.ne_of_beq_eq_false rfl) (ws_ne (Nat.ne_of_beq_eq_false rfl) (ws_ne (Nat.ne_of_beq_eq_false rfl) (ws_ne (Nat.ne_of_beq_eq_false rfl) w_41)))))) h_op (by first | omega | (simp only [List.length_append, List.length_nil, List.length_cons, List.length_take, List.length_replicate, List.length_range, List.length_map, lof_len, pad_len, padd_len, md5_len, strm_len, strms_len, entOf_len, hif_len] <;> omega)) (ws_ne (Nat.ne_of_beq_eq_false rfl) (ws_ne (Nat.ne_of_beq_eq_false rfl) (ws_ne (Nat.ne_of_beq_eq_false rfl) (ws_ne (Nat.ne_of_beq_eq_false rfl) (ws_ne (Nat.ne_of_beq_eq_false rfl) (ws_ne (Nat.ne_of_beq_eq_false rfl) w_42)))))) h_up (by first | omega | (simp only [List.length_append, List.length_nil, List.length_cons, List.length_take, List.length_replicate, List.length_range, List.length_map, lof_len, pad_len, padd_len, md5_len, strm_len, strms_len, entOf_len, hif_len] <;> omega)) (ws_ne (Nat.ne_of_beq_eq_false rfl) (ws_ne (Nat.ne_of_beq_eq_false rfl) (ws_ne (Nat.ne_of_beq_eq_false rfl) (ws_ne (Nat.ne_of_beq_eq_false rfl) (ws_ne (Nat.ne_of_beq_eq_false rfl) (ws_ne (Nat.ne_of_beq_eq_false rfl) w_43)))))) h_kn (by first | omega | (simp only [List.length_append, List.length_nil, List.length_cons, List.length_take, List.length_replicate, List.length_range, List.length_map, lof_len, pad_len, padd_len, md5_len, strm_len, strms_len, entOf_len, hif_len] <;> omega)) (ws_ne (Nat.ne_of_beq_eq_false rfl) ws_eq) h_10 (by first | omega | (simp only [List.length_append, List.length_nil, List.length_cons, List.length_take, List.length_replicate, List.length_range, List.length_map, lof_len, pad_len, padd_len, md5_len, strm_len, strms_len, entOf_len, hif_len] <;> omega)) (ws_ne (Nat.ne_of_beq_eq_false rfl) (ws_ne (Nat.ne_of_beq_eq_false rfl) (ws_ne (Nat.ne_of_beq_eq_false rfl) (ws_ne (Nat.ne_of_beq_eq_false rfl) ws_eq)))) (ws_ne (Nat.ne_of_beq_eq_false rfl) (ws_ne (Nat.ne_of_beq_eq_false rfl) ws_eq)) (ws_ne (Nat.ne_of_beq_eq_false rfl) (ws_ne (Nat.ne_of_beq_eq_false rfl) (ws_ne (Nat.ne_of_beq_eq_false rfl) ws_eq))) (ws_ne (Nat.ne_of_beq_eq_false rfl) (ws_ne (Nat.ne_of_beq_eq_false rfl) (ws_ne (Nat.ne_of_beq_eq_false rfl) (ws_ne (Nat.ne_of_beq_eq_false rfl) (ws_ne (Nat.ne_of_beq_eq_false rfl) (ws_ne (Nat.ne_of_beq_eq_false rfl) w_47)))))) hsn (ws_ne (Nat.ne_of_beq_eq_false rfl) (ws_ne (Nat.ne_of_beq_eq_false rfl) (ws_ne (Nat.ne_of_beq_eq_false rfl) (ws_ne (Nat.ne_of_beq_eq_false rfl) (ws_ne (Nat.ne_of_beq_eq_false rfl) (ws_ne (Nat.ne_of_beq_eq_false rfl) w_48)))))) htn (ws_ne (Nat.ne_of_beq_eq_false rfl) (ws_ne (Nat.ne_of_beq_eq_false rfl) (ws_ne (Nat.ne_of_beq_eq_false rfl) (ws_ne (Nat.ne_of_beq_eq_false rfl) (ws_ne (Nat.ne_of_beq_eq_false rfl) (ws_ne (Nat.ne_of_beq_eq_false rfl) w_49)))))) hpd (ws_ne (Nat.ne_of_beq_eq_false rfl) (ws_ne (Nat.ne_of_beq_eq_false rfl) (ws_ne (Nat.ne_of_beq_eq_false rfl) (ws_ne (Nat.ne_of_beq_eq_false rfl) (ws_ne (Nat.ne_of_beq_eq_false rfl) (ws_ne (Nat.ne_of_beq_eq_false rfl) w_51)))))) (ws_ne (Nat.ne_of_beq_eq_false rfl) (ws_ne (Nat.ne_of_beq_eq_false rfl) (ws_ne (Nat.ne_of_beq_eq_false rfl) (ws_ne (Nat.ne_of_beq_eq_false rfl) (ws_ne (Nat.ne_of_beq_eq_false rfl) (ws_ne (Nat.ne_of_beq_eq_false rfl) w_52)))))) (ws_ne (Nat.ne_of_beq_eq_false rfl) (ws_ne (Nat.ne_of_beq_eq_false rfl) (ws_ne (Nat.ne_of_beq_eq_false rfl) (ws_ne (Nat.ne_of_beq_eq_false rfl) (ws_ne (Nat.ne_of_beq_eq_false rfl) (ws_ne (Nat.ne_of_beq_eq_false rfl) w_53)))))) (ws_ne (Nat.ne_of_beq_eq_false rfl) (ws_ne (Nat.ne_of_beq_eq_false rfl) (ws_ne (Nat.ne_of_beq_eq_false rfl) (ws_ne (Nat.ne_of_beq_eq_false rfl) (ws_ne (Nat.ne_of_beq_eq_false rfl) (ws_ne (Nat.ne_of_beq_eq_false rfl) w_54)))))) (ws_ne (Nat.ne_of_beq_eq_false rfl) (ws_ne (Nat.ne_of_beq_eq_false rfl) (ws_ne (Nat.ne_of_beq_eq_false rfl) (ws_ne (Nat.ne_of_beq_eq_false rfl) (ws_ne (Nat.ne_of_beq_eq_false rfl) (ws_ne (Nat.ne_of_beq_eq_false rfl) w_55)))))) (ws_ne (Nat.ne_of_beq_eq_false rfl) (ws_ne (Nat.ne_of_beq_eq_false rfl) (ws_ne (Nat.ne_of_beq_eq_false rfl) (ws_ne (Nat.ne_of_beq_eq_false rfl) (ws_ne (Nat.ne_of_beq_eq_false rfl) (ws_ne (Nat.ne_of_beq_eq_false rfl) w_56)))))) (ws_ne (Nat.ne_of_beq_eq_false rfl) (ws_ne (Nat.ne_of_beq_eq_false rfl) (ws_ne (Nat.ne_of_beq_eq_false rfl) (ws_ne (Nat.ne_of_beq_eq_false rfl) (ws_ne (Nat.ne_of_beq_eq_false rfl) (ws_ne (Nat.ne_of_beq_eq_false rfl) w_57)))))) (ws_ne (Nat.ne_of_beq_eq_false rfl) (ws_ne (Nat.ne_of_beq_eq_false rfl) (ws_ne (Nat.ne_of_beq_eq_false rfl) (ws_ne (Nat.ne_of_beq_eq_false rfl) (ws_ne (Nat.ne_of_beq_eq_false rfl) (ws_ne (Nat.ne_of_beq_eq_false rfl) w_58)))))) hik, by rw [show unR me (objKey ln kn nu ge (me = 2)) xs rs = (nI xs.length, xs) by unfold unR; rw [if_neg c_44, if_neg c_54]]⟩), (frm_set (Nat.le_of_ble_eq_true rfl) (Nat.le_of_ble_eq_true rfl) (frm_set (Nat.le_of_ble_eq_true rfl) (Nat.le_of_ble_eq_true rfl) (frm_set (Nat.le_of_ble_eq_true rfl) (Nat.le_of_ble_eq_true rfl) (frm_set (Nat.le_of_ble_eq_true rfl) (Nat.le_of_ble_eq_true rfl) (frm_set (Nat.le_of_ble_eq_true rfl) (Nat.le_of_ble_eq_true rfl) (frm_set (Nat.le_of_ble_eq_true rfl) (Nat.le_of_ble_eq_true rfl) (frm_rf _)))))))⟩)
          · skip
            refine r_aload_n C dX6_undo_57 rfl ?_
            refine r_callVv C (As := []) (rest := []) dX6_undo_58 (cX6_streamRow9 ws_eq h_10 (by omega) tl_len.1 tl_byt (ws_ne (Nat.ne_of_beq_eq_false rfl) (ws_ne (Nat.ne_of_beq_eq_false rfl) (ws_ne (Nat.ne_of_beq_eq_false rfl) (ws_ne (Nat.ne_of_beq_eq_false rfl) ws_eq)))) (ws_ne (Nat.ne_of_beq_eq_false rfl) (ws_ne (Nat.ne_of_beq_eq_false rfl) (ws_ne (Nat.ne_of_beq_eq_false rfl) (ws_ne (Nat.ne_of_beq_eq_false rfl) (ws_ne (Nat.ne_of_beq_eq_false rfl) w_51))))) (ws_ne (Nat.ne_of_beq_eq_false rfl) (ws_ne (Nat.ne_of_beq_eq_false rfl) (ws_ne (Nat.ne_of_beq_eq_false rfl) (ws_ne (Nat.ne_of_beq_eq_false rfl) (ws_ne (Nat.ne_of_beq_eq_false rfl) w_36))))) h_xs k_xs (ws_ne (Nat.ne_of_beq_eq_false rfl) (ws_ne (Nat.ne_of_beq_eq_false rfl) (ws_ne (Nat.ne_of_beq_eq_false rfl) (ws_ne (Nat.ne_of_beq_eq_false rfl) (ws_ne (Nat.ne_of_beq_eq_false rfl) w_37)))))) okX6_streamRow mlRX6_296 imX6_streamRow seX6_streamRow ⟨by decide, by decide⟩ rfl rfl (Nat.le_of_ble_eq_true rfl) (ws_ne (Nat.ne_of_beq_eq_false rfl) (ws_ne (Nat.ne_of_beq_eq_false rfl) (ws_ne (Nat.ne_of_beq_eq_false rfl) (ws_ne (Nat.ne_of_beq_eq_false rfl) ws_eq)))) rfl rfl (Nat.le_of_ble_eq_true rfl) (by decide) (by decide) (fun w9 h9 => ?_)
            obtain ⟨ft_13, fr_14, rfl, h_15⟩ := h9
            refine r_eq rfl rfl ((ws_comm (Nat.ne_of_beq_eq_false rfl)).trans (congrArg (fun z => wset z 37 (ia 16384 fr_14)) ((ws_comm (Nat.ne_of_beq_eq_false rfl)).trans (congrArg (fun z => wset z 51 (ia 256 ft_13)) ((ws_comm (Nat.ne_of_beq_eq_false rfl)).trans (congrArg (fun z => wset z 50 (ia 16 fh_9)) ((ws_comm (Nat.ne_of_beq_eq_false rfl)).trans (congrArg (fun z => wset z 45 (ia 16 fd_8)) ((ws_comm (Nat.ne_of_beq_eq_false rfl)).trans (congrArg (fun z => wset z 46 (ia 4 (q4f t_4 t_5 t_6 t_7))) ((ws_comm (Nat.ne_of_beq_eq_false rfl)).trans (congrArg (fun z => wset z 44 (ia 16512 fm_3)) ws_same)))))))))))) ?_
            have hul : (strm (objKey ln kn nu ge (me = 2)) 0 xs).length ≤ 16384 := by rw [strm_len]; exact k_xs
            refine r_goto C 68 dX6_undo_61 (by decide) ?_
            refine r_aload_n C dX6_undo_68 rfl ?_
            refine r_get C dX6_undo_69 fgRX6_194 (Nat.le_of_ble_eq_true rfl) (ws_ne (Nat.ne_of_beq_eq_false rfl) (ws_ne (Nat.ne_of_beq_eq_false rfl) (ws_ne (Nat.ne_of_beq_eq_false rfl) (ws_ne (Nat.ne_of_beq_eq_false rfl) (ws_ne (Nat.ne_of_beq_eq_false rfl) (ws_ne (Nat.ne_of_beq_eq_false rfl) ws_eq)))))) rfl ?_
            exact r_ireturn C T_ rfl rfl dX6_undo_72 (⟨_, rfl, Or.inr (Or.inr ⟨hs9, (fun z => by have := hk.1; rw [z] at this; have := hln.1; simp at *; omega), by rw [show unR me (objKey ln kn nu ge (me = 2)) xs rs = (nI xs.length, strm (objKey ln kn nu ge (me = 2)) 0 xs) by unfold unR; rw [if_neg c_44, if_pos c_54]]; exact MW_mk (ws_ne (Nat.ne_of_beq_eq_false rfl) (ws_ne (Nat.ne_of_beq_eq_false rfl) (ws_ne (Nat.ne_of_beq_eq_false rfl) (ws_ne (Nat.ne_of_beq_eq_false rfl) (ws_ne (Nat.ne_of_beq_eq_false rfl) (ws_ne (Nat.ne_of_beq_eq_false rfl) ws_eq)))))) (ws_ne (Nat.ne_of_beq_eq_false rfl) (ws_ne (Nat.ne_of_beq_eq_false rfl) (ws_ne (Nat.ne_of_beq_eq_false rfl) (ws_ne (Nat.ne_of_beq_eq_false rfl) (ws_ne (Nat.ne_of_beq_eq_false rfl) (ws_ne (Nat.ne_of_beq_eq_false rfl) (ws_ne (Nat.ne_of_beq_eq_false rfl) w_36))))))) h_xs (by first | omega | (simp only [List.length_append, List.length_nil, List.length_cons, List.length_take, List.length_replicate, List.length_range, List.length_map, lof_len, pad_len, padd_len, md5_len, strm_len, strms_len, entOf_len, hif_len] <;> omega)) ws_eq h_15 (by first | omega | (simp only [List.length_append, List.length_nil, List.length_cons, List.length_take, List.length_replicate, List.length_range, List.length_map, lof_len, pad_len, padd_len, md5_len, strm_len, strms_len, entOf_len, hif_len] <;> omega)) (ws_ne (Nat.ne_of_beq_eq_false rfl) (ws_ne (Nat.ne_of_beq_eq_false rfl) (ws_ne (Nat.ne_of_beq_eq_false rfl) (ws_ne (Nat.ne_of_beq_eq_false rfl) (ws_ne (Nat.ne_of_beq_eq_false rfl) (ws_ne (Nat.ne_of_beq_eq_false rfl) (ws_ne (Nat.ne_of_beq_eq_false rfl) w_38))))))) h_ow (by first | omega | (simp only [List.length_append, List.length_nil, List.length_cons, List.length_take, List.length_replicate, List.length_range, List.length_map, lof_len, pad_len, padd_len, md5_len, strm_len, strms_len, entOf_len, hif_len] <;> omega)) (ws_ne (Nat.ne_of_beq_eq_false rfl) (ws_ne (Nat.ne_of_beq_eq_false rfl) (ws_ne (Nat.ne_of_beq_eq_false rfl) (ws_ne (Nat.ne_of_beq_eq_false rfl) (ws_ne (Nat.ne_of_beq_eq_false rfl) (ws_ne (Nat.ne_of_beq_eq_false rfl) (ws_ne (Nat.ne_of_beq_eq_false rfl) w_39))))))) h_us (by first | omega | (simp only [List.length_append, List.length_nil, List.length_cons, List.length_take, List.length_replicate, List.length_range, List.length_map, lof_len, pad_len, padd_len, md5_len, strm_len, strms_len, entOf_len, hif_len] <;> omega)) (ws_ne (Nat.ne_of_beq_eq_false rfl) (ws_ne (Nat.ne_of_beq_eq_false rfl) (ws_ne (Nat.ne_of_beq_eq_false rfl) (ws_ne (Nat.ne_of_beq_eq_false rfl) (ws_ne (Nat.ne_of_beq_eq_false rfl) (ws_ne (Nat.ne_of_beq_eq_false rfl) (ws_ne (Nat.ne_of_beq_eq_false rfl) w_40))))))) h_nb (by first | omega | (simp only [List.length_append, List.length_nil, List.length_cons, List.length_take, List.length_replicate, List.length_range, List.length_map, lof_len, pad_len, padd_len, md5_len, strm_len, strms_len, entOf_len, hif_len] <;> omega)) (ws_ne (Nat.ne_of_beq_eq_false rfl) (ws_ne (Nat.ne_of_beq_eq_false rfl) (ws_ne (Nat.ne_of_beq_eq_false rfl) (ws_ne (Nat.ne_of_beq_eq_false rfl) (ws_ne (Nat.ne_of_beq_eq_false rfl) (ws_ne (Nat.ne_of_beq_eq_false rfl) (ws_ne (Nat.ne_of_beq_eq_false rfl) w_41))))))) h_op (by first | omega | (simp only [List.length_append, List.length_nil, List.length_cons, List.length_take, List.length_replicate, List.length_range, List.length_map, lof_len, pad_len, padd_len, md5_len, strm_len, strms_len, entOf_len, hif_len] <;> omega)) (ws_ne (Nat.ne_of_beq_eq_false rfl) (ws_ne (Nat.ne_of_beq_eq_false rfl) (ws_ne (Nat.ne_of_beq_eq_false rfl) (ws_ne (Nat.ne_of_beq_eq_false rfl) (ws_ne (Nat.ne_of_beq_eq_false rfl) (ws_ne (Nat.ne_of_beq_eq_false rfl) (ws_ne (Nat.ne_of_beq_eq_false rfl) w_42))))))) h_up (by first | omega | (simp only [List.length_append, List.length_nil, List.length_cons, List.length_take, List.length_replicate, List.length_range, List.length_map, lof_len, pad_len, padd_len, md5_len, strm_len, strms_len, entOf_len, hif_len] <;> omega)) (ws_ne (Nat.ne_of_beq_eq_false rfl) (ws_ne (Nat.ne_of_beq_eq_false rfl) (ws_ne (Nat.ne_of_beq_eq_false rfl) (ws_ne (Nat.ne_of_beq_eq_false rfl) (ws_ne (Nat.ne_of_beq_eq_false rfl) (ws_ne (Nat.ne_of_beq_eq_false rfl) (ws_ne (Nat.ne_of_beq_eq_false rfl) w_43))))))) h_kn (by first | omega | (simp only [List.length_append, List.length_nil, List.length_cons, List.length_take, List.length_replicate, List.length_range, List.length_map, lof_len, pad_len, padd_len, md5_len, strm_len, strms_len, entOf_len, hif_len] <;> omega)) (ws_ne (Nat.ne_of_beq_eq_false rfl) (ws_ne (Nat.ne_of_beq_eq_false rfl) ws_eq)) h_10 (by first | omega | (simp only [List.length_append, List.length_nil, List.length_cons, List.length_take, List.length_replicate, List.length_range, List.length_map, lof_len, pad_len, padd_len, md5_len, strm_len, strms_len, entOf_len, hif_len] <;> omega)) (ws_ne (Nat.ne_of_beq_eq_false rfl) (ws_ne (Nat.ne_of_beq_eq_false rfl) (ws_ne (Nat.ne_of_beq_eq_false rfl) (ws_ne (Nat.ne_of_beq_eq_false rfl) (ws_ne (Nat.ne_of_beq_eq_false rfl) ws_eq))))) (ws_ne (Nat.ne_of_beq_eq_false rfl) (ws_ne (Nat.ne_of_beq_eq_false rfl) (ws_ne (Nat.ne_of_beq_eq_false rfl) ws_eq))) (ws_ne (Nat.ne_of_beq_eq_false rfl) (ws_ne (Nat.ne_of_beq_eq_false rfl) (ws_ne (Nat.ne_of_beq_eq_false rfl) (ws_ne (Nat.ne_of_beq_eq_false rfl) ws_eq)))) (ws_ne (Nat.ne_of_beq_eq_false rfl) (ws_ne (Nat.ne_of_beq_eq_false rfl) (ws_ne (Nat.ne_of_beq_eq_false rfl) (ws_ne (Nat.ne_of_beq_eq_false rfl) (ws_ne (Nat.ne_of_beq_eq_false rfl) (ws_ne (Nat.ne_of_beq_eq_false rfl) (ws_ne (Nat.ne_of_beq_eq_false rfl) w_47))))))) hsn (ws_ne (Nat.ne_of_beq_eq_false rfl) (ws_ne (Nat.ne_of_beq_eq_false rfl) (ws_ne (Nat.ne_of_beq_eq_false rfl) (ws_ne (Nat.ne_of_beq_eq_false rfl) (ws_ne (Nat.ne_of_beq_eq_false rfl) (ws_ne (Nat.ne_of_beq_eq_false rfl) (ws_ne (Nat.ne_of_beq_eq_false rfl) w_48))))))) htn (ws_ne (Nat.ne_of_beq_eq_false rfl) (ws_ne (Nat.ne_of_beq_eq_false rfl) (ws_ne (Nat.ne_of_beq_eq_false rfl) (ws_ne (Nat.ne_of_beq_eq_false rfl) (ws_ne (Nat.ne_of_beq_eq_false rfl) (ws_ne (Nat.ne_of_beq_eq_false rfl) (ws_ne (Nat.ne_of_beq_eq_false rfl) w_49))))))) hpd (ws_ne (Nat.ne_of_beq_eq_false rfl) ws_eq) (ws_ne (Nat.ne_of_beq_eq_false rfl) (ws_ne (Nat.ne_of_beq_eq_false rfl) (ws_ne (Nat.ne_of_beq_eq_false rfl) (ws_ne (Nat.ne_of_beq_eq_false rfl) (ws_ne (Nat.ne_of_beq_eq_false rfl) (ws_ne (Nat.ne_of_beq_eq_false rfl) (ws_ne (Nat.ne_of_beq_eq_false rfl) w_52))))))) (ws_ne (Nat.ne_of_beq_eq_false rfl) (ws_ne (Nat.ne_of_beq_eq_false rfl) (ws_ne (Nat.ne_of_beq_eq_false rfl) (ws_ne (Nat.ne_of_beq_eq_false rfl) (ws_ne (Nat.ne_of_beq_eq_false rfl) (ws_ne (Nat.ne_of_beq_eq_false rfl) (ws_ne (Nat.ne_of_beq_eq_false rfl) w_53))))))) (ws_ne (Nat.ne_of_beq_eq_false rfl) (ws_ne (Nat.ne_of_beq_eq_false rfl) (ws_ne (Nat.ne_of_beq_eq_false rfl) (ws_ne (Nat.ne_of_beq_eq_false rfl) (ws_ne (Nat.ne_of_beq_eq_false rfl) (ws_ne (Nat.ne_of_beq_eq_false rfl) (ws_ne (Nat.ne_of_beq_eq_false rfl) w_54))))))) (ws_ne (Nat.ne_of_beq_eq_false rfl) (ws_ne (Nat.ne_of_beq_eq_false rfl) (ws_ne (Nat.ne_of_beq_eq_false rfl) (ws_ne (Nat.ne_of_beq_eq_false rfl) (ws_ne (Nat.ne_of_beq_eq_false rfl) (ws_ne (Nat.ne_of_beq_eq_false rfl) (ws_ne (Nat.ne_of_beq_eq_false rfl) w_55))))))) (ws_ne (Nat.ne_of_beq_eq_false rfl) (ws_ne (Nat.ne_of_beq_eq_false rfl) (ws_ne (Nat.ne_of_beq_eq_false rfl) (ws_ne (Nat.ne_of_beq_eq_false rfl) (ws_ne (Nat.ne_of_beq_eq_false rfl) (ws_ne (Nat.ne_of_beq_eq_false rfl) (ws_ne (Nat.ne_of_beq_eq_false rfl) w_56))))))) (ws_ne (Nat.ne_of_beq_eq_false rfl) (ws_ne (Nat.ne_of_beq_eq_false rfl) (ws_ne (Nat.ne_of_beq_eq_false rfl) (ws_ne (Nat.ne_of_beq_eq_false rfl) (ws_ne (Nat.ne_of_beq_eq_false rfl) (ws_ne (Nat.ne_of_beq_eq_false rfl) (ws_ne (Nat.ne_of_beq_eq_false rfl) w_57))))))) (ws_ne (Nat.ne_of_beq_eq_false rfl) (ws_ne (Nat.ne_of_beq_eq_false rfl) (ws_ne (Nat.ne_of_beq_eq_false rfl) (ws_ne (Nat.ne_of_beq_eq_false rfl) (ws_ne (Nat.ne_of_beq_eq_false rfl) (ws_ne (Nat.ne_of_beq_eq_false rfl) (ws_ne (Nat.ne_of_beq_eq_false rfl) w_58))))))) hik, by rw [show unR me (objKey ln kn nu ge (me = 2)) xs rs = (nI xs.length, strm (objKey ln kn nu ge (me = 2)) 0 xs) by unfold unR; rw [if_neg c_44, if_pos c_54]]; exact congrArg nI (strm_len _ _ _)⟩), (frm_set (Nat.le_of_ble_eq_true rfl) (Nat.le_of_ble_eq_true rfl) (frm_set (Nat.le_of_ble_eq_true rfl) (Nat.le_of_ble_eq_true rfl) (frm_set (Nat.le_of_ble_eq_true rfl) (Nat.le_of_ble_eq_true rfl) (frm_set (Nat.le_of_ble_eq_true rfl) (Nat.le_of_ble_eq_true rfl) (frm_set (Nat.le_of_ble_eq_true rfl) (Nat.le_of_ble_eq_true rfl) (frm_set (Nat.le_of_ble_eq_true rfl) (Nat.le_of_ble_eq_true rfl) (frm_set (Nat.le_of_ble_eq_true rfl) (Nat.le_of_ble_eq_true rfl) (frm_rf _))))))))⟩)
        · skip
          refine r_aload_n C dX6_undo_47 rfl ?_
          refine r_callVi C (As := []) (rest := []) dX6_undo_48 (cX6_undoBlocks9 (ws_ne (Nat.ne_of_beq_eq_false rfl) (ws_ne (Nat.ne_of_beq_eq_false rfl) (ws_ne (Nat.ne_of_beq_eq_false rfl) (ws_ne (Nat.ne_of_beq_eq_false rfl) ws_eq)))) (ws_ne (Nat.ne_of_beq_eq_false rfl) (ws_ne (Nat.ne_of_beq_eq_false rfl) (ws_ne (Nat.ne_of_beq_eq_false rfl) (ws_ne (Nat.ne_of_beq_eq_false rfl) (ws_ne (Nat.ne_of_beq_eq_false rfl) w_36))))) h_xs k_xs bx (ws_ne (Nat.ne_of_beq_eq_false rfl) (ws_ne (Nat.ne_of_beq_eq_false rfl) (ws_ne (Nat.ne_of_beq_eq_false rfl) (ws_ne (Nat.ne_of_beq_eq_false rfl) (ws_ne (Nat.ne_of_beq_eq_false rfl) w_37))))) h_rs ws_eq h_10 (by omega) tl_byt (ws_ne (Nat.ne_of_beq_eq_false rfl) (ws_ne (Nat.ne_of_beq_eq_false rfl) (ws_ne (Nat.ne_of_beq_eq_false rfl) (ws_ne (Nat.ne_of_beq_eq_false rfl) (ws_ne (Nat.ne_of_beq_eq_false rfl) w_54))))) (ws_ne (Nat.ne_of_beq_eq_false rfl) (ws_ne (Nat.ne_of_beq_eq_false rfl) (ws_ne (Nat.ne_of_beq_eq_false rfl) (ws_ne (Nat.ne_of_beq_eq_false rfl) (ws_ne (Nat.ne_of_beq_eq_false rfl) w_55))))) (ws_ne (Nat.ne_of_beq_eq_false rfl) (ws_ne (Nat.ne_of_beq_eq_false rfl) (ws_ne (Nat.ne_of_beq_eq_false rfl) (ws_ne (Nat.ne_of_beq_eq_false rfl) (ws_ne (Nat.ne_of_beq_eq_false rfl) w_56))))) (ws_ne (Nat.ne_of_beq_eq_false rfl) (ws_ne (Nat.ne_of_beq_eq_false rfl) (ws_ne (Nat.ne_of_beq_eq_false rfl) (ws_ne (Nat.ne_of_beq_eq_false rfl) (ws_ne (Nat.ne_of_beq_eq_false rfl) w_57))))) (ws_ne (Nat.ne_of_beq_eq_false rfl) (ws_ne (Nat.ne_of_beq_eq_false rfl) (ws_ne (Nat.ne_of_beq_eq_false rfl) (ws_ne (Nat.ne_of_beq_eq_false rfl) (ws_ne (Nat.ne_of_beq_eq_false rfl) w_58)))))) okX6_undoBlocks mlRX6_293 imX6_undoBlocks seX6_undoBlocks ⟨by decide, by decide⟩ rfl rfl (Nat.le_of_ble_eq_true rfl) (ws_ne (Nat.ne_of_beq_eq_false rfl) (ws_ne (Nat.ne_of_beq_eq_false rfl) (ws_ne (Nat.ne_of_beq_eq_false rfl) (ws_ne (Nat.ne_of_beq_eq_false rfl) ws_eq)))) rfl rfl (Nat.le_of_ble_eq_true rfl) (by decide) (by decide) (fun r_23 w9 h9 => ?_)
          obtain ⟨⟨SW_16, BK_17, K_18, B_19, fo_20, fr_21, rfl, h_22⟩, rfl⟩ := h9
          refine r_eq rfl rfl ((ws_comm (Nat.ne_of_beq_eq_false rfl)).trans (congrArg (fun z => wset z 37 (ia 16384 fr_21)) ((ws_comm (Nat.ne_of_beq_eq_false rfl)).trans (congrArg (fun z => wset z 56 (ia 16 fo_20)) ((ws_comm (Nat.ne_of_beq_eq_false rfl)).trans (congrArg (fun z => wset z 55 (ia 16 (nf B_19))) ((ws_comm (Nat.ne_of_beq_eq_false rfl)).trans (congrArg (fun z => wset z 54 (ia 176 (nf K_18))) ((ws_comm (Nat.ne_of_beq_eq_false rfl)).trans (congrArg (fun z => wset z 58 (ia 256 (nf BK_17))) ((ws_comm (Nat.ne_of_beq_eq_false rfl)).trans (congrArg (fun z => wset z 57 (ia 256 (nf SW_16))) ((ws_comm (Nat.ne_of_beq_eq_false rfl)).trans (congrArg (fun z => wset z 50 (ia 16 fh_9)) ((ws_comm (Nat.ne_of_beq_eq_false rfl)).trans (congrArg (fun z => wset z 45 (ia 16 fd_8)) ((ws_comm (Nat.ne_of_beq_eq_false rfl)).trans (congrArg (fun z => wset z 46 (ia 4 (q4f t_4 t_5 t_6 t_7))) ((ws_comm (Nat.ne_of_beq_eq_false rfl)).trans (congrArg (fun z => wset z 44 (ia 16512 fm_3)) ws_same)))))))))))))))))))) ?_
          have hul := undB_le (KK := kx (objKey ln kn nu ge (me = 2))) (rs := rs) k_xs k_rs
          exact r_ireturn C T_ rfl rfl dX6_undo_51 (⟨_, rfl, Or.inr (Or.inr ⟨hs9, (fun z => by have := hk.1; rw [z] at this; have := hln.1; simp at *; omega), by rw [show unR me (objKey ln kn nu ge (me = 2)) xs rs = undB (kx (objKey ln kn nu ge (me = 2))) xs rs from if_pos c_44]; exact MW_mk (ws_ne (Nat.ne_of_beq_eq_false rfl) (ws_ne (Nat.ne_of_beq_eq_false rfl) (ws_ne (Nat.ne_of_beq_eq_false rfl) (ws_ne (Nat.ne_of_beq_eq_false rfl) (ws_ne (Nat.ne_of_beq_eq_false rfl) (ws_ne (Nat.ne_of_beq_eq_false rfl) (ws_ne (Nat.ne_of_beq_eq_false rfl) (ws_ne (Nat.ne_of_beq_eq_false rfl) (ws_ne (Nat.ne_of_beq_eq_false rfl) (ws_ne (Nat.ne_of_beq_eq_false rfl) ws_eq)))))))))) (ws_ne (Nat.ne_of_beq_eq_false rfl) (ws_ne (Nat.ne_of_beq_eq_false rfl) (ws_ne (Nat.ne_of_beq_eq_false rfl) (ws_ne (Nat.ne_of_beq_eq_false rfl) (ws_ne (Nat.ne_of_beq_eq_false rfl) (ws_ne (Nat.ne_of_beq_eq_false rfl) (ws_ne (Nat.ne_of_beq_eq_false rfl) (ws_ne (Nat.ne_of_beq_eq_false rfl) (ws_ne (Nat.ne_of_beq_eq_false rfl) (ws_ne (Nat.ne_of_beq_eq_false rfl) (ws_ne (Nat.ne_of_beq_eq_false rfl) w_36))))))))))) h_xs (by first | omega | (simp only [List.length_append, List.length_nil, List.length_cons, List.length_take, List.length_replicate, List.length_range, List.length_map, lof_len, pad_len, padd_len, md5_len, strm_len, strms_len, entOf_len, hif_len] <;> omega)) ws_eq h_22 (by first | omega | (simp only [List.length_append, List.length_nil, List.length_cons, List.length_take, List.length_replicate, List.length_range, List.length_map, lof_len, pad_len, padd_len, md5_len, strm_len, strms_len, entOf_len, hif_len] <;> omega)) (ws_ne (Nat.ne_of_beq_eq_false rfl) (ws_ne (Nat.ne_of_beq_eq_false rfl) (ws_ne (Nat.ne_of_beq_eq_false rfl) (ws_ne (Nat.ne_of_beq_eq_false rfl) (ws_ne (Nat.ne_of_beq_eq_false rfl) (ws_ne (Nat.ne_of_beq_eq_false rfl) (ws_ne (Nat.ne_of_beq_eq_false rfl) (ws_ne (Nat.ne_of_beq_eq_false rfl) (ws_ne (Nat.ne_of_beq_eq_false rfl) (ws_ne (Nat.ne_of_beq_eq_false rfl) (ws_ne (Nat.ne_of_beq_eq_false rfl) w_38))))))))))) h_ow (by first | omega | (simp only [List.length_append, List.length_nil, List.length_cons, List.length_take, List.length_replicate, List.length_range, List.length_map, lof_len, pad_len, padd_len, md5_len, strm_len, strms_len, entOf_len, hif_len] <;> omega)) (ws_ne (Nat.ne_of_beq_eq_false rfl) (ws_ne (Nat.ne_of_beq_eq_false rfl) (ws_ne (Nat.ne_of_beq_eq_false rfl) (ws_ne (Nat.ne_of_beq_eq_false rfl) (ws_ne (Nat.ne_of_beq_eq_false rfl) (ws_ne (Nat.ne_of_beq_eq_false rfl) (ws_ne (Nat.ne_of_beq_eq_false rfl) (ws_ne (Nat.ne_of_beq_eq_false rfl) (ws_ne (Nat.ne_of_beq_eq_false rfl) (ws_ne (Nat.ne_of_beq_eq_false rfl) (ws_ne (Nat.ne_of_beq_eq_false rfl) w_39))))))))))) h_us (by first | omega | (simp only [List.length_append, List.length_nil, List.length_cons, List.length_take, List.length_replicate, List.length_range, List.length_map, lof_len, pad_len, padd_len, md5_len, strm_len, strms_len, entOf_len, hif_len] <;> omega)) (ws_ne (Nat.ne_of_beq_eq_false rfl) (ws_ne (Nat.ne_of_beq_eq_false rfl) (ws_ne (Nat.ne_of_beq_eq_false rfl) (ws_ne (Nat.ne_of_beq_eq_false rfl) (ws_ne (Nat.ne_of_beq_eq_false rfl) (ws_ne (Nat.ne_of_beq_eq_false rfl) (ws_ne (Nat.ne_of_beq_eq_false rfl) (ws_ne (Nat.ne_of_beq_eq_false rfl) (ws_ne (Nat.ne_of_beq_eq_false rfl) (ws_ne (Nat.ne_of_beq_eq_false rfl) (ws_ne (Nat.ne_of_beq_eq_false rfl) w_40))))))))))) h_nb (by first | omega | (simp only [List.length_append, List.length_nil, List.length_cons, List.length_take, List.length_replicate, List.length_range, List.length_map, lof_len, pad_len, padd_len, md5_len, strm_len, strms_len, entOf_len, hif_len] <;> omega)) (ws_ne (Nat.ne_of_beq_eq_false rfl) (ws_ne (Nat.ne_of_beq_eq_false rfl) (ws_ne (Nat.ne_of_beq_eq_false rfl) (ws_ne (Nat.ne_of_beq_eq_false rfl) (ws_ne (Nat.ne_of_beq_eq_false rfl) (ws_ne (Nat.ne_of_beq_eq_false rfl) (ws_ne (Nat.ne_of_beq_eq_false rfl) (ws_ne (Nat.ne_of_beq_eq_false rfl) (ws_ne (Nat.ne_of_beq_eq_false rfl) (ws_ne (Nat.ne_of_beq_eq_false rfl) (ws_ne (Nat.ne_of_beq_eq_false rfl) w_41))))))))))) h_op (by first | omega | (simp only [List.length_append, List.length_nil, List.length_cons, List.length_take, List.length_replicate, List.length_range, List.length_map, lof_len, pad_len, padd_len, md5_len, strm_len, strms_len, entOf_len, hif_len] <;> omega)) (ws_ne (Nat.ne_of_beq_eq_false rfl) (ws_ne (Nat.ne_of_beq_eq_false rfl) (ws_ne (Nat.ne_of_beq_eq_false rfl) (ws_ne (Nat.ne_of_beq_eq_false rfl) (ws_ne (Nat.ne_of_beq_eq_false rfl) (ws_ne (Nat.ne_of_beq_eq_false rfl) (ws_ne (Nat.ne_of_beq_eq_false rfl) (ws_ne (Nat.ne_of_beq_eq_false rfl) (ws_ne (Nat.ne_of_beq_eq_false rfl) (ws_ne (Nat.ne_of_beq_eq_false rfl) (ws_ne (Nat.ne_of_beq_eq_false rfl) w_42))))))))))) h_up (by first | omega | (simp only [List.length_append, List.length_nil, List.length_cons, List.length_take, List.length_replicate, List.length_range, List.length_map, lof_len, pad_len, padd_len, md5_len, strm_len, strms_len, entOf_len, hif_len] <;> omega)) (ws_ne (Nat.ne_of_beq_eq_false rfl) (ws_ne (Nat.ne_of_beq_eq_false rfl) (ws_ne (Nat.ne_of_beq_eq_false rfl) (ws_ne (Nat.ne_of_beq_eq_false rfl) (ws_ne (Nat.ne_of_beq_eq_false rfl) (ws_ne (Nat.ne_of_beq_eq_false rfl) (ws_ne (Nat.ne_of_beq_eq_false rfl) (ws_ne (Nat.ne_of_beq_eq_false rfl) (ws_ne (Nat.ne_of_beq_eq_false rfl) (ws_ne (Nat.ne_of_beq_eq_false rfl) (ws_ne (Nat.ne_of_beq_eq_false rfl) w_43))))))))))) h_kn (by first | omega | (simp only [List.length_append, List.length_nil, List.length_cons, List.length_take, List.length_replicate, List.length_range, List.length_map, lof_len, pad_len, padd_len, md5_len, strm_len, strms_len, entOf_len, hif_len] <;> omega)) (ws_ne (Nat.ne_of_beq_eq_false rfl) (ws_ne (Nat.ne_of_beq_eq_false rfl) (ws_ne (Nat.ne_of_beq_eq_false rfl) (ws_ne (Nat.ne_of_beq_eq_false rfl) (ws_ne (Nat.ne_of_beq_eq_false rfl) (ws_ne (Nat.ne_of_beq_eq_false rfl) ws_eq)))))) h_10 (by first | omega | (simp only [List.length_append, List.length_nil, List.length_cons, List.length_take, List.length_replicate, List.length_range, List.length_map, lof_len, pad_len, padd_len, md5_len, strm_len, strms_len, entOf_len, hif_len] <;> omega)) (ws_ne (Nat.ne_of_beq_eq_false rfl) (ws_ne (Nat.ne_of_beq_eq_false rfl) (ws_ne (Nat.ne_of_beq_eq_false rfl) (ws_ne (Nat.ne_of_beq_eq_false rfl) (ws_ne (Nat.ne_of_beq_eq_false rfl) (ws_ne (Nat.ne_of_beq_eq_false rfl) (ws_ne (Nat.ne_of_beq_eq_false rfl) (ws_ne (Nat.ne_of_beq_eq_false rfl) (ws_ne (Nat.ne_of_beq_eq_false rfl) ws_eq))))))))) (ws_ne (Nat.ne_of_beq_eq_false rfl) (ws_ne (Nat.ne_of_beq_eq_false rfl) (ws_ne (Nat.ne_of_beq_eq_false rfl) (ws_ne (Nat.ne_of_beq_eq_false rfl) (ws_ne (Nat.ne_of_beq_eq_false rfl) (ws_ne (Nat.ne_of_beq_eq_false rfl) (ws_ne (Nat.ne_of_beq_eq_false rfl) ws_eq))))))) (ws_ne (Nat.ne_of_beq_eq_false rfl) (ws_ne (Nat.ne_of_beq_eq_false rfl) (ws_ne (Nat.ne_of_beq_eq_false rfl) (ws_ne (Nat.ne_of_beq_eq_false rfl) (ws_ne (Nat.ne_of_beq_eq_false rfl) (ws_ne (Nat.ne_of_beq_eq_false rfl) (ws_ne (Nat.ne_of_beq_eq_false rfl) (ws_ne (Nat.ne_of_beq_eq_false rfl) ws_eq)))))))) (ws_ne (Nat.ne_of_beq_eq_false rfl) (ws_ne (Nat.ne_of_beq_eq_false rfl) (ws_ne (Nat.ne_of_beq_eq_false rfl) (ws_ne (Nat.ne_of_beq_eq_false rfl) (ws_ne (Nat.ne_of_beq_eq_false rfl) (ws_ne (Nat.ne_of_beq_eq_false rfl) (ws_ne (Nat.ne_of_beq_eq_false rfl) (ws_ne (Nat.ne_of_beq_eq_false rfl) (ws_ne (Nat.ne_of_beq_eq_false rfl) (ws_ne (Nat.ne_of_beq_eq_false rfl) (ws_ne (Nat.ne_of_beq_eq_false rfl) w_47))))))))))) hsn (ws_ne (Nat.ne_of_beq_eq_false rfl) (ws_ne (Nat.ne_of_beq_eq_false rfl) (ws_ne (Nat.ne_of_beq_eq_false rfl) (ws_ne (Nat.ne_of_beq_eq_false rfl) (ws_ne (Nat.ne_of_beq_eq_false rfl) (ws_ne (Nat.ne_of_beq_eq_false rfl) (ws_ne (Nat.ne_of_beq_eq_false rfl) (ws_ne (Nat.ne_of_beq_eq_false rfl) (ws_ne (Nat.ne_of_beq_eq_false rfl) (ws_ne (Nat.ne_of_beq_eq_false rfl) (ws_ne (Nat.ne_of_beq_eq_false rfl) w_48))))))))))) htn (ws_ne (Nat.ne_of_beq_eq_false rfl) (ws_ne (Nat.ne_of_beq_eq_false rfl) (ws_ne (Nat.ne_of_beq_eq_false rfl) (ws_ne (Nat.ne_of_beq_eq_false rfl) (ws_ne (Nat.ne_of_beq_eq_false rfl) (ws_ne (Nat.ne_of_beq_eq_false rfl) (ws_ne (Nat.ne_of_beq_eq_false rfl) (ws_ne (Nat.ne_of_beq_eq_false rfl) (ws_ne (Nat.ne_of_beq_eq_false rfl) (ws_ne (Nat.ne_of_beq_eq_false rfl) (ws_ne (Nat.ne_of_beq_eq_false rfl) w_49))))))))))) hpd (ws_ne (Nat.ne_of_beq_eq_false rfl) (ws_ne (Nat.ne_of_beq_eq_false rfl) (ws_ne (Nat.ne_of_beq_eq_false rfl) (ws_ne (Nat.ne_of_beq_eq_false rfl) (ws_ne (Nat.ne_of_beq_eq_false rfl) (ws_ne (Nat.ne_of_beq_eq_false rfl) (ws_ne (Nat.ne_of_beq_eq_false rfl) (ws_ne (Nat.ne_of_beq_eq_false rfl) (ws_ne (Nat.ne_of_beq_eq_false rfl) (ws_ne (Nat.ne_of_beq_eq_false rfl) (ws_ne (Nat.ne_of_beq_eq_false rfl) w_51))))))))))) (ws_ne (Nat.ne_of_beq_eq_false rfl) (ws_ne (Nat.ne_of_beq_eq_false rfl) (ws_ne (Nat.ne_of_beq_eq_false rfl) (ws_ne (Nat.ne_of_beq_eq_false rfl) (ws_ne (Nat.ne_of_beq_eq_false rfl) (ws_ne (Nat.ne_of_beq_eq_false rfl) (ws_ne (Nat.ne_of_beq_eq_false rfl) (ws_ne (Nat.ne_of_beq_eq_false rfl) (ws_ne (Nat.ne_of_beq_eq_false rfl) (ws_ne (Nat.ne_of_beq_eq_false rfl) (ws_ne (Nat.ne_of_beq_eq_false rfl) w_52))))))))))) (ws_ne (Nat.ne_of_beq_eq_false rfl) (ws_ne (Nat.ne_of_beq_eq_false rfl) (ws_ne (Nat.ne_of_beq_eq_false rfl) (ws_ne (Nat.ne_of_beq_eq_false rfl) (ws_ne (Nat.ne_of_beq_eq_false rfl) (ws_ne (Nat.ne_of_beq_eq_false rfl) (ws_ne (Nat.ne_of_beq_eq_false rfl) (ws_ne (Nat.ne_of_beq_eq_false rfl) (ws_ne (Nat.ne_of_beq_eq_false rfl) (ws_ne (Nat.ne_of_beq_eq_false rfl) (ws_ne (Nat.ne_of_beq_eq_false rfl) w_53))))))))))) (ws_ne (Nat.ne_of_beq_eq_false rfl) (ws_ne (Nat.ne_of_beq_eq_false rfl) (ws_ne (Nat.ne_of_beq_eq_false rfl) ws_eq))) (ws_ne (Nat.ne_of_beq_eq_false rfl) (ws_ne (Nat.ne_of_beq_eq_false rfl) ws_eq)) (ws_ne (Nat.ne_of_beq_eq_false rfl) ws_eq) (ws_ne (Nat.ne_of_beq_eq_false rfl) (ws_ne (Nat.ne_of_beq_eq_false rfl) (ws_ne (Nat.ne_of_beq_eq_false rfl) (ws_ne (Nat.ne_of_beq_eq_false rfl) (ws_ne (Nat.ne_of_beq_eq_false rfl) ws_eq))))) (ws_ne (Nat.ne_of_beq_eq_false rfl) (ws_ne (Nat.ne_of_beq_eq_false rfl) (ws_ne (Nat.ne_of_beq_eq_false rfl) (ws_ne (Nat.ne_of_beq_eq_false rfl) ws_eq)))) hik, by rw [show unR me (objKey ln kn nu ge (me = 2)) xs rs = undB (kx (objKey ln kn nu ge (me = 2))) xs rs from if_pos c_44]⟩), (frm_set (Nat.le_of_ble_eq_true rfl) (Nat.le_of_ble_eq_true rfl) (frm_set (Nat.le_of_ble_eq_true rfl) (Nat.le_of_ble_eq_true rfl) (frm_set (Nat.le_of_ble_eq_true rfl) (Nat.le_of_ble_eq_true rfl) (frm_set (Nat.le_of_ble_eq_true rfl) (Nat.le_of_ble_eq_true rfl) (frm_set (Nat.le_of_ble_eq_true rfl) (Nat.le_of_ble_eq_true rfl) (frm_set (Nat.le_of_ble_eq_true rfl) (Nat.le_of_ble_eq_true rfl) (frm_set (Nat.le_of_ble_eq_true rfl) (Nat.le_of_ble_eq_true rfl) (frm_set (Nat.le_of_ble_eq_true rfl) (Nat.le_of_ble_eq_true rfl) (frm_set (Nat.le_of_ble_eq_true rfl) (Nat.le_of_ble_eq_true rfl) (frm_set (Nat.le_of_ble_eq_true rfl) (Nat.le_of_ble_eq_true rfl) (frm_set (Nat.le_of_ble_eq_true rfl) (Nat.le_of_ble_eq_true rfl) (frm_rf _))))))))))))⟩)
      · skip
        exact absurd c_30 (by decide)
    · skip
      have hk := (hik.resolve_right (fun z => absurd (z.2.symm.trans c_19) (by decide))).1
      refine r_iconst C dX6_undo_22 (v := 2) (by decide) ?_
      refine r_goto C 27 dX6_undo_23 (by decide) ?_
      refine r_callVi C (As := [.int 2]) (rest := []) dX6_undo_27 (cX6_refused9 w_35 (p1 := 2)) okX6_refused mlRX6_159 imX6_refused seX6_refused ⟨by decide, by decide⟩ rfl rfl (Nat.le_of_ble_eq_true rfl) w_35 rfl rfl (Nat.le_of_ble_eq_true rfl) (by decide) (by decide) (fun r_24 w9 h9 => ?_)
      obtain ⟨rfl, er_⟩ := h9
      have er_ : r_24 = 1 := er_.trans (if_neg (by decide))
      subst er_
      refine r_if_eq C 35 dX6_undo_30 (by decide) (fun c_30 => ?_) (fun c_30 => ?_)
      · skip
        exact absurd c_30 (by decide)
      · skip
        refine r_iconst C dX6_undo_33 (v := 0) (by decide) ?_
        exact r_ireturn C T_ rfl rfl dX6_undo_34 (⟨_, rfl, Or.inr (Or.inl ⟨hs9, hk, MW_mk ws_eq (ws_ne (Nat.ne_of_beq_eq_false rfl) w_36) h_xs (by first | omega | (simp only [List.length_append, List.length_nil, List.length_cons, List.length_take, List.length_replicate, List.length_range, List.length_map, lof_len, pad_len, padd_len, md5_len, strm_len, strms_len, entOf_len, hif_len] <;> omega)) (ws_ne (Nat.ne_of_beq_eq_false rfl) w_37) h_rs (by first | omega | (simp only [List.length_append, List.length_nil, List.length_cons, List.length_take, List.length_replicate, List.length_range, List.length_map, lof_len, pad_len, padd_len, md5_len, strm_len, strms_len, entOf_len, hif_len] <;> omega)) (ws_ne (Nat.ne_of_beq_eq_false rfl) w_38) h_ow (by first | omega | (simp only [List.length_append, List.length_nil, List.length_cons, List.length_take, List.length_replicate, List.length_range, List.length_map, lof_len, pad_len, padd_len, md5_len, strm_len, strms_len, entOf_len, hif_len] <;> omega)) (ws_ne (Nat.ne_of_beq_eq_false rfl) w_39) h_us (by first | omega | (simp only [List.length_append, List.length_nil, List.length_cons, List.length_take, List.length_replicate, List.length_range, List.length_map, lof_len, pad_len, padd_len, md5_len, strm_len, strms_len, entOf_len, hif_len] <;> omega)) (ws_ne (Nat.ne_of_beq_eq_false rfl) w_40) h_nb (by first | omega | (simp only [List.length_append, List.length_nil, List.length_cons, List.length_take, List.length_replicate, List.length_range, List.length_map, lof_len, pad_len, padd_len, md5_len, strm_len, strms_len, entOf_len, hif_len] <;> omega)) (ws_ne (Nat.ne_of_beq_eq_false rfl) w_41) h_op (by first | omega | (simp only [List.length_append, List.length_nil, List.length_cons, List.length_take, List.length_replicate, List.length_range, List.length_map, lof_len, pad_len, padd_len, md5_len, strm_len, strms_len, entOf_len, hif_len] <;> omega)) (ws_ne (Nat.ne_of_beq_eq_false rfl) w_42) h_up (by first | omega | (simp only [List.length_append, List.length_nil, List.length_cons, List.length_take, List.length_replicate, List.length_range, List.length_map, lof_len, pad_len, padd_len, md5_len, strm_len, strms_len, entOf_len, hif_len] <;> omega)) (ws_ne (Nat.ne_of_beq_eq_false rfl) w_43) h_kn (by first | omega | (simp only [List.length_append, List.length_nil, List.length_cons, List.length_take, List.length_replicate, List.length_range, List.length_map, lof_len, pad_len, padd_len, md5_len, strm_len, strms_len, entOf_len, hif_len] <;> omega)) (ws_ne (Nat.ne_of_beq_eq_false rfl) w_50) h_hl (by first | omega | (simp only [List.length_append, List.length_nil, List.length_cons, List.length_take, List.length_replicate, List.length_range, List.length_map, lof_len, pad_len, padd_len, md5_len, strm_len, strms_len, entOf_len, hif_len] <;> omega)) (ws_ne (Nat.ne_of_beq_eq_false rfl) w_44) (ws_ne (Nat.ne_of_beq_eq_false rfl) w_45) (ws_ne (Nat.ne_of_beq_eq_false rfl) w_46) (ws_ne (Nat.ne_of_beq_eq_false rfl) w_47) hsn (ws_ne (Nat.ne_of_beq_eq_false rfl) w_48) htn (ws_ne (Nat.ne_of_beq_eq_false rfl) w_49) hpd (ws_ne (Nat.ne_of_beq_eq_false rfl) w_51) (ws_ne (Nat.ne_of_beq_eq_false rfl) w_52) (ws_ne (Nat.ne_of_beq_eq_false rfl) w_53) (ws_ne (Nat.ne_of_beq_eq_false rfl) w_54) (ws_ne (Nat.ne_of_beq_eq_false rfl) w_55) (ws_ne (Nat.ne_of_beq_eq_false rfl) w_56) (ws_ne (Nat.ne_of_beq_eq_false rfl) w_57) (ws_ne (Nat.ne_of_beq_eq_false rfl) w_58) hik, rfl⟩), (frm_set (Nat.le_of_ble_eq_true rfl) (Nat.le_of_ble_eq_true rfl) (frm_rf _))⟩)
  · skip
    have hs9 := (er_.resolve_left (fun z => absurd (z.2.symm.trans c_8) (by decide))).1
    refine r_iconst C dX6_undo_11 (v := 1) (by decide) ?_
    refine r_goto C 27 dX6_undo_12 (by decide) ?_
    refine r_callVi C (As := [.int 1]) (rest := []) dX6_undo_27 (cX6_refused9 w_35 (p1 := 1)) okX6_refused mlRX6_159 imX6_refused seX6_refused ⟨by decide, by decide⟩ rfl rfl (Nat.le_of_ble_eq_true rfl) w_35 rfl rfl (Nat.le_of_ble_eq_true rfl) (by decide) (by decide) (fun r_25 w9 h9 => ?_)
    obtain ⟨rfl, er_⟩ := h9
    have er_ : r_25 = 1 := er_.trans (if_neg (by decide))
    subst er_
    refine r_if_eq C 35 dX6_undo_30 (by decide) (fun c_30 => ?_) (fun c_30 => ?_)
    · skip
      exact absurd c_30 (by decide)
    · skip
      refine r_iconst C dX6_undo_33 (v := 0) (by decide) ?_
      exact r_ireturn C T_ rfl rfl dX6_undo_34 (⟨_, rfl, Or.inl ⟨hs9, MW_mk ws_eq (ws_ne (Nat.ne_of_beq_eq_false rfl) w_36) h_xs (by first | omega | (simp only [List.length_append, List.length_nil, List.length_cons, List.length_take, List.length_replicate, List.length_range, List.length_map, lof_len, pad_len, padd_len, md5_len, strm_len, strms_len, entOf_len, hif_len] <;> omega)) (ws_ne (Nat.ne_of_beq_eq_false rfl) w_37) h_rs (by first | omega | (simp only [List.length_append, List.length_nil, List.length_cons, List.length_take, List.length_replicate, List.length_range, List.length_map, lof_len, pad_len, padd_len, md5_len, strm_len, strms_len, entOf_len, hif_len] <;> omega)) (ws_ne (Nat.ne_of_beq_eq_false rfl) w_38) h_ow (by first | omega | (simp only [List.length_append, List.length_nil, List.length_cons, List.length_take, List.length_replicate, List.length_range, List.length_map, lof_len, pad_len, padd_len, md5_len, strm_len, strms_len, entOf_len, hif_len] <;> omega)) (ws_ne (Nat.ne_of_beq_eq_false rfl) w_39) h_us (by first | omega | (simp only [List.length_append, List.length_nil, List.length_cons, List.length_take, List.length_replicate, List.length_range, List.length_map, lof_len, pad_len, padd_len, md5_len, strm_len, strms_len, entOf_len, hif_len] <;> omega)) (ws_ne (Nat.ne_of_beq_eq_false rfl) w_40) h_nb (by first | omega | (simp only [List.length_append, List.length_nil, List.length_cons, List.length_take, List.length_replicate, List.length_range, List.length_map, lof_len, pad_len, padd_len, md5_len, strm_len, strms_len, entOf_len, hif_len] <;> omega)) (ws_ne (Nat.ne_of_beq_eq_false rfl) w_41) h_op (by first | omega | (simp only [List.length_append, List.length_nil, List.length_cons, List.length_take, List.length_replicate, List.length_range, List.length_map, lof_len, pad_len, padd_len, md5_len, strm_len, strms_len, entOf_len, hif_len] <;> omega)) (ws_ne (Nat.ne_of_beq_eq_false rfl) w_42) h_up (by first | omega | (simp only [List.length_append, List.length_nil, List.length_cons, List.length_take, List.length_replicate, List.length_range, List.length_map, lof_len, pad_len, padd_len, md5_len, strm_len, strms_len, entOf_len, hif_len] <;> omega)) (ws_ne (Nat.ne_of_beq_eq_false rfl) w_43) h_kn (by first | omega | (simp only [List.length_append, List.length_nil, List.length_cons, List.length_take, List.length_replicate, List.length_range, List.length_map, lof_len, pad_len, padd_len, md5_len, strm_len, strms_len, entOf_len, hif_len] <;> omega)) (ws_ne (Nat.ne_of_beq_eq_false rfl) w_50) h_hl (by first | omega | (simp only [List.length_append, List.length_nil, List.length_cons, List.length_take, List.length_replicate, List.length_range, List.length_map, lof_len, pad_len, padd_len, md5_len, strm_len, strms_len, entOf_len, hif_len] <;> omega)) (ws_ne (Nat.ne_of_beq_eq_false rfl) w_44) (ws_ne (Nat.ne_of_beq_eq_false rfl) w_45) (ws_ne (Nat.ne_of_beq_eq_false rfl) w_46) (ws_ne (Nat.ne_of_beq_eq_false rfl) w_47) hsn (ws_ne (Nat.ne_of_beq_eq_false rfl) w_48) htn (ws_ne (Nat.ne_of_beq_eq_false rfl) w_49) hpd (ws_ne (Nat.ne_of_beq_eq_false rfl) w_51) (ws_ne (Nat.ne_of_beq_eq_false rfl) w_52) (ws_ne (Nat.ne_of_beq_eq_false rfl) w_53) (ws_ne (Nat.ne_of_beq_eq_false rfl) w_54) (ws_ne (Nat.ne_of_beq_eq_false rfl) w_55) (ws_ne (Nat.ne_of_beq_eq_false rfl) w_56) (ws_ne (Nat.ne_of_beq_eq_false rfl) w_57) (ws_ne (Nat.ne_of_beq_eq_false rfl) w_58) hik, rfl⟩, (frm_set (Nat.le_of_ble_eq_true rfl) (Nat.le_of_ble_eq_true rfl) (frm_rf _))⟩)
set_option maxHeartbeats 4000000 in
set_option maxRecDepth 100000 in
theorem mX6_seal9 {w : Wo} {fa : Int32} {xs rs : List Nat} {rv : Int32} {ln : Nat} {pm lo : Int32} {ow us nb op up kn : List Nat} (mw : MW fa (xs, rs, rv, ln, pm, lo, ow, us, nb, op, up, kn) w) (ps : PSok (xs, rs, rv, ln, pm, lo, ow, us, nb, op, up, kn)) {nu ge me one two : Int32} : Ctr mX6_seal [.ref 35, .int nu, .int ge, .int me, .int one, .int two] w (PI fun r w' => ((¬ sndO nu ge me ∧ MW 1 (xs, rs, rv, ln, pm, lo, ow, us, nb, op, up, kn) w' ∧ r = 0) ∨ (sndO nu ge me ∧ (kn = [] ∨ ¬ fitR me xs) ∧ MW 2 (xs, rs, rv, ln, pm, lo, ow, us, nb, op, up, kn) w' ∧ r = 0) ∨ (sndO nu ge me ∧ ¬ kn = [] ∧ fitR me xs ∧ MW 0 (xs, (seR me (objKey ln kn nu ge (me = 2)) xs one two).2, rv, ln, pm, lo, ow, us, nb, op, up, kn) w' ∧ r = (seR me (objKey ln kn nu ge (me = 2)) xs one two).1)) ∧ frm w w') := by
  refine Ctr_intro okX6_seal rfl (Nat.le_of_ble_eq_true rfl) (L := [some (.ref 35), some (.int nu), some (.int ge), some (.int me), some (.int one), some (.int two), none]) rfl (fun g ct C T_ => ?_)
  refine MW_open mw (fun fx fr9 fo fus fn fop fup fk fh hl fm fd vA vB vC vD fsn ftn fpd ft fe fp fot K B SW BK ik w_35 w_36 h_xs k_xs w_37 h_rs k_rs w_38 h_ow k_ow w_39 h_us k_us w_40 h_nb k_nb w_41 h_op k_op w_42 h_up k_up w_43 h_kn k_kn w_50 h_hl k_hl w_44 w_45 w_46 w_47 hsn w_48 htn w_49 hpd w_51 w_52 w_53 w_54 w_55 w_56 w_57 w_58 hik => ?_)
  obtain ⟨bx, br, bo, bu, bn, bp, bq, bk9, lo9, lu9, hkn, hrv, hln, hlo⟩ := ps
  refine r_iload_n C dX6_seal_0 rfl ?_
  refine r_iconst C dX6_seal_1 (v := 2) (by decide) ?_
  refine r_icmp_ne C 26 dX6_seal_2 (by decide) (fun c_2 => ?_) (fun c_2 => ?_)
  · skip
    refine r_iconst C dX6_seal_26 (v := 1) (by decide) ?_
    refine r_goto C 31 dX6_seal_27 (by decide) ?_
    refine r_istore C dX6_seal_31 (L' := [some (.ref 35), some (.int nu), some (.int ge), some (.int me), some (.int one), some (.int two), some (.int 1)]) (by decide) rfl ?_
    refine r_aload_n C dX6_seal_33 rfl ?_
    refine r_aload_n C dX6_seal_34 rfl ?_
    refine r_iload_n C dX6_seal_35 rfl ?_
    refine r_iload_n C dX6_seal_36 rfl ?_
    refine r_iload_n C dX6_seal_37 rfl ?_
    refine r_callVi C (As := [.int nu, .int ge, .int me]) (rest := [.ref 35]) dX6_seal_38 (cX6_isSound9) okX6_isSound mlRX6_285 imX6_isSound seX6_isSound ⟨by decide, by decide⟩ rfl rfl (Nat.le_of_ble_eq_true rfl) w_35 rfl rfl (Nat.le_of_ble_eq_true rfl) (by decide) (by decide) (fun r_1 w9 h9 => ?_)
    obtain ⟨e9, er_⟩ := h9
    have e9 := e9.symm
    subst e9
    refine r_if_ne C 48 dX6_seal_41 (by decide) (fun c_41 => ?_) (fun c_41 => ?_)
    · skip
      have hs9 := (er_.resolve_right (fun z => c_41 z.2)).1
      refine r_aload_n C dX6_seal_48 rfl ?_
      refine r_get C dX6_seal_49 fgRX6_220 (Nat.le_of_ble_eq_true rfl) w_35 rfl ?_
      refine r_if_eq C 60 dX6_seal_52 (by decide) (fun c_52 => ?_) (fun c_52 => ?_)
      · skip
        have hk := (hik.resolve_right (fun z => absurd (z.2.symm.trans c_52) (by decide))).1
        refine r_iconst C dX6_seal_60 (v := 2) (by decide) ?_
        refine r_goto C 65 dX6_seal_61 (by decide) ?_
        refine r_callVi C (As := [.int 2]) (rest := []) dX6_seal_65 (cX6_refused9 w_35 (p1 := 2)) okX6_refused mlRX6_159 imX6_refused seX6_refused ⟨by decide, by decide⟩ rfl rfl (Nat.le_of_ble_eq_true rfl) w_35 rfl rfl (Nat.le_of_ble_eq_true rfl) (by decide) (by decide) (fun r_2 w9 h9 => ?_)
        obtain ⟨rfl, er_⟩ := h9
        have er_ : r_2 = 1 := er_.trans (if_neg (by decide))
        subst er_
        refine r_if_eq C 73 dX6_seal_68 (by decide) (fun c_68 => ?_) (fun c_68 => ?_)
        · skip
          exact absurd c_68 (by decide)
        · skip
          refine r_iconst C dX6_seal_71 (v := 0) (by decide) ?_
          exact r_ireturn C T_ rfl rfl dX6_seal_72 (⟨_, rfl, Or.inr (Or.inl ⟨hs9, Or.inl hk, MW_mk ws_eq (ws_ne (Nat.ne_of_beq_eq_false rfl) w_36) h_xs (by first | omega | (simp only [List.length_append, List.length_nil, List.length_cons, List.length_take, List.length_replicate, List.length_range, List.length_map, lof_len, pad_len, padd_len, md5_len, strm_len, strms_len, entOf_len, hif_len] <;> omega)) (ws_ne (Nat.ne_of_beq_eq_false rfl) w_37) h_rs (by first | omega | (simp only [List.length_append, List.length_nil, List.length_cons, List.length_take, List.length_replicate, List.length_range, List.length_map, lof_len, pad_len, padd_len, md5_len, strm_len, strms_len, entOf_len, hif_len] <;> omega)) (ws_ne (Nat.ne_of_beq_eq_false rfl) w_38) h_ow (by first | omega | (simp only [List.length_append, List.length_nil, List.length_cons, List.length_take, List.length_replicate, List.length_range, List.length_map, lof_len, pad_len, padd_len, md5_len, strm_len, strms_len, entOf_len, hif_len] <;> omega)) (ws_ne (Nat.ne_of_beq_eq_false rfl) w_39) h_us (by first | omega | (simp only [List.length_append, List.length_nil, List.length_cons, List.length_take, List.length_replicate, List.length_range, List.length_map, lof_len, pad_len, padd_len, md5_len, strm_len, strms_len, entOf_len, hif_len] <;> omega)) (ws_ne (Nat.ne_of_beq_eq_false rfl) w_40) h_nb (by first | omega | (simp only [List.length_append, List.length_nil, List.length_cons, List.length_take, List.length_replicate, List.length_range, List.length_map, lof_len, pad_len, padd_len, md5_len, strm_len, strms_len, entOf_len, hif_len] <;> omega)) (ws_ne (Nat.ne_of_beq_eq_false rfl) w_41) h_op (by first | omega | (simp only [List.length_append, List.length_nil, List.length_cons, List.length_take, List.length_replicate, List.length_range, List.length_map, lof_len, pad_len, padd_len, md5_len, strm_len, strms_len, entOf_len, hif_len] <;> omega)) (ws_ne (Nat.ne_of_beq_eq_false rfl) w_42) h_up (by first | omega | (simp only [List.length_append, List.length_nil, List.length_cons, List.length_take, List.length_replicate, List.length_range, List.length_map, lof_len, pad_len, padd_len, md5_len, strm_len, strms_len, entOf_len, hif_len] <;> omega)) (ws_ne (Nat.ne_of_beq_eq_false rfl) w_43) h_kn (by first | omega | (simp only [List.length_append, List.length_nil, List.length_cons, List.length_take, List.length_replicate, List.length_range, List.length_map, lof_len, pad_len, padd_len, md5_len, strm_len, strms_len, entOf_len, hif_len] <;> omega)) (ws_ne (Nat.ne_of_beq_eq_false rfl) w_50) h_hl (by first | omega | (simp only [List.length_append, List.length_nil, List.length_cons, List.length_take, List.length_replicate, List.length_range, List.length_map, lof_len, pad_len, padd_len, md5_len, strm_len, strms_len, entOf_len, hif_len] <;> omega)) (ws_ne (Nat.ne_of_beq_eq_false rfl) w_44) (ws_ne (Nat.ne_of_beq_eq_false rfl) w_45) (ws_ne (Nat.ne_of_beq_eq_false rfl) w_46) (ws_ne (Nat.ne_of_beq_eq_false rfl) w_47) hsn (ws_ne (Nat.ne_of_beq_eq_false rfl) w_48) htn (ws_ne (Nat.ne_of_beq_eq_false rfl) w_49) hpd (ws_ne (Nat.ne_of_beq_eq_false rfl) w_51) (ws_ne (Nat.ne_of_beq_eq_false rfl) w_52) (ws_ne (Nat.ne_of_beq_eq_false rfl) w_53) (ws_ne (Nat.ne_of_beq_eq_false rfl) w_54) (ws_ne (Nat.ne_of_beq_eq_false rfl) w_55) (ws_ne (Nat.ne_of_beq_eq_false rfl) w_56) (ws_ne (Nat.ne_of_beq_eq_false rfl) w_57) (ws_ne (Nat.ne_of_beq_eq_false rfl) w_58) hik, rfl⟩), (frm_set (Nat.le_of_ble_eq_true rfl) (Nat.le_of_ble_eq_true rfl) (frm_rf _))⟩)
      · skip
        have hk := hik.resolve_left (fun z => c_52 z.2)
        refine r_iload C dX6_seal_55 rfl ?_
        refine r_if_ne C 64 dX6_seal_57 (by decide) (fun c_57 => ?_) (fun c_57 => ?_)
        · skip
          have hfit : fitR me xs := Or.inl c_2
          refine r_iconst C dX6_seal_64 (v := 0) (by decide) ?_
          refine r_callVi C (As := [.int 0]) (rest := []) dX6_seal_65 (cX6_refused9 w_35 (p1 := 0)) okX6_refused mlRX6_159 imX6_refused seX6_refused ⟨by decide, by decide⟩ rfl rfl (Nat.le_of_ble_eq_true rfl) w_35 rfl rfl (Nat.le_of_ble_eq_true rfl) (by decide) (by decide) (fun r_3 w9 h9 => ?_)
          obtain ⟨rfl, er_⟩ := h9
          have er_ : r_3 = 0 := er_.trans (if_pos (by decide))
          subst er_
          refine r_if_eq C 73 dX6_seal_68 (by decide) (fun c_68 => ?_) (fun c_68 => ?_)
          · skip
            refine r_aload_n C dX6_seal_73 rfl ?_
            refine r_iload_n C dX6_seal_74 rfl ?_
            refine r_iload_n C dX6_seal_75 rfl ?_
            refine r_iload_n C dX6_seal_76 rfl ?_
            refine r_callVv C (As := [.int nu, .int ge, .int me]) (rest := []) dX6_seal_77 (cX6_makeObjectKey9 hln (ws_ne (Nat.ne_of_beq_eq_false rfl) w_43) h_kn k_kn hk.1 ws_eq (ws_ne (Nat.ne_of_beq_eq_false rfl) w_44) (ws_ne (Nat.ne_of_beq_eq_false rfl) w_46) (ws_ne (Nat.ne_of_beq_eq_false rfl) w_45) (ws_ne (Nat.ne_of_beq_eq_false rfl) w_47) hsn (ws_ne (Nat.ne_of_beq_eq_false rfl) w_48) htn (ws_ne (Nat.ne_of_beq_eq_false rfl) w_50)) okX6_makeObjectKey mlRX6_289 imX6_makeObjectKey seX6_makeObjectKey ⟨by decide, by decide⟩ rfl rfl (Nat.le_of_ble_eq_true rfl) ws_eq rfl rfl (Nat.le_of_ble_eq_true rfl) (by decide) (by decide) (fun w9 h9 => ?_)
            obtain ⟨fm_4, t_5, t_6, t_7, t_8, fd_9, fh_10, rfl, h_11⟩ := h9
            refine r_eq rfl rfl (congrArg (fun z => wset (wset (wset (z) 46 (ia 4 (q4f t_5 t_6 t_7 t_8))) 45 (ia 16 fd_9)) 50 (ia 16 fh_10)) ((ws_comm (Nat.ne_of_beq_eq_false rfl)).trans (congrArg (fun z => wset z 44 (ia 16512 fm_4)) ws_same))) ?_
            have tl_len := objKey_len hln kn nu ge (me = 2)
            have tl_byt := byt_objKey ln kn nu ge (me = 2)
            refine r_iload_n C dX6_seal_80 rfl ?_
            refine r_iconst C dX6_seal_81 (v := 2) (by decide) ?_
            refine r_icmp_ne C 96 dX6_seal_82 (by decide) (fun c_82 => ?_) (fun c_82 => ?_)
            · skip
              refine r_iload_n C dX6_seal_96 rfl ?_
              refine r_iconst C dX6_seal_97 (v := 1) (by decide) ?_
              refine r_icmp_ne C 108 dX6_seal_98 (by decide) (fun c_98 => ?_) (fun c_98 => ?_)
              · skip
                refine r_aload_n C dX6_seal_108 rfl ?_
                refine r_callVv C (As := []) (rest := []) dX6_seal_109 (cX6_copy9 (ws_ne (Nat.ne_of_beq_eq_false rfl) (ws_ne (Nat.ne_of_beq_eq_false rfl) (ws_ne (Nat.ne_of_beq_eq_false rfl) (ws_ne (Nat.ne_of_beq_eq_false rfl) ws_eq)))) (ws_ne (Nat.ne_of_beq_eq_false rfl) (ws_ne (Nat.ne_of_beq_eq_false rfl) (ws_ne (Nat.ne_of_beq_eq_false rfl) (ws_ne (Nat.ne_of_beq_eq_false rfl) (ws_ne (Nat.ne_of_beq_eq_false rfl) w_36))))) h_xs k_xs (ws_ne (Nat.ne_of_beq_eq_false rfl) (ws_ne (Nat.ne_of_beq_eq_false rfl) (ws_ne (Nat.ne_of_beq_eq_false rfl) (ws_ne (Nat.ne_of_beq_eq_false rfl) (ws_ne (Nat.ne_of_beq_eq_false rfl) w_37)))))) okX6_copy mlRX6_299 imX6_copy seX6_copy ⟨by decide, by decide⟩ rfl rfl (Nat.le_of_ble_eq_true rfl) (ws_ne (Nat.ne_of_beq_eq_false rfl) (ws_ne (Nat.ne_of_beq_eq_false rfl) (ws_ne (Nat.ne_of_beq_eq_false rfl) (ws_ne (Nat.ne_of_beq_eq_false rfl) ws_eq)))) rfl rfl (Nat.le_of_ble_eq_true rfl) (by decide) (by decide) (fun w9 h9 => ?_)
                obtain ⟨fr_12, rfl, h_13⟩ := h9
                refine r_eq rfl rfl (congrArg (fun z => wset (z) 37 (ia 16384 fr_12)) ((ws_comm (Nat.ne_of_beq_eq_false rfl)).trans (congrArg (fun z => wset z 50 (ia 16 fh_10)) ((ws_comm (Nat.ne_of_beq_eq_false rfl)).trans (congrArg (fun z => wset z 45 (ia 16 fd_9)) ((ws_comm (Nat.ne_of_beq_eq_false rfl)).trans (congrArg (fun z => wset z 46 (ia 4 (q4f t_5 t_6 t_7 t_8))) ((ws_comm (Nat.ne_of_beq_eq_false rfl)).trans (congrArg (fun z => wset z 44 (ia 16512 fm_4)) ws_same))))))))) ?_
                refine r_aload_n C dX6_seal_112 rfl ?_
                refine r_get C dX6_seal_113 fgRX6_194 (Nat.le_of_ble_eq_true rfl) (ws_ne (Nat.ne_of_beq_eq_false rfl) (ws_ne (Nat.ne_of_beq_eq_false rfl) (ws_ne (Nat.ne_of_beq_eq_false rfl) (ws_ne (Nat.ne_of_beq_eq_false rfl) (ws_ne (Nat.ne_of_beq_eq_false rfl) ws_eq))))) rfl ?_
                exact r_ireturn C T_ rfl rfl dX6_seal_116 (⟨_, rfl, Or.inr (Or.inr ⟨hs9, (fun z => by have := hk.1; rw [z] at this; have := hln.1; simp at *; omega), hfit, by rw [show seR me (objKey ln kn nu ge (me = 2)) xs one two = (nI xs.length, xs) by unfold seR; rw [if_neg c_82, if_neg c_98]]; exact MW_mk (ws_ne (Nat.ne_of_beq_eq_false rfl) (ws_ne (Nat.ne_of_beq_eq_false rfl) (ws_ne (Nat.ne_of_beq_eq_false rfl) (ws_ne (Nat.ne_of_beq_eq_false rfl) (ws_ne (Nat.ne_of_beq_eq_false rfl) ws_eq))))) (ws_ne (Nat.ne_of_beq_eq_false rfl) (ws_ne (Nat.ne_of_beq_eq_false rfl) (ws_ne (Nat.ne_of_beq_eq_false rfl) (ws_ne (Nat.ne_of_beq_eq_false rfl) (ws_ne (Nat.ne_of_beq_eq_false rfl) (ws_ne (Nat.ne_of_beq_eq_false rfl) w_36)))))) h_xs (by first | omega | (simp only [List.length_append, List.length_nil, List.length_cons, List.length_take, List.length_replicate, List.length_range, List.length_map, lof_len, pad_len, padd_len, md5_len, strm_len, strms_len, entOf_len, hif_len] <;> omega)) ws_eq h_13 (by first | omega | (simp only [List.length_append, List.length_nil, List.length_cons, List.length_take, List.length_replicate, List.length_range, List.length_map, lof_len, pad_len, padd_len, md5_len, strm_len, strms_len, entOf_len, hif_len] <;> omega)) (ws_ne (Nat.ne_of_beq_eq_false rfl) (ws_ne (Nat.ne_of_beq_eq_false rfl) (ws_ne (Nat.ne_of_beq_eq_false rfl) (ws_ne (Nat.ne_of_beq_eq_false rfl) (ws_ne (Nat.ne_of_beq_eq_false rfl) (ws_ne (Nat.ne_of_beq_eq_false rfl) w_38)))))) h_ow (by first | omega | (simp only [List.length_append, List.length_nil, List.length_cons, List.length_take, List.length_replicate, List.length_range, List.length_map, lof_len, pad_len, padd_len, md5_len, strm_len, strms_len, entOf_len, hif_len] <;> omega)) (ws_ne (Nat.ne_of_beq_eq_false rfl) (ws_ne (Nat.ne_of_beq_eq_false rfl) (ws_ne (Nat.ne_of_beq_eq_false rfl) (ws_ne (Nat.ne_of_beq_eq_false rfl) (ws_ne (Nat.ne_of_beq_eq_false rfl) (ws_ne (Nat.ne_of_beq_eq_false rfl) w_39)))))) h_us (by first | omega | (simp only [List.length_append, List.length_nil, List.length_cons, List.length_take, List.length_replicate, List.length_range, List.length_map, lof_len, pad_len, padd_len, md5_len, strm_len, strms_len, entOf_len, hif_len] <;> omega)) (ws_ne (Nat.ne_of_beq_eq_false rfl) (ws_ne (Nat.ne_of_beq_eq_false rfl) (ws_ne (Nat.ne_of_beq_eq_false rfl) (ws_ne (Nat.ne_of_beq_eq_false rfl) (ws_ne (Nat.ne_of_beq_eq_false rfl) (ws_ne (Nat.ne_of_beq_eq_false rfl) w_40)))))) h_nb (by first | omega | (simp only [List.length_append, List.length_nil, List.length_cons, List.length_take, List.length_replicate, List.length_range, List.length_map, lof_len, pad_len, padd_len, md5_len, strm_len, strms_len, entOf_len, hif_len] <;> omega)) (ws_ne (Nat.ne_of_beq_eq_false rfl) (ws_ne (Nat.ne_of_beq_eq_false rfl) (ws_ne (Nat.ne_of_beq_eq_false rfl) (ws_ne (Nat.ne_of_beq_eq_false rfl) (ws_ne (Nat.ne_of_beq_eq_false rfl) (ws_ne (Nat.ne_of_beq_eq_false rfl) w_41)))))) h_op (by first | omega | (simp only [List.length_append, List.length_nil, List.length_cons, List.length_take, List.length_replicate, List.length_range, List.length_map, lof_len, pad_len, padd_len, md5_len, strm_len, strms_len, entOf_len, hif_len] <;> omega)) (ws_ne (Nat.ne_of_beq_eq_false rfl) (ws_ne (Nat.ne_of_beq_eq_false rfl) (ws_ne (Nat.ne_of_beq_eq_false rfl) (ws_ne (Nat.ne_of_beq_eq_false rfl) (ws_ne (Nat.ne_of_beq_eq_false rfl) (ws_ne (Nat.ne_of_beq_eq_false rfl) w_42)))))) h_up (by first | omega | (simp only [List.length_append, List.length_nil, List.length_cons, List.length_take, List.length_replicate, List.length_range, List.length_map, lof_len, pad_len, padd_len, md5_len, strm_len, strms_len, entOf_len, hif_len] <;> omega)) (ws_ne (Nat.ne_of_beq_eq_false rfl) (ws_ne (Nat.ne_of_beq_eq_false rfl) (ws_ne (Nat.ne_of_beq_eq_false rfl) (ws_ne (Nat.ne_of_beq_eq_false rfl) (ws_ne (Nat.ne_of_beq_eq_false rfl) (ws_ne (Nat.ne_of_beq_eq_false rfl) w_43)))))) h_kn (by first | omega | (simp only [List.length_append, List.length_nil, List.length_cons, List.length_take, List.length_replicate, List.length_range, List.length_map, lof_len, pad_len, padd_len, md5_len, strm_len, strms_len, entOf_len, hif_len] <;> omega)) (ws_ne (Nat.ne_of_beq_eq_false rfl) ws_eq) h_11 (by first | omega | (simp only [List.length_append, List.length_nil, List.length_cons, List.length_take, List.length_replicate, List.length_range, List.length_map, lof_len, pad_len, padd_len, md5_len, strm_len, strms_len, entOf_len, hif_len] <;> omega)) (ws_ne (Nat.ne_of_beq_eq_false rfl) (ws_ne (Nat.ne_of_beq_eq_false rfl) (ws_ne (Nat.ne_of_beq_eq_false rfl) (ws_ne (Nat.ne_of_beq_eq_false rfl) ws_eq)))) (ws_ne (Nat.ne_of_beq_eq_false rfl) (ws_ne (Nat.ne_of_beq_eq_false rfl) ws_eq)) (ws_ne (Nat.ne_of_beq_eq_false rfl) (ws_ne (Nat.ne_of_beq_eq_false rfl) (ws_ne (Nat.ne_of_beq_eq_false rfl) ws_eq))) (ws_ne (Nat.ne_of_beq_eq_false rfl) (ws_ne (Nat.ne_of_beq_eq_false rfl) (ws_ne (Nat.ne_of_beq_eq_false rfl) (ws_ne (Nat.ne_of_beq_eq_false rfl) (ws_ne (Nat.ne_of_beq_eq_false rfl) (ws_ne (Nat.ne_of_beq_eq_false rfl) w_47)))))) hsn (ws_ne (Nat.ne_of_beq_eq_false rfl) (ws_ne (Nat.ne_of_beq_eq_false rfl) (ws_ne (Nat.ne_of_beq_eq_false rfl) (ws_ne (Nat.ne_of_beq_eq_false rfl) (ws_ne (Nat.ne_of_beq_eq_false rfl) (ws_ne (Nat.ne_of_beq_eq_false rfl) w_48)))))) htn (ws_ne (Nat.ne_of_beq_eq_false rfl) (ws_ne (Nat.ne_of_beq_eq_false rfl) (ws_ne (Nat.ne_of_beq_eq_false rfl) (ws_ne (Nat.ne_of_beq_eq_false rfl) (ws_ne (Nat.ne_of_beq_eq_false rfl) (ws_ne (Nat.ne_of_beq_eq_false rfl) w_49)))))) hpd (ws_ne (Nat.ne_of_beq_eq_false rfl) (ws_ne (Nat.ne_of_beq_eq_false rfl) (ws_ne (Nat.ne_of_beq_eq_false rfl) (ws_ne (Nat.ne_of_beq_eq_false rfl) (ws_ne (Nat.ne_of_beq_eq_false rfl) (ws_ne (Nat.ne_of_beq_eq_false rfl) w_51)))))) (ws_ne (Nat.ne_of_beq_eq_false rfl) (ws_ne (Nat.ne_of_beq_eq_false rfl) (ws_ne (Nat.ne_of_beq_eq_false rfl) (ws_ne (Nat.ne_of_beq_eq_false rfl) (ws_ne (Nat.ne_of_beq_eq_false rfl) (ws_ne (Nat.ne_of_beq_eq_false rfl) w_52)))))) (ws_ne (Nat.ne_of_beq_eq_false rfl) (ws_ne (Nat.ne_of_beq_eq_false rfl) (ws_ne (Nat.ne_of_beq_eq_false rfl) (ws_ne (Nat.ne_of_beq_eq_false rfl) (ws_ne (Nat.ne_of_beq_eq_false rfl) (ws_ne (Nat.ne_of_beq_eq_false rfl) w_53)))))) (ws_ne (Nat.ne_of_beq_eq_false rfl) (ws_ne (Nat.ne_of_beq_eq_false rfl) (ws_ne (Nat.ne_of_beq_eq_false rfl) (ws_ne (Nat.ne_of_beq_eq_false rfl) (ws_ne (Nat.ne_of_beq_eq_false rfl) (ws_ne (Nat.ne_of_beq_eq_false rfl) w_54)))))) (ws_ne (Nat.ne_of_beq_eq_false rfl) (ws_ne (Nat.ne_of_beq_eq_false rfl) (ws_ne (Nat.ne_of_beq_eq_false rfl) (ws_ne (Nat.ne_of_beq_eq_false rfl) (ws_ne (Nat.ne_of_beq_eq_false rfl) (ws_ne (Nat.ne_of_beq_eq_false rfl) w_55)))))) (ws_ne (Nat.ne_of_beq_eq_false rfl) (ws_ne (Nat.ne_of_beq_eq_false rfl) (ws_ne (Nat.ne_of_beq_eq_false rfl) (ws_ne (Nat.ne_of_beq_eq_false rfl) (ws_ne (Nat.ne_of_beq_eq_false rfl) (ws_ne (Nat.ne_of_beq_eq_false rfl) w_56)))))) (ws_ne (Nat.ne_of_beq_eq_false rfl) (ws_ne (Nat.ne_of_beq_eq_false rfl) (ws_ne (Nat.ne_of_beq_eq_false rfl) (ws_ne (Nat.ne_of_beq_eq_false rfl) (ws_ne (Nat.ne_of_beq_eq_false rfl) (ws_ne (Nat.ne_of_beq_eq_false rfl) w_57)))))) (ws_ne (Nat.ne_of_beq_eq_false rfl) (ws_ne (Nat.ne_of_beq_eq_false rfl) (ws_ne (Nat.ne_of_beq_eq_false rfl) (ws_ne (Nat.ne_of_beq_eq_false rfl) (ws_ne (Nat.ne_of_beq_eq_false rfl) (ws_ne (Nat.ne_of_beq_eq_false rfl) w_58)))))) hik, by rw [show seR me (objKey ln kn nu ge (me = 2)) xs one two = (nI xs.length, xs) by unfold seR; rw [if_neg c_82, if_neg c_98]]⟩), (frm_set (Nat.le_of_ble_eq_true rfl) (Nat.le_of_ble_eq_true rfl) (frm_set (Nat.le_of_ble_eq_true rfl) (Nat.le_of_ble_eq_true rfl) (frm_set (Nat.le_of_ble_eq_true rfl) (Nat.le_of_ble_eq_true rfl) (frm_set (Nat.le_of_ble_eq_true rfl) (Nat.le_of_ble_eq_true rfl) (frm_set (Nat.le_of_ble_eq_true rfl) (Nat.le_of_ble_eq_true rfl) (frm_set (Nat.le_of_ble_eq_true rfl) (Nat.le_of_ble_eq_true rfl) (frm_rf _)))))))⟩)
              · skip
                refine r_aload_n C dX6_seal_101 rfl ?_
                refine r_callVv C (As := []) (rest := []) dX6_seal_102 (cX6_streamRow9 ws_eq h_11 (by omega) tl_len.1 tl_byt (ws_ne (Nat.ne_of_beq_eq_false rfl) (ws_ne (Nat.ne_of_beq_eq_false rfl) (ws_ne (Nat.ne_of_beq_eq_false rfl) (ws_ne (Nat.ne_of_beq_eq_false rfl) ws_eq)))) (ws_ne (Nat.ne_of_beq_eq_false rfl) (ws_ne (Nat.ne_of_beq_eq_false rfl) (ws_ne (Nat.ne_of_beq_eq_false rfl) (ws_ne (Nat.ne_of_beq_eq_false rfl) (ws_ne (Nat.ne_of_beq_eq_false rfl) w_51))))) (ws_ne (Nat.ne_of_beq_eq_false rfl) (ws_ne (Nat.ne_of_beq_eq_false rfl) (ws_ne (Nat.ne_of_beq_eq_false rfl) (ws_ne (Nat.ne_of_beq_eq_false rfl) (ws_ne (Nat.ne_of_beq_eq_false rfl) w_36))))) h_xs k_xs (ws_ne (Nat.ne_of_beq_eq_false rfl) (ws_ne (Nat.ne_of_beq_eq_false rfl) (ws_ne (Nat.ne_of_beq_eq_false rfl) (ws_ne (Nat.ne_of_beq_eq_false rfl) (ws_ne (Nat.ne_of_beq_eq_false rfl) w_37)))))) okX6_streamRow mlRX6_296 imX6_streamRow seX6_streamRow ⟨by decide, by decide⟩ rfl rfl (Nat.le_of_ble_eq_true rfl) (ws_ne (Nat.ne_of_beq_eq_false rfl) (ws_ne (Nat.ne_of_beq_eq_false rfl) (ws_ne (Nat.ne_of_beq_eq_false rfl) (ws_ne (Nat.ne_of_beq_eq_false rfl) ws_eq)))) rfl rfl (Nat.le_of_ble_eq_true rfl) (by decide) (by decide) (fun w9 h9 => ?_)
                obtain ⟨ft_14, fr_15, rfl, h_16⟩ := h9
                refine r_eq rfl rfl ((ws_comm (Nat.ne_of_beq_eq_false rfl)).trans (congrArg (fun z => wset z 37 (ia 16384 fr_15)) ((ws_comm (Nat.ne_of_beq_eq_false rfl)).trans (congrArg (fun z => wset z 51 (ia 256 ft_14)) ((ws_comm (Nat.ne_of_beq_eq_false rfl)).trans (congrArg (fun z => wset z 50 (ia 16 fh_10)) ((ws_comm (Nat.ne_of_beq_eq_false rfl)).trans (congrArg (fun z => wset z 45 (ia 16 fd_9)) ((ws_comm (Nat.ne_of_beq_eq_false rfl)).trans (congrArg (fun z => wset z 46 (ia 4 (q4f t_5 t_6 t_7 t_8))) ((ws_comm (Nat.ne_of_beq_eq_false rfl)).trans (congrArg (fun z => wset z 44 (ia 16512 fm_4)) ws_same)))))))))))) ?_
                have hul : (strm (objKey ln kn nu ge (me = 2)) 0 xs).length ≤ 16384 := by rw [strm_len]; exact k_xs
                refine r_goto C 112 dX6_seal_105 (by decide) ?_
                refine r_aload_n C dX6_seal_112 rfl ?_
                refine r_get C dX6_seal_113 fgRX6_194 (Nat.le_of_ble_eq_true rfl) (ws_ne (Nat.ne_of_beq_eq_false rfl) (ws_ne (Nat.ne_of_beq_eq_false rfl) (ws_ne (Nat.ne_of_beq_eq_false rfl) (ws_ne (Nat.ne_of_beq_eq_false rfl) (ws_ne (Nat.ne_of_beq_eq_false rfl) (ws_ne (Nat.ne_of_beq_eq_false rfl) ws_eq)))))) rfl ?_
                exact r_ireturn C T_ rfl rfl dX6_seal_116 (⟨_, rfl, Or.inr (Or.inr ⟨hs9, (fun z => by have := hk.1; rw [z] at this; have := hln.1; simp at *; omega), hfit, by rw [show seR me (objKey ln kn nu ge (me = 2)) xs one two = (nI xs.length, strm (objKey ln kn nu ge (me = 2)) 0 xs) by unfold seR; rw [if_neg c_82, if_pos c_98]]; exact MW_mk (ws_ne (Nat.ne_of_beq_eq_false rfl) (ws_ne (Nat.ne_of_beq_eq_false rfl) (ws_ne (Nat.ne_of_beq_eq_false rfl) (ws_ne (Nat.ne_of_beq_eq_false rfl) (ws_ne (Nat.ne_of_beq_eq_false rfl) (ws_ne (Nat.ne_of_beq_eq_false rfl) ws_eq)))))) (ws_ne (Nat.ne_of_beq_eq_false rfl) (ws_ne (Nat.ne_of_beq_eq_false rfl) (ws_ne (Nat.ne_of_beq_eq_false rfl) (ws_ne (Nat.ne_of_beq_eq_false rfl) (ws_ne (Nat.ne_of_beq_eq_false rfl) (ws_ne (Nat.ne_of_beq_eq_false rfl) (ws_ne (Nat.ne_of_beq_eq_false rfl) w_36))))))) h_xs (by first | omega | (simp only [List.length_append, List.length_nil, List.length_cons, List.length_take, List.length_replicate, List.length_range, List.length_map, lof_len, pad_len, padd_len, md5_len, strm_len, strms_len, entOf_len, hif_len] <;> omega)) ws_eq h_16 (by first | omega | (simp only [List.length_append, List.length_nil, List.length_cons, List.length_take, List.length_replicate, List.length_range, List.length_map, lof_len, pad_len, padd_len, md5_len, strm_len, strms_len, entOf_len, hif_len] <;> omega)) (ws_ne (Nat.ne_of_beq_eq_false rfl) (ws_ne (Nat.ne_of_beq_eq_false rfl) (ws_ne (Nat.ne_of_beq_eq_false rfl) (ws_ne (Nat.ne_of_beq_eq_false rfl) (ws_ne (Nat.ne_of_beq_eq_false rfl) (ws_ne (Nat.ne_of_beq_eq_false rfl) (ws_ne (Nat.ne_of_beq_eq_false rfl) w_38))))))) h_ow (by first | omega | (simp only [List.length_append, List.length_nil, List.length_cons, List.length_take, List.length_replicate, List.length_range, List.length_map, lof_len, pad_len, padd_len, md5_len, strm_len, strms_len, entOf_len, hif_len] <;> omega)) (ws_ne (Nat.ne_of_beq_eq_false rfl) (ws_ne (Nat.ne_of_beq_eq_false rfl) (ws_ne (Nat.ne_of_beq_eq_false rfl) (ws_ne (Nat.ne_of_beq_eq_false rfl) (ws_ne (Nat.ne_of_beq_eq_false rfl) (ws_ne (Nat.ne_of_beq_eq_false rfl) (ws_ne (Nat.ne_of_beq_eq_false rfl) w_39))))))) h_us (by first | omega | (simp only [List.length_append, List.length_nil, List.length_cons, List.length_take, List.length_replicate, List.length_range, List.length_map, lof_len, pad_len, padd_len, md5_len, strm_len, strms_len, entOf_len, hif_len] <;> omega)) (ws_ne (Nat.ne_of_beq_eq_false rfl) (ws_ne (Nat.ne_of_beq_eq_false rfl) (ws_ne (Nat.ne_of_beq_eq_false rfl) (ws_ne (Nat.ne_of_beq_eq_false rfl) (ws_ne (Nat.ne_of_beq_eq_false rfl) (ws_ne (Nat.ne_of_beq_eq_false rfl) (ws_ne (Nat.ne_of_beq_eq_false rfl) w_40))))))) h_nb (by first | omega | (simp only [List.length_append, List.length_nil, List.length_cons, List.length_take, List.length_replicate, List.length_range, List.length_map, lof_len, pad_len, padd_len, md5_len, strm_len, strms_len, entOf_len, hif_len] <;> omega)) (ws_ne (Nat.ne_of_beq_eq_false rfl) (ws_ne (Nat.ne_of_beq_eq_false rfl) (ws_ne (Nat.ne_of_beq_eq_false rfl) (ws_ne (Nat.ne_of_beq_eq_false rfl) (ws_ne (Nat.ne_of_beq_eq_false rfl) (ws_ne (Nat.ne_of_beq_eq_false rfl) (ws_ne (Nat.ne_of_beq_eq_false rfl) w_41))))))) h_op (by first | omega | (simp only [List.length_append, List.length_nil, List.length_cons, List.length_take, List.length_replicate, List.length_range, List.length_map, lof_len, pad_len, padd_len, md5_len, strm_len, strms_len, entOf_len, hif_len] <;> omega)) (ws_ne (Nat.ne_of_beq_eq_false rfl) (ws_ne (Nat.ne_of_beq_eq_false rfl) (ws_ne (Nat.ne_of_beq_eq_false rfl) (ws_ne (Nat.ne_of_beq_eq_false rfl) (ws_ne (Nat.ne_of_beq_eq_false rfl) (ws_ne (Nat.ne_of_beq_eq_false rfl) (ws_ne (Nat.ne_of_beq_eq_false rfl) w_42))))))) h_up (by first | omega | (simp only [List.length_append, List.length_nil, List.length_cons, List.length_take, List.length_replicate, List.length_range, List.length_map, lof_len, pad_len, padd_len, md5_len, strm_len, strms_len, entOf_len, hif_len] <;> omega)) (ws_ne (Nat.ne_of_beq_eq_false rfl) (ws_ne (Nat.ne_of_beq_eq_false rfl) (ws_ne (Nat.ne_of_beq_eq_false rfl) (ws_ne (Nat.ne_of_beq_eq_false rfl) (ws_ne (Nat.ne_of_beq_eq_false rfl) (ws_ne (Nat.ne_of_beq_eq_false rfl) (ws_ne (Nat.ne_of_beq_eq_false rfl) w_43))))))) h_kn (by first | omega | (simp only [List.length_append, List.length_nil, List.length_cons, List.length_take, List.length_replicate, List.length_range, List.length_map, lof_len, pad_len, padd_len, md5_len, strm_len, strms_len, entOf_len, hif_len] <;> omega)) (ws_ne (Nat.ne_of_beq_eq_false rfl) (ws_ne (Nat.ne_of_beq_eq_false rfl) ws_eq)) h_11 (by first | omega | (simp only [List.length_append, List.length_nil, List.length_cons, List.length_take, List.length_replicate, List.length_range, List.length_map, lof_len, pad_len, padd_len, md5_len, strm_len, strms_len, entOf_len, hif_len] <;> omega)) (ws_ne (Nat.ne_of_beq_eq_false rfl) (ws_ne (Nat.ne_of_beq_eq_false rfl) (ws_ne (Nat.ne_of_beq_eq_false rfl) (ws_ne (Nat.ne_of_beq_eq_false rfl) (ws_ne (Nat.ne_of_beq_eq_false rfl) ws_eq))))) (ws_ne (Nat.ne_of_beq_eq_false rfl) (ws_ne (Nat.ne_of_beq_eq_false rfl) (ws_ne (Nat.ne_of_beq_eq_false rfl) ws_eq))) (ws_ne (Nat.ne_of_beq_eq_false rfl) (ws_ne (Nat.ne_of_beq_eq_false rfl) (ws_ne (Nat.ne_of_beq_eq_false rfl) (ws_ne (Nat.ne_of_beq_eq_false rfl) ws_eq)))) (ws_ne (Nat.ne_of_beq_eq_false rfl) (ws_ne (Nat.ne_of_beq_eq_false rfl) (ws_ne (Nat.ne_of_beq_eq_false rfl) (ws_ne (Nat.ne_of_beq_eq_false rfl) (ws_ne (Nat.ne_of_beq_eq_false rfl) (ws_ne (Nat.ne_of_beq_eq_false rfl) (ws_ne (Nat.ne_of_beq_eq_false rfl) w_47))))))) hsn (ws_ne (Nat.ne_of_beq_eq_false rfl) (ws_ne (Nat.ne_of_beq_eq_false rfl) (ws_ne (Nat.ne_of_beq_eq_false rfl) (ws_ne (Nat.ne_of_beq_eq_false rfl) (ws_ne (Nat.ne_of_beq_eq_false rfl) (ws_ne (Nat.ne_of_beq_eq_false rfl) (ws_ne (Nat.ne_of_beq_eq_false rfl) w_48))))))) htn (ws_ne (Nat.ne_of_beq_eq_false rfl) (ws_ne (Nat.ne_of_beq_eq_false rfl) (ws_ne (Nat.ne_of_beq_eq_false rfl) (ws_ne (Nat.ne_of_beq_eq_false rfl) (ws_ne (Nat.ne_of_beq_eq_false rfl) (ws_ne (Nat.ne_of_beq_eq_false rfl) (ws_ne (Nat.ne_of_beq_eq_false rfl) w_49))))))) hpd (ws_ne (Nat.ne_of_beq_eq_false rfl) ws_eq) (ws_ne (Nat.ne_of_beq_eq_false rfl) (ws_ne (Nat.ne_of_beq_eq_false rfl) (ws_ne (Nat.ne_of_beq_eq_false rfl) (ws_ne (Nat.ne_of_beq_eq_false rfl) (ws_ne (Nat.ne_of_beq_eq_false rfl) (ws_ne (Nat.ne_of_beq_eq_false rfl) (ws_ne (Nat.ne_of_beq_eq_false rfl) w_52))))))) (ws_ne (Nat.ne_of_beq_eq_false rfl) (ws_ne (Nat.ne_of_beq_eq_false rfl) (ws_ne (Nat.ne_of_beq_eq_false rfl) (ws_ne (Nat.ne_of_beq_eq_false rfl) (ws_ne (Nat.ne_of_beq_eq_false rfl) (ws_ne (Nat.ne_of_beq_eq_false rfl) (ws_ne (Nat.ne_of_beq_eq_false rfl) w_53))))))) (ws_ne (Nat.ne_of_beq_eq_false rfl) (ws_ne (Nat.ne_of_beq_eq_false rfl) (ws_ne (Nat.ne_of_beq_eq_false rfl) (ws_ne (Nat.ne_of_beq_eq_false rfl) (ws_ne (Nat.ne_of_beq_eq_false rfl) (ws_ne (Nat.ne_of_beq_eq_false rfl) (ws_ne (Nat.ne_of_beq_eq_false rfl) w_54))))))) (ws_ne (Nat.ne_of_beq_eq_false rfl) (ws_ne (Nat.ne_of_beq_eq_false rfl) (ws_ne (Nat.ne_of_beq_eq_false rfl) (ws_ne (Nat.ne_of_beq_eq_false rfl) (ws_ne (Nat.ne_of_beq_eq_false rfl) (ws_ne (Nat.ne_of_beq_eq_false rfl) (ws_ne (Nat.ne_of_beq_eq_false rfl) w_55))))))) (ws_ne (Nat.ne_of_beq_eq_false rfl) (ws_ne (Nat.ne_of_beq_eq_false rfl) (ws_ne (Nat.ne_of_beq_eq_false rfl) (ws_ne (Nat.ne_of_beq_eq_false rfl) (ws_ne (Nat.ne_of_beq_eq_false rfl) (ws_ne (Nat.ne_of_beq_eq_false rfl) (ws_ne (Nat.ne_of_beq_eq_false rfl) w_56))))))) (ws_ne (Nat.ne_of_beq_eq_false rfl) (ws_ne (Nat.ne_of_beq_eq_false rfl) (ws_ne (Nat.ne_of_beq_eq_false rfl) (ws_ne (Nat.ne_of_beq_eq_false rfl) (ws_ne (Nat.ne_of_beq_eq_false rfl) (ws_ne (Nat.ne_of_beq_eq_false rfl) (ws_ne (Nat.ne_of_beq_eq_false rfl) w_57))))))) (ws_ne (Nat.ne_of_beq_eq_false rfl) (ws_ne (Nat.ne_of_beq_eq_false rfl) (ws_ne (Nat.ne_of_beq_eq_false rfl) (ws_ne (Nat.ne_of_beq_eq_false rfl) (ws_ne (Nat.ne_of_beq_eq_false rfl) (ws_ne (Nat.ne_of_beq_eq_false rfl) (ws_ne (Nat.ne_of_beq_eq_false rfl) w_58))))))) hik, by rw [show seR me (objKey ln kn nu ge (me = 2)) xs one two = (nI xs.length, strm (objKey ln kn nu ge (me = 2)) 0 xs) by unfold seR; rw [if_neg c_82, if_pos c_98]]; exact congrArg nI (strm_len _ _ _)⟩), (frm_set (Nat.le_of_ble_eq_true rfl) (Nat.le_of_ble_eq_true rfl) (frm_set (Nat.le_of_ble_eq_true rfl) (Nat.le_of_ble_eq_true rfl) (frm_set (Nat.le_of_ble_eq_true rfl) (Nat.le_of_ble_eq_true rfl) (frm_set (Nat.le_of_ble_eq_true rfl) (Nat.le_of_ble_eq_true rfl) (frm_set (Nat.le_of_ble_eq_true rfl) (Nat.le_of_ble_eq_true rfl) (frm_set (Nat.le_of_ble_eq_true rfl) (Nat.le_of_ble_eq_true rfl) (frm_set (Nat.le_of_ble_eq_true rfl) (Nat.le_of_ble_eq_true rfl) (frm_rf _))))))))⟩)
            · skip
              exact (by first | omega | exact absurd c_82 c_2 | exact absurd c_2 c_82)
          · skip
            exact absurd c_68 (by decide)
        · skip
          exact absurd c_57 (by decide)
    · skip
      have hs9 := (er_.resolve_left (fun z => absurd (z.2.symm.trans c_41) (by decide))).1
      refine r_iconst C dX6_seal_44 (v := 1) (by decide) ?_
      refine r_goto C 65 dX6_seal_45 (by decide) ?_
      refine r_callVi C (As := [.int 1]) (rest := []) dX6_seal_65 (cX6_refused9 w_35 (p1 := 1)) okX6_refused mlRX6_159 imX6_refused seX6_refused ⟨by decide, by decide⟩ rfl rfl (Nat.le_of_ble_eq_true rfl) w_35 rfl rfl (Nat.le_of_ble_eq_true rfl) (by decide) (by decide) (fun r_17 w9 h9 => ?_)
      obtain ⟨rfl, er_⟩ := h9
      have er_ : r_17 = 1 := er_.trans (if_neg (by decide))
      subst er_
      refine r_if_eq C 73 dX6_seal_68 (by decide) (fun c_68 => ?_) (fun c_68 => ?_)
      · skip
        exact absurd c_68 (by decide)
      · skip
        refine r_iconst C dX6_seal_71 (v := 0) (by decide) ?_
        exact r_ireturn C T_ rfl rfl dX6_seal_72 (⟨_, rfl, Or.inl ⟨hs9, MW_mk ws_eq (ws_ne (Nat.ne_of_beq_eq_false rfl) w_36) h_xs (by first | omega | (simp only [List.length_append, List.length_nil, List.length_cons, List.length_take, List.length_replicate, List.length_range, List.length_map, lof_len, pad_len, padd_len, md5_len, strm_len, strms_len, entOf_len, hif_len] <;> omega)) (ws_ne (Nat.ne_of_beq_eq_false rfl) w_37) h_rs (by first | omega | (simp only [List.length_append, List.length_nil, List.length_cons, List.length_take, List.length_replicate, List.length_range, List.length_map, lof_len, pad_len, padd_len, md5_len, strm_len, strms_len, entOf_len, hif_len] <;> omega)) (ws_ne (Nat.ne_of_beq_eq_false rfl) w_38) h_ow (by first | omega | (simp only [List.length_append, List.length_nil, List.length_cons, List.length_take, List.length_replicate, List.length_range, List.length_map, lof_len, pad_len, padd_len, md5_len, strm_len, strms_len, entOf_len, hif_len] <;> omega)) (ws_ne (Nat.ne_of_beq_eq_false rfl) w_39) h_us (by first | omega | (simp only [List.length_append, List.length_nil, List.length_cons, List.length_take, List.length_replicate, List.length_range, List.length_map, lof_len, pad_len, padd_len, md5_len, strm_len, strms_len, entOf_len, hif_len] <;> omega)) (ws_ne (Nat.ne_of_beq_eq_false rfl) w_40) h_nb (by first | omega | (simp only [List.length_append, List.length_nil, List.length_cons, List.length_take, List.length_replicate, List.length_range, List.length_map, lof_len, pad_len, padd_len, md5_len, strm_len, strms_len, entOf_len, hif_len] <;> omega)) (ws_ne (Nat.ne_of_beq_eq_false rfl) w_41) h_op (by first | omega | (simp only [List.length_append, List.length_nil, List.length_cons, List.length_take, List.length_replicate, List.length_range, List.length_map, lof_len, pad_len, padd_len, md5_len, strm_len, strms_len, entOf_len, hif_len] <;> omega)) (ws_ne (Nat.ne_of_beq_eq_false rfl) w_42) h_up (by first | omega | (simp only [List.length_append, List.length_nil, List.length_cons, List.length_take, List.length_replicate, List.length_range, List.length_map, lof_len, pad_len, padd_len, md5_len, strm_len, strms_len, entOf_len, hif_len] <;> omega)) (ws_ne (Nat.ne_of_beq_eq_false rfl) w_43) h_kn (by first | omega | (simp only [List.length_append, List.length_nil, List.length_cons, List.length_take, List.length_replicate, List.length_range, List.length_map, lof_len, pad_len, padd_len, md5_len, strm_len, strms_len, entOf_len, hif_len] <;> omega)) (ws_ne (Nat.ne_of_beq_eq_false rfl) w_50) h_hl (by first | omega | (simp only [List.length_append, List.length_nil, List.length_cons, List.length_take, List.length_replicate, List.length_range, List.length_map, lof_len, pad_len, padd_len, md5_len, strm_len, strms_len, entOf_len, hif_len] <;> omega)) (ws_ne (Nat.ne_of_beq_eq_false rfl) w_44) (ws_ne (Nat.ne_of_beq_eq_false rfl) w_45) (ws_ne (Nat.ne_of_beq_eq_false rfl) w_46) (ws_ne (Nat.ne_of_beq_eq_false rfl) w_47) hsn (ws_ne (Nat.ne_of_beq_eq_false rfl) w_48) htn (ws_ne (Nat.ne_of_beq_eq_false rfl) w_49) hpd (ws_ne (Nat.ne_of_beq_eq_false rfl) w_51) (ws_ne (Nat.ne_of_beq_eq_false rfl) w_52) (ws_ne (Nat.ne_of_beq_eq_false rfl) w_53) (ws_ne (Nat.ne_of_beq_eq_false rfl) w_54) (ws_ne (Nat.ne_of_beq_eq_false rfl) w_55) (ws_ne (Nat.ne_of_beq_eq_false rfl) w_56) (ws_ne (Nat.ne_of_beq_eq_false rfl) w_57) (ws_ne (Nat.ne_of_beq_eq_false rfl) w_58) hik, rfl⟩, (frm_set (Nat.le_of_ble_eq_true rfl) (Nat.le_of_ble_eq_true rfl) (frm_rf _))⟩)
  · skip
    refine r_aload_n C dX6_seal_5 rfl ?_
    refine r_get C dX6_seal_6 fgRX6_156 (Nat.le_of_ble_eq_true rfl) w_35 rfl ?_
    refine r_bipush C dX6_seal_9 (v := 32) (by decide) ?_
    refine r_iadd C dX6_seal_11 ?_
    refine r_top (y := nI (xs.length + 32)) (nI_add xs.length 32) ?_
    refine r_aload_n C dX6_seal_12 rfl ?_
    refine r_get C dX6_seal_13 fgRX6_156 (Nat.le_of_ble_eq_true rfl) w_35 rfl ?_
    refine r_bipush C dX6_seal_16 (v := 16) (by decide) ?_
    refine r_irem C dX6_seal_18 (by decide) ?_
    refine r_top (y := nI (xs.length % 16)) (pk_rem (a := xs.length) (d := 16) (by omega) (by omega) (by omega)) ?_
    refine r_isub C dX6_seal_19 ?_
    refine r_top (y := nI ((xs.length + 32) - (xs.length % 16))) (pk_sub (a := xs.length + 32) (b := xs.length % 16) (by omega)) ?_
    refine r_sipush C dX6_seal_20 (v := 16384) (by decide) ?_
    refine r_icmp_gt C 30 dX6_seal_23 (by decide) (fun c_23 => ?_) (fun c_23 => ?_)
    · skip
      have c_23 : 16384 < ((xs.length + 32) - (xs.length % 16)) := (nI_ltI (a := 16384) (b := (xs.length + 32) - (xs.length % 16)) (by omega) (by omega)).mp c_23
      refine r_iconst C dX6_seal_30 (v := 0) (by decide) ?_
      refine r_istore C dX6_seal_31 (L' := [some (.ref 35), some (.int nu), some (.int ge), some (.int me), some (.int one), some (.int two), some (.int 0)]) (by decide) rfl ?_
      refine r_aload_n C dX6_seal_33 rfl ?_
      refine r_aload_n C dX6_seal_34 rfl ?_
      refine r_iload_n C dX6_seal_35 rfl ?_
      refine r_iload_n C dX6_seal_36 rfl ?_
      refine r_iload_n C dX6_seal_37 rfl ?_
      refine r_callVi C (As := [.int nu, .int ge, .int me]) (rest := [.ref 35]) dX6_seal_38 (cX6_isSound9) okX6_isSound mlRX6_285 imX6_isSound seX6_isSound ⟨by decide, by decide⟩ rfl rfl (Nat.le_of_ble_eq_true rfl) w_35 rfl rfl (Nat.le_of_ble_eq_true rfl) (by decide) (by decide) (fun r_18 w9 h9 => ?_)
      obtain ⟨e9, er_⟩ := h9
      have e9 := e9.symm
      subst e9
      refine r_if_ne C 48 dX6_seal_41 (by decide) (fun c_41 => ?_) (fun c_41 => ?_)
      · skip
        have hs9 := (er_.resolve_right (fun z => c_41 z.2)).1
        refine r_aload_n C dX6_seal_48 rfl ?_
        refine r_get C dX6_seal_49 fgRX6_220 (Nat.le_of_ble_eq_true rfl) w_35 rfl ?_
        refine r_if_eq C 60 dX6_seal_52 (by decide) (fun c_52 => ?_) (fun c_52 => ?_)
        · skip
          have hk := (hik.resolve_right (fun z => absurd (z.2.symm.trans c_52) (by decide))).1
          refine r_iconst C dX6_seal_60 (v := 2) (by decide) ?_
          refine r_goto C 65 dX6_seal_61 (by decide) ?_
          refine r_callVi C (As := [.int 2]) (rest := []) dX6_seal_65 (cX6_refused9 w_35 (p1 := 2)) okX6_refused mlRX6_159 imX6_refused seX6_refused ⟨by decide, by decide⟩ rfl rfl (Nat.le_of_ble_eq_true rfl) w_35 rfl rfl (Nat.le_of_ble_eq_true rfl) (by decide) (by decide) (fun r_19 w9 h9 => ?_)
          obtain ⟨rfl, er_⟩ := h9
          have er_ : r_19 = 1 := er_.trans (if_neg (by decide))
          subst er_
          refine r_if_eq C 73 dX6_seal_68 (by decide) (fun c_68 => ?_) (fun c_68 => ?_)
          · skip
            exact absurd c_68 (by decide)
          · skip
            refine r_iconst C dX6_seal_71 (v := 0) (by decide) ?_
            exact r_ireturn C T_ rfl rfl dX6_seal_72 (⟨_, rfl, Or.inr (Or.inl ⟨hs9, Or.inl hk, MW_mk ws_eq (ws_ne (Nat.ne_of_beq_eq_false rfl) w_36) h_xs (by first | omega | (simp only [List.length_append, List.length_nil, List.length_cons, List.length_take, List.length_replicate, List.length_range, List.length_map, lof_len, pad_len, padd_len, md5_len, strm_len, strms_len, entOf_len, hif_len] <;> omega)) (ws_ne (Nat.ne_of_beq_eq_false rfl) w_37) h_rs (by first | omega | (simp only [List.length_append, List.length_nil, List.length_cons, List.length_take, List.length_replicate, List.length_range, List.length_map, lof_len, pad_len, padd_len, md5_len, strm_len, strms_len, entOf_len, hif_len] <;> omega)) (ws_ne (Nat.ne_of_beq_eq_false rfl) w_38) h_ow (by first | omega | (simp only [List.length_append, List.length_nil, List.length_cons, List.length_take, List.length_replicate, List.length_range, List.length_map, lof_len, pad_len, padd_len, md5_len, strm_len, strms_len, entOf_len, hif_len] <;> omega)) (ws_ne (Nat.ne_of_beq_eq_false rfl) w_39) h_us (by first | omega | (simp only [List.length_append, List.length_nil, List.length_cons, List.length_take, List.length_replicate, List.length_range, List.length_map, lof_len, pad_len, padd_len, md5_len, strm_len, strms_len, entOf_len, hif_len] <;> omega)) (ws_ne (Nat.ne_of_beq_eq_false rfl) w_40) h_nb (by first | omega | (simp only [List.length_append, List.length_nil, List.length_cons, List.length_take, List.length_replicate, List.length_range, List.length_map, lof_len, pad_len, padd_len, md5_len, strm_len, strms_len, entOf_len, hif_len] <;> omega)) (ws_ne (Nat.ne_of_beq_eq_false rfl) w_41) h_op (by first | omega | (simp only [List.length_append, List.length_nil, List.length_cons, List.length_take, List.length_replicate, List.length_range, List.length_map, lof_len, pad_len, padd_len, md5_len, strm_len, strms_len, entOf_len, hif_len] <;> omega)) (ws_ne (Nat.ne_of_beq_eq_false rfl) w_42) h_up (by first | omega | (simp only [List.length_append, List.length_nil, List.length_cons, List.length_take, List.length_replicate, List.length_range, List.length_map, lof_len, pad_len, padd_len, md5_len, strm_len, strms_len, entOf_len, hif_len] <;> omega)) (ws_ne (Nat.ne_of_beq_eq_false rfl) w_43) h_kn (by first | omega | (simp only [List.length_append, List.length_nil, List.length_cons, List.length_take, List.length_replicate, List.length_range, List.length_map, lof_len, pad_len, padd_len, md5_len, strm_len, strms_len, entOf_len, hif_len] <;> omega)) (ws_ne (Nat.ne_of_beq_eq_false rfl) w_50) h_hl (by first | omega | (simp only [List.length_append, List.length_nil, List.length_cons, List.length_take, List.length_replicate, List.length_range, List.length_map, lof_len, pad_len, padd_len, md5_len, strm_len, strms_len, entOf_len, hif_len] <;> omega)) (ws_ne (Nat.ne_of_beq_eq_false rfl) w_44) (ws_ne (Nat.ne_of_beq_eq_false rfl) w_45) (ws_ne (Nat.ne_of_beq_eq_false rfl) w_46) (ws_ne (Nat.ne_of_beq_eq_false rfl) w_47) hsn (ws_ne (Nat.ne_of_beq_eq_false rfl) w_48) htn (ws_ne (Nat.ne_of_beq_eq_false rfl) w_49) hpd (ws_ne (Nat.ne_of_beq_eq_false rfl) w_51) (ws_ne (Nat.ne_of_beq_eq_false rfl) w_52) (ws_ne (Nat.ne_of_beq_eq_false rfl) w_53) (ws_ne (Nat.ne_of_beq_eq_false rfl) w_54) (ws_ne (Nat.ne_of_beq_eq_false rfl) w_55) (ws_ne (Nat.ne_of_beq_eq_false rfl) w_56) (ws_ne (Nat.ne_of_beq_eq_false rfl) w_57) (ws_ne (Nat.ne_of_beq_eq_false rfl) w_58) hik, rfl⟩), (frm_set (Nat.le_of_ble_eq_true rfl) (Nat.le_of_ble_eq_true rfl) (frm_rf _))⟩)
        · skip
          have hk := hik.resolve_left (fun z => c_52 z.2)
          refine r_iload C dX6_seal_55 rfl ?_
          refine r_if_ne C 64 dX6_seal_57 (by decide) (fun c_57 => ?_) (fun c_57 => ?_)
          · skip
            exact absurd c_57 (by decide)
          · skip
            refine r_iconst C dX6_seal_60 (v := 2) (by decide) ?_
            refine r_goto C 65 dX6_seal_61 (by decide) ?_
            refine r_callVi C (As := [.int 2]) (rest := []) dX6_seal_65 (cX6_refused9 w_35 (p1 := 2)) okX6_refused mlRX6_159 imX6_refused seX6_refused ⟨by decide, by decide⟩ rfl rfl (Nat.le_of_ble_eq_true rfl) w_35 rfl rfl (Nat.le_of_ble_eq_true rfl) (by decide) (by decide) (fun r_20 w9 h9 => ?_)
            obtain ⟨rfl, er_⟩ := h9
            have er_ : r_20 = 1 := er_.trans (if_neg (by decide))
            subst er_
            refine r_if_eq C 73 dX6_seal_68 (by decide) (fun c_68 => ?_) (fun c_68 => ?_)
            · skip
              exact absurd c_68 (by decide)
            · skip
              refine r_iconst C dX6_seal_71 (v := 0) (by decide) ?_
              exact r_ireturn C T_ rfl rfl dX6_seal_72 (⟨_, rfl, Or.inr (Or.inl ⟨hs9, Or.inr (fun z => z.elim (fun y => y c_2) (fun y => absurd y (by omega))), MW_mk ws_eq (ws_ne (Nat.ne_of_beq_eq_false rfl) w_36) h_xs (by first | omega | (simp only [List.length_append, List.length_nil, List.length_cons, List.length_take, List.length_replicate, List.length_range, List.length_map, lof_len, pad_len, padd_len, md5_len, strm_len, strms_len, entOf_len, hif_len] <;> omega)) (ws_ne (Nat.ne_of_beq_eq_false rfl) w_37) h_rs (by first | omega | (simp only [List.length_append, List.length_nil, List.length_cons, List.length_take, List.length_replicate, List.length_range, List.length_map, lof_len, pad_len, padd_len, md5_len, strm_len, strms_len, entOf_len, hif_len] <;> omega)) (ws_ne (Nat.ne_of_beq_eq_false rfl) w_38) h_ow (by first | omega | (simp only [List.length_append, List.length_nil, List.length_cons, List.length_take, List.length_replicate, List.length_range, List.length_map, lof_len, pad_len, padd_len, md5_len, strm_len, strms_len, entOf_len, hif_len] <;> omega)) (ws_ne (Nat.ne_of_beq_eq_false rfl) w_39) h_us (by first | omega | (simp only [List.length_append, List.length_nil, List.length_cons, List.length_take, List.length_replicate, List.length_range, List.length_map, lof_len, pad_len, padd_len, md5_len, strm_len, strms_len, entOf_len, hif_len] <;> omega)) (ws_ne (Nat.ne_of_beq_eq_false rfl) w_40) h_nb (by first | omega | (simp only [List.length_append, List.length_nil, List.length_cons, List.length_take, List.length_replicate, List.length_range, List.length_map, lof_len, pad_len, padd_len, md5_len, strm_len, strms_len, entOf_len, hif_len] <;> omega)) (ws_ne (Nat.ne_of_beq_eq_false rfl) w_41) h_op (by first | omega | (simp only [List.length_append, List.length_nil, List.length_cons, List.length_take, List.length_replicate, List.length_range, List.length_map, lof_len, pad_len, padd_len, md5_len, strm_len, strms_len, entOf_len, hif_len] <;> omega)) (ws_ne (Nat.ne_of_beq_eq_false rfl) w_42) h_up (by first | omega | (simp only [List.length_append, List.length_nil, List.length_cons, List.length_take, List.length_replicate, List.length_range, List.length_map, lof_len, pad_len, padd_len, md5_len, strm_len, strms_len, entOf_len, hif_len] <;> omega)) (ws_ne (Nat.ne_of_beq_eq_false rfl) w_43) h_kn (by first | omega | (simp only [List.length_append, List.length_nil, List.length_cons, List.length_take, List.length_replicate, List.length_range, List.length_map, lof_len, pad_len, padd_len, md5_len, strm_len, strms_len, entOf_len, hif_len] <;> omega)) (ws_ne (Nat.ne_of_beq_eq_false rfl) w_50) h_hl (by first | omega | (simp only [List.length_append, List.length_nil, List.length_cons, List.length_take, List.length_replicate, List.length_range, List.length_map, lof_len, pad_len, padd_len, md5_len, strm_len, strms_len, entOf_len, hif_len] <;> omega)) (ws_ne (Nat.ne_of_beq_eq_false rfl) w_44) (ws_ne (Nat.ne_of_beq_eq_false rfl) w_45) (ws_ne (Nat.ne_of_beq_eq_false rfl) w_46) (ws_ne (Nat.ne_of_beq_eq_false rfl) w_47) hsn (ws_ne (Nat.ne_of_beq_eq_false rfl) w_48) htn (ws_ne (Nat.ne_of_beq_eq_false rfl) w_49) hpd (ws_ne (Nat.ne_of_beq_eq_false rfl) w_51) (ws_ne (Nat.ne_of_beq_eq_false rfl) w_52) (ws_ne (Nat.ne_of_beq_eq_false rfl) w_53) (ws_ne (Nat.ne_of_beq_eq_false rfl) w_54) (ws_ne (Nat.ne_of_beq_eq_false rfl) w_55) (ws_ne (Nat.ne_of_beq_eq_false rfl) w_56) (ws_ne (Nat.ne_of_beq_eq_false rfl) w_57) (ws_ne (Nat.ne_of_beq_eq_false rfl) w_58) hik, rfl⟩), (frm_set (Nat.le_of_ble_eq_true rfl) (Nat.le_of_ble_eq_true rfl) (frm_rf _))⟩)
      · skip
        have hs9 := (er_.resolve_left (fun z => absurd (z.2.symm.trans c_41) (by decide))).1
        refine r_iconst C dX6_seal_44 (v := 1) (by decide) ?_
        refine r_goto C 65 dX6_seal_45 (by decide) ?_
        refine r_callVi C (As := [.int 1]) (rest := []) dX6_seal_65 (cX6_refused9 w_35 (p1 := 1)) okX6_refused mlRX6_159 imX6_refused seX6_refused ⟨by decide, by decide⟩ rfl rfl (Nat.le_of_ble_eq_true rfl) w_35 rfl rfl (Nat.le_of_ble_eq_true rfl) (by decide) (by decide) (fun r_21 w9 h9 => ?_)
        obtain ⟨rfl, er_⟩ := h9
        have er_ : r_21 = 1 := er_.trans (if_neg (by decide))
        subst er_
        refine r_if_eq C 73 dX6_seal_68 (by decide) (fun c_68 => ?_) (fun c_68 => ?_)
        · skip
          exact absurd c_68 (by decide)
        · skip
          refine r_iconst C dX6_seal_71 (v := 0) (by decide) ?_
          exact r_ireturn C T_ rfl rfl dX6_seal_72 (⟨_, rfl, Or.inl ⟨hs9, MW_mk ws_eq (ws_ne (Nat.ne_of_beq_eq_false rfl) w_36) h_xs (by first | omega | (simp only [List.length_append, List.length_nil, List.length_cons, List.length_take, List.length_replicate, List.length_range, List.length_map, lof_len, pad_len, padd_len, md5_len, strm_len, strms_len, entOf_len, hif_len] <;> omega)) (ws_ne (Nat.ne_of_beq_eq_false rfl) w_37) h_rs (by first | omega | (simp only [List.length_append, List.length_nil, List.length_cons, List.length_take, List.length_replicate, List.length_range, List.length_map, lof_len, pad_len, padd_len, md5_len, strm_len, strms_len, entOf_len, hif_len] <;> omega)) (ws_ne (Nat.ne_of_beq_eq_false rfl) w_38) h_ow (by first | omega | (simp only [List.length_append, List.length_nil, List.length_cons, List.length_take, List.length_replicate, List.length_range, List.length_map, lof_len, pad_len, padd_len, md5_len, strm_len, strms_len, entOf_len, hif_len] <;> omega)) (ws_ne (Nat.ne_of_beq_eq_false rfl) w_39) h_us (by first | omega | (simp only [List.length_append, List.length_nil, List.length_cons, List.length_take, List.length_replicate, List.length_range, List.length_map, lof_len, pad_len, padd_len, md5_len, strm_len, strms_len, entOf_len, hif_len] <;> omega)) (ws_ne (Nat.ne_of_beq_eq_false rfl) w_40) h_nb (by first | omega | (simp only [List.length_append, List.length_nil, List.length_cons, List.length_take, List.length_replicate, List.length_range, List.length_map, lof_len, pad_len, padd_len, md5_len, strm_len, strms_len, entOf_len, hif_len] <;> omega)) (ws_ne (Nat.ne_of_beq_eq_false rfl) w_41) h_op (by first | omega | (simp only [List.length_append, List.length_nil, List.length_cons, List.length_take, List.length_replicate, List.length_range, List.length_map, lof_len, pad_len, padd_len, md5_len, strm_len, strms_len, entOf_len, hif_len] <;> omega)) (ws_ne (Nat.ne_of_beq_eq_false rfl) w_42) h_up (by first | omega | (simp only [List.length_append, List.length_nil, List.length_cons, List.length_take, List.length_replicate, List.length_range, List.length_map, lof_len, pad_len, padd_len, md5_len, strm_len, strms_len, entOf_len, hif_len] <;> omega)) (ws_ne (Nat.ne_of_beq_eq_false rfl) w_43) h_kn (by first | omega | (simp only [List.length_append, List.length_nil, List.length_cons, List.length_take, List.length_replicate, List.length_range, List.length_map, lof_len, pad_len, padd_len, md5_len, strm_len, strms_len, entOf_len, hif_len] <;> omega)) (ws_ne (Nat.ne_of_beq_eq_false rfl) w_50) h_hl (by first | omega | (simp only [List.length_append, List.length_nil, List.length_cons, List.length_take, List.length_replicate, List.length_range, List.length_map, lof_len, pad_len, padd_len, md5_len, strm_len, strms_len, entOf_len, hif_len] <;> omega)) (ws_ne (Nat.ne_of_beq_eq_false rfl) w_44) (ws_ne (Nat.ne_of_beq_eq_false rfl) w_45) (ws_ne (Nat.ne_of_beq_eq_false rfl) w_46) (ws_ne (Nat.ne_of_beq_eq_false rfl) w_47) hsn (ws_ne (Nat.ne_of_beq_eq_false rfl) w_48) htn (ws_ne (Nat.ne_of_beq_eq_false rfl) w_49) hpd (ws_ne (Nat.ne_of_beq_eq_false rfl) w_51) (ws_ne (Nat.ne_of_beq_eq_false rfl) w_52) (ws_ne (Nat.ne_of_beq_eq_false rfl) w_53) (ws_ne (Nat.ne_of_beq_eq_false rfl) w_54) (ws_ne (Nat.ne_of_beq_eq_false rfl) w_55) (ws_ne (Nat.ne_of_beq_eq_false rfl) w_56) (ws_ne (Nat.ne_of_beq_eq_false rfl) w_57) (ws_ne (Nat.ne_of_beq_eq_false rfl) w_58) hik, rfl⟩, (frm_set (Nat.le_of_ble_eq_true rfl) (Nat.le_of_ble_eq_true rfl) (frm_rf _))⟩)
    · skip
      have c_23 : ¬ (16384 < ((xs.length + 32) - (xs.length % 16))) := fun h9 => c_23 ((nI_ltI (a := 16384) (b := (xs.length + 32) - (xs.length % 16)) (by omega) (by omega)).mpr h9)
      refine r_iconst C dX6_seal_26 (v := 1) (by decide) ?_
      refine r_goto C 31 dX6_seal_27 (by decide) ?_
      refine r_istore C dX6_seal_31 (L' := [some (.ref 35), some (.int nu), some (.int ge), some (.int me), some (.int one), some (.int two), some (.int 1)]) (by decide) rfl ?_
      refine r_aload_n C dX6_seal_33 rfl ?_
      refine r_aload_n C dX6_seal_34 rfl ?_
      refine r_iload_n C dX6_seal_35 rfl ?_
      refine r_iload_n C dX6_seal_36 rfl ?_
      refine r_iload_n C dX6_seal_37 rfl ?_
      refine r_callVi C (As := [.int nu, .int ge, .int me]) (rest := [.ref 35]) dX6_seal_38 (cX6_isSound9) okX6_isSound mlRX6_285 imX6_isSound seX6_isSound ⟨by decide, by decide⟩ rfl rfl (Nat.le_of_ble_eq_true rfl) w_35 rfl rfl (Nat.le_of_ble_eq_true rfl) (by decide) (by decide) (fun r_22 w9 h9 => ?_)
      obtain ⟨e9, er_⟩ := h9
      have e9 := e9.symm
      subst e9
      refine r_if_ne C 48 dX6_seal_41 (by decide) (fun c_41 => ?_) (fun c_41 => ?_)
      · skip
        have hs9 := (er_.resolve_right (fun z => c_41 z.2)).1
        refine r_aload_n C dX6_seal_48 rfl ?_
        refine r_get C dX6_seal_49 fgRX6_220 (Nat.le_of_ble_eq_true rfl) w_35 rfl ?_
        refine r_if_eq C 60 dX6_seal_52 (by decide) (fun c_52 => ?_) (fun c_52 => ?_)
        · skip
          have hk := (hik.resolve_right (fun z => absurd (z.2.symm.trans c_52) (by decide))).1
          refine r_iconst C dX6_seal_60 (v := 2) (by decide) ?_
          refine r_goto C 65 dX6_seal_61 (by decide) ?_
          refine r_callVi C (As := [.int 2]) (rest := []) dX6_seal_65 (cX6_refused9 w_35 (p1 := 2)) okX6_refused mlRX6_159 imX6_refused seX6_refused ⟨by decide, by decide⟩ rfl rfl (Nat.le_of_ble_eq_true rfl) w_35 rfl rfl (Nat.le_of_ble_eq_true rfl) (by decide) (by decide) (fun r_23 w9 h9 => ?_)
          obtain ⟨rfl, er_⟩ := h9
          have er_ : r_23 = 1 := er_.trans (if_neg (by decide))
          subst er_
          refine r_if_eq C 73 dX6_seal_68 (by decide) (fun c_68 => ?_) (fun c_68 => ?_)
          · skip
            exact absurd c_68 (by decide)
          · skip
            refine r_iconst C dX6_seal_71 (v := 0) (by decide) ?_
            exact r_ireturn C T_ rfl rfl dX6_seal_72 (⟨_, rfl, Or.inr (Or.inl ⟨hs9, Or.inl hk, MW_mk ws_eq (ws_ne (Nat.ne_of_beq_eq_false rfl) w_36) h_xs (by first | omega | (simp only [List.length_append, List.length_nil, List.length_cons, List.length_take, List.length_replicate, List.length_range, List.length_map, lof_len, pad_len, padd_len, md5_len, strm_len, strms_len, entOf_len, hif_len] <;> omega)) (ws_ne (Nat.ne_of_beq_eq_false rfl) w_37) h_rs (by first | omega | (simp only [List.length_append, List.length_nil, List.length_cons, List.length_take, List.length_replicate, List.length_range, List.length_map, lof_len, pad_len, padd_len, md5_len, strm_len, strms_len, entOf_len, hif_len] <;> omega)) (ws_ne (Nat.ne_of_beq_eq_false rfl) w_38) h_ow (by first | omega | (simp only [List.length_append, List.length_nil, List.length_cons, List.length_take, List.length_replicate, List.length_range, List.length_map, lof_len, pad_len, padd_len, md5_len, strm_len, strms_len, entOf_len, hif_len] <;> omega)) (ws_ne (Nat.ne_of_beq_eq_false rfl) w_39) h_us (by first | omega | (simp only [List.length_append, List.length_nil, List.length_cons, List.length_take, List.length_replicate, List.length_range, List.length_map, lof_len, pad_len, padd_len, md5_len, strm_len, strms_len, entOf_len, hif_len] <;> omega)) (ws_ne (Nat.ne_of_beq_eq_false rfl) w_40) h_nb (by first | omega | (simp only [List.length_append, List.length_nil, List.length_cons, List.length_take, List.length_replicate, List.length_range, List.length_map, lof_len, pad_len, padd_len, md5_len, strm_len, strms_len, entOf_len, hif_len] <;> omega)) (ws_ne (Nat.ne_of_beq_eq_false rfl) w_41) h_op (by first | omega | (simp only [List.length_append, List.length_nil, List.length_cons, List.length_take, List.length_replicate, List.length_range, List.length_map, lof_len, pad_len, padd_len, md5_len, strm_len, strms_len, entOf_len, hif_len] <;> omega)) (ws_ne (Nat.ne_of_beq_eq_false rfl) w_42) h_up (by first | omega | (simp only [List.length_append, List.length_nil, List.length_cons, List.length_take, List.length_replicate, List.length_range, List.length_map, lof_len, pad_len, padd_len, md5_len, strm_len, strms_len, entOf_len, hif_len] <;> omega)) (ws_ne (Nat.ne_of_beq_eq_false rfl) w_43) h_kn (by first | omega | (simp only [List.length_append, List.length_nil, List.length_cons, List.length_take, List.length_replicate, List.length_range, List.length_map, lof_len, pad_len, padd_len, md5_len, strm_len, strms_len, entOf_len, hif_len] <;> omega)) (ws_ne (Nat.ne_of_beq_eq_false rfl) w_50) h_hl (by first | omega | (simp only [List.length_append, List.length_nil, List.length_cons, List.length_take, List.length_replicate, List.length_range, List.length_map, lof_len, pad_len, padd_len, md5_len, strm_len, strms_len, entOf_len, hif_len] <;> omega)) (ws_ne (Nat.ne_of_beq_eq_false rfl) w_44) (ws_ne (Nat.ne_of_beq_eq_false rfl) w_45) (ws_ne (Nat.ne_of_beq_eq_false rfl) w_46) (ws_ne (Nat.ne_of_beq_eq_false rfl) w_47) hsn (ws_ne (Nat.ne_of_beq_eq_false rfl) w_48) htn (ws_ne (Nat.ne_of_beq_eq_false rfl) w_49) hpd (ws_ne (Nat.ne_of_beq_eq_false rfl) w_51) (ws_ne (Nat.ne_of_beq_eq_false rfl) w_52) (ws_ne (Nat.ne_of_beq_eq_false rfl) w_53) (ws_ne (Nat.ne_of_beq_eq_false rfl) w_54) (ws_ne (Nat.ne_of_beq_eq_false rfl) w_55) (ws_ne (Nat.ne_of_beq_eq_false rfl) w_56) (ws_ne (Nat.ne_of_beq_eq_false rfl) w_57) (ws_ne (Nat.ne_of_beq_eq_false rfl) w_58) hik, rfl⟩), (frm_set (Nat.le_of_ble_eq_true rfl) (Nat.le_of_ble_eq_true rfl) (frm_rf _))⟩)
        · skip
          have hk := hik.resolve_left (fun z => c_52 z.2)
          refine r_iload C dX6_seal_55 rfl ?_
          refine r_if_ne C 64 dX6_seal_57 (by decide) (fun c_57 => ?_) (fun c_57 => ?_)
          · skip
            have hfit : fitR me xs := Or.inr (by omega)
            refine r_iconst C dX6_seal_64 (v := 0) (by decide) ?_
            refine r_callVi C (As := [.int 0]) (rest := []) dX6_seal_65 (cX6_refused9 w_35 (p1 := 0)) okX6_refused mlRX6_159 imX6_refused seX6_refused ⟨by decide, by decide⟩ rfl rfl (Nat.le_of_ble_eq_true rfl) w_35 rfl rfl (Nat.le_of_ble_eq_true rfl) (by decide) (by decide) (fun r_24 w9 h9 => ?_)
            obtain ⟨rfl, er_⟩ := h9
            have er_ : r_24 = 0 := er_.trans (if_pos (by decide))
            subst er_
            refine r_if_eq C 73 dX6_seal_68 (by decide) (fun c_68 => ?_) (fun c_68 => ?_)
            · skip
              refine r_aload_n C dX6_seal_73 rfl ?_
              refine r_iload_n C dX6_seal_74 rfl ?_
              refine r_iload_n C dX6_seal_75 rfl ?_
              refine r_iload_n C dX6_seal_76 rfl ?_
              refine r_callVv C (As := [.int nu, .int ge, .int me]) (rest := []) dX6_seal_77 (cX6_makeObjectKey9 hln (ws_ne (Nat.ne_of_beq_eq_false rfl) w_43) h_kn k_kn hk.1 ws_eq (ws_ne (Nat.ne_of_beq_eq_false rfl) w_44) (ws_ne (Nat.ne_of_beq_eq_false rfl) w_46) (ws_ne (Nat.ne_of_beq_eq_false rfl) w_45) (ws_ne (Nat.ne_of_beq_eq_false rfl) w_47) hsn (ws_ne (Nat.ne_of_beq_eq_false rfl) w_48) htn (ws_ne (Nat.ne_of_beq_eq_false rfl) w_50)) okX6_makeObjectKey mlRX6_289 imX6_makeObjectKey seX6_makeObjectKey ⟨by decide, by decide⟩ rfl rfl (Nat.le_of_ble_eq_true rfl) ws_eq rfl rfl (Nat.le_of_ble_eq_true rfl) (by decide) (by decide) (fun w9 h9 => ?_)
              obtain ⟨fm_25, t_26, t_27, t_28, t_29, fd_30, fh_31, rfl, h_32⟩ := h9
              refine r_eq rfl rfl (congrArg (fun z => wset (wset (wset (z) 46 (ia 4 (q4f t_26 t_27 t_28 t_29))) 45 (ia 16 fd_30)) 50 (ia 16 fh_31)) ((ws_comm (Nat.ne_of_beq_eq_false rfl)).trans (congrArg (fun z => wset z 44 (ia 16512 fm_25)) ws_same))) ?_
              have tl_len := objKey_len hln kn nu ge (me = 2)
              have tl_byt := byt_objKey ln kn nu ge (me = 2)
              refine r_iload_n C dX6_seal_80 rfl ?_
              refine r_iconst C dX6_seal_81 (v := 2) (by decide) ?_
              refine r_icmp_ne C 96 dX6_seal_82 (by decide) (fun c_82 => ?_) (fun c_82 => ?_)
              · skip
                exact (by first | omega | exact absurd c_82 c_2 | exact absurd c_2 c_82)
              · skip
                refine r_aload_n C dX6_seal_85 rfl ?_
                refine r_iload C dX6_seal_86 rfl ?_
                refine r_iload C dX6_seal_88 rfl ?_
                refine r_callVv C (As := [.int one, .int two]) (rest := []) dX6_seal_90 (cX6_sealBlocks9 (ws_ne (Nat.ne_of_beq_eq_false rfl) (ws_ne (Nat.ne_of_beq_eq_false rfl) (ws_ne (Nat.ne_of_beq_eq_false rfl) (ws_ne (Nat.ne_of_beq_eq_false rfl) ws_eq)))) (ws_ne (Nat.ne_of_beq_eq_false rfl) (ws_ne (Nat.ne_of_beq_eq_false rfl) (ws_ne (Nat.ne_of_beq_eq_false rfl) (ws_ne (Nat.ne_of_beq_eq_false rfl) (ws_ne (Nat.ne_of_beq_eq_false rfl) w_36))))) h_xs k_xs bx (ws_ne (Nat.ne_of_beq_eq_false rfl) (ws_ne (Nat.ne_of_beq_eq_false rfl) (ws_ne (Nat.ne_of_beq_eq_false rfl) (ws_ne (Nat.ne_of_beq_eq_false rfl) (ws_ne (Nat.ne_of_beq_eq_false rfl) w_37))))) h_rs ws_eq h_32 (by omega) tl_byt (ws_ne (Nat.ne_of_beq_eq_false rfl) (ws_ne (Nat.ne_of_beq_eq_false rfl) (ws_ne (Nat.ne_of_beq_eq_false rfl) (ws_ne (Nat.ne_of_beq_eq_false rfl) (ws_ne (Nat.ne_of_beq_eq_false rfl) w_54))))) (ws_ne (Nat.ne_of_beq_eq_false rfl) (ws_ne (Nat.ne_of_beq_eq_false rfl) (ws_ne (Nat.ne_of_beq_eq_false rfl) (ws_ne (Nat.ne_of_beq_eq_false rfl) (ws_ne (Nat.ne_of_beq_eq_false rfl) w_55))))) (ws_ne (Nat.ne_of_beq_eq_false rfl) (ws_ne (Nat.ne_of_beq_eq_false rfl) (ws_ne (Nat.ne_of_beq_eq_false rfl) (ws_ne (Nat.ne_of_beq_eq_false rfl) (ws_ne (Nat.ne_of_beq_eq_false rfl) w_56))))) (ws_ne (Nat.ne_of_beq_eq_false rfl) (ws_ne (Nat.ne_of_beq_eq_false rfl) (ws_ne (Nat.ne_of_beq_eq_false rfl) (ws_ne (Nat.ne_of_beq_eq_false rfl) (ws_ne (Nat.ne_of_beq_eq_false rfl) w_57))))) (ws_ne (Nat.ne_of_beq_eq_false rfl) (ws_ne (Nat.ne_of_beq_eq_false rfl) (ws_ne (Nat.ne_of_beq_eq_false rfl) (ws_ne (Nat.ne_of_beq_eq_false rfl) (ws_ne (Nat.ne_of_beq_eq_false rfl) w_58))))) (by omega)) okX6_sealBlocks mlRX6_305 imX6_sealBlocks seX6_sealBlocks ⟨by decide, by decide⟩ rfl rfl (Nat.le_of_ble_eq_true rfl) (ws_ne (Nat.ne_of_beq_eq_false rfl) (ws_ne (Nat.ne_of_beq_eq_false rfl) (ws_ne (Nat.ne_of_beq_eq_false rfl) (ws_ne (Nat.ne_of_beq_eq_false rfl) ws_eq)))) rfl rfl (Nat.le_of_ble_eq_true rfl) (by decide) (by decide) (fun w9 h9 => ?_)
                obtain ⟨SW_33, BK_34, K_35, fr_36, B_37, fo_38, rfl, h_39⟩ := h9
                refine r_eq rfl rfl (congrArg (fun z => wset (wset (z) 55 (ia 16 (nf B_37))) 56 (ia 16 fo_38)) ((ws_comm (Nat.ne_of_beq_eq_false rfl)).trans (congrArg (fun z => wset z 37 (ia 16384 fr_36)) ((ws_comm (Nat.ne_of_beq_eq_false rfl)).trans (congrArg (fun z => wset z 54 (ia 176 (nf K_35))) ((ws_comm (Nat.ne_of_beq_eq_false rfl)).trans (congrArg (fun z => wset z 58 (ia 256 (nf BK_34))) ((ws_comm (Nat.ne_of_beq_eq_false rfl)).trans (congrArg (fun z => wset z 57 (ia 256 (nf SW_33))) ((ws_comm (Nat.ne_of_beq_eq_false rfl)).trans (congrArg (fun z => wset z 50 (ia 16 fh_31)) ((ws_comm (Nat.ne_of_beq_eq_false rfl)).trans (congrArg (fun z => wset z 45 (ia 16 fd_30)) ((ws_comm (Nat.ne_of_beq_eq_false rfl)).trans (congrArg (fun z => wset z 46 (ia 4 (q4f t_26 t_27 t_28 t_29))) ((ws_comm (Nat.ne_of_beq_eq_false rfl)).trans (congrArg (fun z => wset z 44 (ia 16512 fm_25)) ws_same))))))))))))))))) ?_
                have hul : (selB (kx (objKey ln kn nu ge (me = 2))) xs one two).length ≤ 16384 := by rw [selB_len]; omega
                refine r_goto C 112 dX6_seal_93 (by decide) ?_
                refine r_aload_n C dX6_seal_112 rfl ?_
                refine r_get C dX6_seal_113 fgRX6_194 (Nat.le_of_ble_eq_true rfl) (ws_ne (Nat.ne_of_beq_eq_false rfl) (ws_ne (Nat.ne_of_beq_eq_false rfl) (ws_ne (Nat.ne_of_beq_eq_false rfl) (ws_ne (Nat.ne_of_beq_eq_false rfl) (ws_ne (Nat.ne_of_beq_eq_false rfl) (ws_ne (Nat.ne_of_beq_eq_false rfl) (ws_ne (Nat.ne_of_beq_eq_false rfl) (ws_ne (Nat.ne_of_beq_eq_false rfl) (ws_ne (Nat.ne_of_beq_eq_false rfl) (ws_ne (Nat.ne_of_beq_eq_false rfl) ws_eq)))))))))) rfl ?_
                exact r_ireturn C T_ rfl rfl dX6_seal_116 (⟨_, rfl, Or.inr (Or.inr ⟨hs9, (fun z => by have := hk.1; rw [z] at this; have := hln.1; simp at *; omega), hfit, by rw [show seR me (objKey ln kn nu ge (me = 2)) xs one two = (nI (selB (kx (objKey ln kn nu ge (me = 2))) xs one two).length, selB (kx (objKey ln kn nu ge (me = 2))) xs one two) from if_pos c_82]; exact MW_mk (ws_ne (Nat.ne_of_beq_eq_false rfl) (ws_ne (Nat.ne_of_beq_eq_false rfl) (ws_ne (Nat.ne_of_beq_eq_false rfl) (ws_ne (Nat.ne_of_beq_eq_false rfl) (ws_ne (Nat.ne_of_beq_eq_false rfl) (ws_ne (Nat.ne_of_beq_eq_false rfl) (ws_ne (Nat.ne_of_beq_eq_false rfl) (ws_ne (Nat.ne_of_beq_eq_false rfl) (ws_ne (Nat.ne_of_beq_eq_false rfl) (ws_ne (Nat.ne_of_beq_eq_false rfl) ws_eq)))))))))) (ws_ne (Nat.ne_of_beq_eq_false rfl) (ws_ne (Nat.ne_of_beq_eq_false rfl) (ws_ne (Nat.ne_of_beq_eq_false rfl) (ws_ne (Nat.ne_of_beq_eq_false rfl) (ws_ne (Nat.ne_of_beq_eq_false rfl) (ws_ne (Nat.ne_of_beq_eq_false rfl) (ws_ne (Nat.ne_of_beq_eq_false rfl) (ws_ne (Nat.ne_of_beq_eq_false rfl) (ws_ne (Nat.ne_of_beq_eq_false rfl) (ws_ne (Nat.ne_of_beq_eq_false rfl) (ws_ne (Nat.ne_of_beq_eq_false rfl) w_36))))))))))) h_xs (by first | omega | (simp only [List.length_append, List.length_nil, List.length_cons, List.length_take, List.length_replicate, List.length_range, List.length_map, lof_len, pad_len, padd_len, md5_len, strm_len, strms_len, entOf_len, hif_len] <;> omega)) (ws_ne (Nat.ne_of_beq_eq_false rfl) (ws_ne (Nat.ne_of_beq_eq_false rfl) ws_eq)) h_39 (by first | omega | (simp only [List.length_append, List.length_nil, List.length_cons, List.length_take, List.length_replicate, List.length_range, List.length_map, lof_len, pad_len, padd_len, md5_len, strm_len, strms_len, entOf_len, hif_len] <;> omega)) (ws_ne (Nat.ne_of_beq_eq_false rfl) (ws_ne (Nat.ne_of_beq_eq_false rfl) (ws_ne (Nat.ne_of_beq_eq_false rfl) (ws_ne (Nat.ne_of_beq_eq_false rfl) (ws_ne (Nat.ne_of_beq_eq_false rfl) (ws_ne (Nat.ne_of_beq_eq_false rfl) (ws_ne (Nat.ne_of_beq_eq_false rfl) (ws_ne (Nat.ne_of_beq_eq_false rfl) (ws_ne (Nat.ne_of_beq_eq_false rfl) (ws_ne (Nat.ne_of_beq_eq_false rfl) (ws_ne (Nat.ne_of_beq_eq_false rfl) w_38))))))))))) h_ow (by first | omega | (simp only [List.length_append, List.length_nil, List.length_cons, List.length_take, List.length_replicate, List.length_range, List.length_map, lof_len, pad_len, padd_len, md5_len, strm_len, strms_len, entOf_len, hif_len] <;> omega)) (ws_ne (Nat.ne_of_beq_eq_false rfl) (ws_ne (Nat.ne_of_beq_eq_false rfl) (ws_ne (Nat.ne_of_beq_eq_false rfl) (ws_ne (Nat.ne_of_beq_eq_false rfl) (ws_ne (Nat.ne_of_beq_eq_false rfl) (ws_ne (Nat.ne_of_beq_eq_false rfl) (ws_ne (Nat.ne_of_beq_eq_false rfl) (ws_ne (Nat.ne_of_beq_eq_false rfl) (ws_ne (Nat.ne_of_beq_eq_false rfl) (ws_ne (Nat.ne_of_beq_eq_false rfl) (ws_ne (Nat.ne_of_beq_eq_false rfl) w_39))))))))))) h_us (by first | omega | (simp only [List.length_append, List.length_nil, List.length_cons, List.length_take, List.length_replicate, List.length_range, List.length_map, lof_len, pad_len, padd_len, md5_len, strm_len, strms_len, entOf_len, hif_len] <;> omega)) (ws_ne (Nat.ne_of_beq_eq_false rfl) (ws_ne (Nat.ne_of_beq_eq_false rfl) (ws_ne (Nat.ne_of_beq_eq_false rfl) (ws_ne (Nat.ne_of_beq_eq_false rfl) (ws_ne (Nat.ne_of_beq_eq_false rfl) (ws_ne (Nat.ne_of_beq_eq_false rfl) (ws_ne (Nat.ne_of_beq_eq_false rfl) (ws_ne (Nat.ne_of_beq_eq_false rfl) (ws_ne (Nat.ne_of_beq_eq_false rfl) (ws_ne (Nat.ne_of_beq_eq_false rfl) (ws_ne (Nat.ne_of_beq_eq_false rfl) w_40))))))))))) h_nb (by first | omega | (simp only [List.length_append, List.length_nil, List.length_cons, List.length_take, List.length_replicate, List.length_range, List.length_map, lof_len, pad_len, padd_len, md5_len, strm_len, strms_len, entOf_len, hif_len] <;> omega)) (ws_ne (Nat.ne_of_beq_eq_false rfl) (ws_ne (Nat.ne_of_beq_eq_false rfl) (ws_ne (Nat.ne_of_beq_eq_false rfl) (ws_ne (Nat.ne_of_beq_eq_false rfl) (ws_ne (Nat.ne_of_beq_eq_false rfl) (ws_ne (Nat.ne_of_beq_eq_false rfl) (ws_ne (Nat.ne_of_beq_eq_false rfl) (ws_ne (Nat.ne_of_beq_eq_false rfl) (ws_ne (Nat.ne_of_beq_eq_false rfl) (ws_ne (Nat.ne_of_beq_eq_false rfl) (ws_ne (Nat.ne_of_beq_eq_false rfl) w_41))))))))))) h_op (by first | omega | (simp only [List.length_append, List.length_nil, List.length_cons, List.length_take, List.length_replicate, List.length_range, List.length_map, lof_len, pad_len, padd_len, md5_len, strm_len, strms_len, entOf_len, hif_len] <;> omega)) (ws_ne (Nat.ne_of_beq_eq_false rfl) (ws_ne (Nat.ne_of_beq_eq_false rfl) (ws_ne (Nat.ne_of_beq_eq_false rfl) (ws_ne (Nat.ne_of_beq_eq_false rfl) (ws_ne (Nat.ne_of_beq_eq_false rfl) (ws_ne (Nat.ne_of_beq_eq_false rfl) (ws_ne (Nat.ne_of_beq_eq_false rfl) (ws_ne (Nat.ne_of_beq_eq_false rfl) (ws_ne (Nat.ne_of_beq_eq_false rfl) (ws_ne (Nat.ne_of_beq_eq_false rfl) (ws_ne (Nat.ne_of_beq_eq_false rfl) w_42))))))))))) h_up (by first | omega | (simp only [List.length_append, List.length_nil, List.length_cons, List.length_take, List.length_replicate, List.length_range, List.length_map, lof_len, pad_len, padd_len, md5_len, strm_len, strms_len, entOf_len, hif_len] <;> omega)) (ws_ne (Nat.ne_of_beq_eq_false rfl) (ws_ne (Nat.ne_of_beq_eq_false rfl) (ws_ne (Nat.ne_of_beq_eq_false rfl) (ws_ne (Nat.ne_of_beq_eq_false rfl) (ws_ne (Nat.ne_of_beq_eq_false rfl) (ws_ne (Nat.ne_of_beq_eq_false rfl) (ws_ne (Nat.ne_of_beq_eq_false rfl) (ws_ne (Nat.ne_of_beq_eq_false rfl) (ws_ne (Nat.ne_of_beq_eq_false rfl) (ws_ne (Nat.ne_of_beq_eq_false rfl) (ws_ne (Nat.ne_of_beq_eq_false rfl) w_43))))))))))) h_kn (by first | omega | (simp only [List.length_append, List.length_nil, List.length_cons, List.length_take, List.length_replicate, List.length_range, List.length_map, lof_len, pad_len, padd_len, md5_len, strm_len, strms_len, entOf_len, hif_len] <;> omega)) (ws_ne (Nat.ne_of_beq_eq_false rfl) (ws_ne (Nat.ne_of_beq_eq_false rfl) (ws_ne (Nat.ne_of_beq_eq_false rfl) (ws_ne (Nat.ne_of_beq_eq_false rfl) (ws_ne (Nat.ne_of_beq_eq_false rfl) (ws_ne (Nat.ne_of_beq_eq_false rfl) ws_eq)))))) h_32 (by first | omega | (simp only [List.length_append, List.length_nil, List.length_cons, List.length_take, List.length_replicate, List.length_range, List.length_map, lof_len, pad_len, padd_len, md5_len, strm_len, strms_len, entOf_len, hif_len] <;> omega)) (ws_ne (Nat.ne_of_beq_eq_false rfl) (ws_ne (Nat.ne_of_beq_eq_false rfl) (ws_ne (Nat.ne_of_beq_eq_false rfl) (ws_ne (Nat.ne_of_beq_eq_false rfl) (ws_ne (Nat.ne_of_beq_eq_false rfl) (ws_ne (Nat.ne_of_beq_eq_false rfl) (ws_ne (Nat.ne_of_beq_eq_false rfl) (ws_ne (Nat.ne_of_beq_eq_false rfl) (ws_ne (Nat.ne_of_beq_eq_false rfl) ws_eq))))))))) (ws_ne (Nat.ne_of_beq_eq_false rfl) (ws_ne (Nat.ne_of_beq_eq_false rfl) (ws_ne (Nat.ne_of_beq_eq_false rfl) (ws_ne (Nat.ne_of_beq_eq_false rfl) (ws_ne (Nat.ne_of_beq_eq_false rfl) (ws_ne (Nat.ne_of_beq_eq_false rfl) (ws_ne (Nat.ne_of_beq_eq_false rfl) ws_eq))))))) (ws_ne (Nat.ne_of_beq_eq_false rfl) (ws_ne (Nat.ne_of_beq_eq_false rfl) (ws_ne (Nat.ne_of_beq_eq_false rfl) (ws_ne (Nat.ne_of_beq_eq_false rfl) (ws_ne (Nat.ne_of_beq_eq_false rfl) (ws_ne (Nat.ne_of_beq_eq_false rfl) (ws_ne (Nat.ne_of_beq_eq_false rfl) (ws_ne (Nat.ne_of_beq_eq_false rfl) ws_eq)))))))) (ws_ne (Nat.ne_of_beq_eq_false rfl) (ws_ne (Nat.ne_of_beq_eq_false rfl) (ws_ne (Nat.ne_of_beq_eq_false rfl) (ws_ne (Nat.ne_of_beq_eq_false rfl) (ws_ne (Nat.ne_of_beq_eq_false rfl) (ws_ne (Nat.ne_of_beq_eq_false rfl) (ws_ne (Nat.ne_of_beq_eq_false rfl) (ws_ne (Nat.ne_of_beq_eq_false rfl) (ws_ne (Nat.ne_of_beq_eq_false rfl) (ws_ne (Nat.ne_of_beq_eq_false rfl) (ws_ne (Nat.ne_of_beq_eq_false rfl) w_47))))))))))) hsn (ws_ne (Nat.ne_of_beq_eq_false rfl) (ws_ne (Nat.ne_of_beq_eq_false rfl) (ws_ne (Nat.ne_of_beq_eq_false rfl) (ws_ne (Nat.ne_of_beq_eq_false rfl) (ws_ne (Nat.ne_of_beq_eq_false rfl) (ws_ne (Nat.ne_of_beq_eq_false rfl) (ws_ne (Nat.ne_of_beq_eq_false rfl) (ws_ne (Nat.ne_of_beq_eq_false rfl) (ws_ne (Nat.ne_of_beq_eq_false rfl) (ws_ne (Nat.ne_of_beq_eq_false rfl) (ws_ne (Nat.ne_of_beq_eq_false rfl) w_48))))))))))) htn (ws_ne (Nat.ne_of_beq_eq_false rfl) (ws_ne (Nat.ne_of_beq_eq_false rfl) (ws_ne (Nat.ne_of_beq_eq_false rfl) (ws_ne (Nat.ne_of_beq_eq_false rfl) (ws_ne (Nat.ne_of_beq_eq_false rfl) (ws_ne (Nat.ne_of_beq_eq_false rfl) (ws_ne (Nat.ne_of_beq_eq_false rfl) (ws_ne (Nat.ne_of_beq_eq_false rfl) (ws_ne (Nat.ne_of_beq_eq_false rfl) (ws_ne (Nat.ne_of_beq_eq_false rfl) (ws_ne (Nat.ne_of_beq_eq_false rfl) w_49))))))))))) hpd (ws_ne (Nat.ne_of_beq_eq_false rfl) (ws_ne (Nat.ne_of_beq_eq_false rfl) (ws_ne (Nat.ne_of_beq_eq_false rfl) (ws_ne (Nat.ne_of_beq_eq_false rfl) (ws_ne (Nat.ne_of_beq_eq_false rfl) (ws_ne (Nat.ne_of_beq_eq_false rfl) (ws_ne (Nat.ne_of_beq_eq_false rfl) (ws_ne (Nat.ne_of_beq_eq_false rfl) (ws_ne (Nat.ne_of_beq_eq_false rfl) (ws_ne (Nat.ne_of_beq_eq_false rfl) (ws_ne (Nat.ne_of_beq_eq_false rfl) w_51))))))))))) (ws_ne (Nat.ne_of_beq_eq_false rfl) (ws_ne (Nat.ne_of_beq_eq_false rfl) (ws_ne (Nat.ne_of_beq_eq_false rfl) (ws_ne (Nat.ne_of_beq_eq_false rfl) (ws_ne (Nat.ne_of_beq_eq_false rfl) (ws_ne (Nat.ne_of_beq_eq_false rfl) (ws_ne (Nat.ne_of_beq_eq_false rfl) (ws_ne (Nat.ne_of_beq_eq_false rfl) (ws_ne (Nat.ne_of_beq_eq_false rfl) (ws_ne (Nat.ne_of_beq_eq_false rfl) (ws_ne (Nat.ne_of_beq_eq_false rfl) w_52))))))))))) (ws_ne (Nat.ne_of_beq_eq_false rfl) (ws_ne (Nat.ne_of_beq_eq_false rfl) (ws_ne (Nat.ne_of_beq_eq_false rfl) (ws_ne (Nat.ne_of_beq_eq_false rfl) (ws_ne (Nat.ne_of_beq_eq_false rfl) (ws_ne (Nat.ne_of_beq_eq_false rfl) (ws_ne (Nat.ne_of_beq_eq_false rfl) (ws_ne (Nat.ne_of_beq_eq_false rfl) (ws_ne (Nat.ne_of_beq_eq_false rfl) (ws_ne (Nat.ne_of_beq_eq_false rfl) (ws_ne (Nat.ne_of_beq_eq_false rfl) w_53))))))))))) (ws_ne (Nat.ne_of_beq_eq_false rfl) (ws_ne (Nat.ne_of_beq_eq_false rfl) (ws_ne (Nat.ne_of_beq_eq_false rfl) ws_eq))) (ws_ne (Nat.ne_of_beq_eq_false rfl) ws_eq) ws_eq (ws_ne (Nat.ne_of_beq_eq_false rfl) (ws_ne (Nat.ne_of_beq_eq_false rfl) (ws_ne (Nat.ne_of_beq_eq_false rfl) (ws_ne (Nat.ne_of_beq_eq_false rfl) (ws_ne (Nat.ne_of_beq_eq_false rfl) ws_eq))))) (ws_ne (Nat.ne_of_beq_eq_false rfl) (ws_ne (Nat.ne_of_beq_eq_false rfl) (ws_ne (Nat.ne_of_beq_eq_false rfl) (ws_ne (Nat.ne_of_beq_eq_false rfl) ws_eq)))) hik, by rw [show seR me (objKey ln kn nu ge (me = 2)) xs one two = (nI (selB (kx (objKey ln kn nu ge (me = 2))) xs one two).length, selB (kx (objKey ln kn nu ge (me = 2))) xs one two) from if_pos c_82]⟩), (frm_set (Nat.le_of_ble_eq_true rfl) (Nat.le_of_ble_eq_true rfl) (frm_set (Nat.le_of_ble_eq_true rfl) (Nat.le_of_ble_eq_true rfl) (frm_set (Nat.le_of_ble_eq_true rfl) (Nat.le_of_ble_eq_true rfl) (frm_set (Nat.le_of_ble_eq_true rfl) (Nat.le_of_ble_eq_true rfl) (frm_set (Nat.le_of_ble_eq_true rfl) (Nat.le_of_ble_eq_true rfl) (frm_set (Nat.le_of_ble_eq_true rfl) (Nat.le_of_ble_eq_true rfl) (frm_set (Nat.le_of_ble_eq_true rfl) (Nat.le_of_ble_eq_true rfl) (frm_set (Nat.le_of_ble_eq_true rfl) (Nat.le_of_ble_eq_true rfl) (frm_set (Nat.le_of_ble_eq_true rfl) (Nat.le_of_ble_eq_true rfl) (frm_set (Nat.le_of_ble_eq_true rfl) (Nat.le_of_ble_eq_true rfl) (frm_set (Nat.le_of_ble_eq_true rfl) (Nat.le_of_ble_eq_true rfl) (frm_rf _))))))))))))⟩)
            · skip
              exact absurd c_68 (by decide)
          · skip
            exact absurd c_57 (by decide)
      · skip
        have hs9 := (er_.resolve_left (fun z => absurd (z.2.symm.trans c_41) (by decide))).1
        refine r_iconst C dX6_seal_44 (v := 1) (by decide) ?_
        refine r_goto C 65 dX6_seal_45 (by decide) ?_
        refine r_callVi C (As := [.int 1]) (rest := []) dX6_seal_65 (cX6_refused9 w_35 (p1 := 1)) okX6_refused mlRX6_159 imX6_refused seX6_refused ⟨by decide, by decide⟩ rfl rfl (Nat.le_of_ble_eq_true rfl) w_35 rfl rfl (Nat.le_of_ble_eq_true rfl) (by decide) (by decide) (fun r_40 w9 h9 => ?_)
        obtain ⟨rfl, er_⟩ := h9
        have er_ : r_40 = 1 := er_.trans (if_neg (by decide))
        subst er_
        refine r_if_eq C 73 dX6_seal_68 (by decide) (fun c_68 => ?_) (fun c_68 => ?_)
        · skip
          exact absurd c_68 (by decide)
        · skip
          refine r_iconst C dX6_seal_71 (v := 0) (by decide) ?_
          exact r_ireturn C T_ rfl rfl dX6_seal_72 (⟨_, rfl, Or.inl ⟨hs9, MW_mk ws_eq (ws_ne (Nat.ne_of_beq_eq_false rfl) w_36) h_xs (by first | omega | (simp only [List.length_append, List.length_nil, List.length_cons, List.length_take, List.length_replicate, List.length_range, List.length_map, lof_len, pad_len, padd_len, md5_len, strm_len, strms_len, entOf_len, hif_len] <;> omega)) (ws_ne (Nat.ne_of_beq_eq_false rfl) w_37) h_rs (by first | omega | (simp only [List.length_append, List.length_nil, List.length_cons, List.length_take, List.length_replicate, List.length_range, List.length_map, lof_len, pad_len, padd_len, md5_len, strm_len, strms_len, entOf_len, hif_len] <;> omega)) (ws_ne (Nat.ne_of_beq_eq_false rfl) w_38) h_ow (by first | omega | (simp only [List.length_append, List.length_nil, List.length_cons, List.length_take, List.length_replicate, List.length_range, List.length_map, lof_len, pad_len, padd_len, md5_len, strm_len, strms_len, entOf_len, hif_len] <;> omega)) (ws_ne (Nat.ne_of_beq_eq_false rfl) w_39) h_us (by first | omega | (simp only [List.length_append, List.length_nil, List.length_cons, List.length_take, List.length_replicate, List.length_range, List.length_map, lof_len, pad_len, padd_len, md5_len, strm_len, strms_len, entOf_len, hif_len] <;> omega)) (ws_ne (Nat.ne_of_beq_eq_false rfl) w_40) h_nb (by first | omega | (simp only [List.length_append, List.length_nil, List.length_cons, List.length_take, List.length_replicate, List.length_range, List.length_map, lof_len, pad_len, padd_len, md5_len, strm_len, strms_len, entOf_len, hif_len] <;> omega)) (ws_ne (Nat.ne_of_beq_eq_false rfl) w_41) h_op (by first | omega | (simp only [List.length_append, List.length_nil, List.length_cons, List.length_take, List.length_replicate, List.length_range, List.length_map, lof_len, pad_len, padd_len, md5_len, strm_len, strms_len, entOf_len, hif_len] <;> omega)) (ws_ne (Nat.ne_of_beq_eq_false rfl) w_42) h_up (by first | omega | (simp only [List.length_append, List.length_nil, List.length_cons, List.length_take, List.length_replicate, List.length_range, List.length_map, lof_len, pad_len, padd_len, md5_len, strm_len, strms_len, entOf_len, hif_len] <;> omega)) (ws_ne (Nat.ne_of_beq_eq_false rfl) w_43) h_kn (by first | omega | (simp only [List.length_append, List.length_nil, List.length_cons, List.length_take, List.length_replicate, List.length_range, List.length_map, lof_len, pad_len, padd_len, md5_len, strm_len, strms_len, entOf_len, hif_len] <;> omega)) (ws_ne (Nat.ne_of_beq_eq_false rfl) w_50) h_hl (by first | omega | (simp only [List.length_append, List.length_nil, List.length_cons, List.length_take, List.length_replicate, List.length_range, List.length_map, lof_len, pad_len, padd_len, md5_len, strm_len, strms_len, entOf_len, hif_len] <;> omega)) (ws_ne (Nat.ne_of_beq_eq_false rfl) w_44) (ws_ne (Nat.ne_of_beq_eq_false rfl) w_45) (ws_ne (Nat.ne_of_beq_eq_false rfl) w_46) (ws_ne (Nat.ne_of_beq_eq_false rfl) w_47) hsn (ws_ne (Nat.ne_of_beq_eq_false rfl) w_48) htn (ws_ne (Nat.ne_of_beq_eq_false rfl) w_49) hpd (ws_ne (Nat.ne_of_beq_eq_false rfl) w_51) (ws_ne (Nat.ne_of_beq_eq_false rfl) w_52) (ws_ne (Nat.ne_of_beq_eq_false rfl) w_53) (ws_ne (Nat.ne_of_beq_eq_false rfl) w_54) (ws_ne (Nat.ne_of_beq_eq_false rfl) w_55) (ws_ne (Nat.ne_of_beq_eq_false rfl) w_56) (ws_ne (Nat.ne_of_beq_eq_false rfl) w_57) (ws_ne (Nat.ne_of_beq_eq_false rfl) w_58) hik, rfl⟩, (frm_set (Nat.le_of_ble_eq_true rfl) (Nat.le_of_ble_eq_true rfl) (frm_rf _))⟩)
theorem tkS_0 {xs rs : List Nat} {rv : Int32} {ln : Nat} {pm lo : Int32} {ow us nb op up kn : List Nat} : tkS 0 (xs, rs, rv, ln, pm, lo, ow, us, nb, op, up, kn) = (xs, rs, rv, ln, pm, lo, xs, us, nb, op, up, []) := by
  show (if (0 : Int32) = 0 then (xs, rs, rv, ln, pm, lo, xs, us, nb, op, up, []) else if (0 : Int32) = 1 then (xs, rs, rv, ln, pm, lo, ow, xs, nb, op, up, []) else if (0 : Int32) = 2 then (xs, rs, rv, ln, pm, lo, ow, us, xs, op, up, []) else if (0 : Int32) = 3 then (xs, rs, rv, ln, pm, lo, ow, us, nb, xs, up, kn) else (xs, rs, rv, ln, pm, lo, ow, us, nb, op, xs, kn)) = _
  rw [if_pos rfl]
theorem tkS_1 {xs rs : List Nat} {rv : Int32} {ln : Nat} {pm lo : Int32} {ow us nb op up kn : List Nat} : tkS 1 (xs, rs, rv, ln, pm, lo, ow, us, nb, op, up, kn) = (xs, rs, rv, ln, pm, lo, ow, xs, nb, op, up, []) := by
  show (if (1 : Int32) = 0 then (xs, rs, rv, ln, pm, lo, xs, us, nb, op, up, []) else if (1 : Int32) = 1 then (xs, rs, rv, ln, pm, lo, ow, xs, nb, op, up, []) else if (1 : Int32) = 2 then (xs, rs, rv, ln, pm, lo, ow, us, xs, op, up, []) else if (1 : Int32) = 3 then (xs, rs, rv, ln, pm, lo, ow, us, nb, xs, up, kn) else (xs, rs, rv, ln, pm, lo, ow, us, nb, op, xs, kn)) = _
  rw [if_neg (by decide), if_pos rfl]
theorem tkS_2 {xs rs : List Nat} {rv : Int32} {ln : Nat} {pm lo : Int32} {ow us nb op up kn : List Nat} : tkS 2 (xs, rs, rv, ln, pm, lo, ow, us, nb, op, up, kn) = (xs, rs, rv, ln, pm, lo, ow, us, xs, op, up, []) := by
  show (if (2 : Int32) = 0 then (xs, rs, rv, ln, pm, lo, xs, us, nb, op, up, []) else if (2 : Int32) = 1 then (xs, rs, rv, ln, pm, lo, ow, xs, nb, op, up, []) else if (2 : Int32) = 2 then (xs, rs, rv, ln, pm, lo, ow, us, xs, op, up, []) else if (2 : Int32) = 3 then (xs, rs, rv, ln, pm, lo, ow, us, nb, xs, up, kn) else (xs, rs, rv, ln, pm, lo, ow, us, nb, op, xs, kn)) = _
  rw [if_neg (by decide), if_neg (by decide), if_pos rfl]
theorem tkS_3 {xs rs : List Nat} {rv : Int32} {ln : Nat} {pm lo : Int32} {ow us nb op up kn : List Nat} : tkS 3 (xs, rs, rv, ln, pm, lo, ow, us, nb, op, up, kn) = (xs, rs, rv, ln, pm, lo, ow, us, nb, xs, up, kn) := by
  show (if (3 : Int32) = 0 then (xs, rs, rv, ln, pm, lo, xs, us, nb, op, up, []) else if (3 : Int32) = 1 then (xs, rs, rv, ln, pm, lo, ow, xs, nb, op, up, []) else if (3 : Int32) = 2 then (xs, rs, rv, ln, pm, lo, ow, us, xs, op, up, []) else if (3 : Int32) = 3 then (xs, rs, rv, ln, pm, lo, ow, us, nb, xs, up, kn) else (xs, rs, rv, ln, pm, lo, ow, us, nb, op, xs, kn)) = _
  rw [if_neg (by decide), if_neg (by decide), if_neg (by decide), if_pos rfl]
theorem tkS_4 {xs rs : List Nat} {rv : Int32} {ln : Nat} {pm lo : Int32} {ow us nb op up kn : List Nat} : tkS 4 (xs, rs, rv, ln, pm, lo, ow, us, nb, op, up, kn) = (xs, rs, rv, ln, pm, lo, ow, us, nb, op, xs, kn) := by
  show (if (4 : Int32) = 0 then (xs, rs, rv, ln, pm, lo, xs, us, nb, op, up, []) else if (4 : Int32) = 1 then (xs, rs, rv, ln, pm, lo, ow, xs, nb, op, up, []) else if (4 : Int32) = 2 then (xs, rs, rv, ln, pm, lo, ow, us, xs, op, up, []) else if (4 : Int32) = 3 then (xs, rs, rv, ln, pm, lo, ow, us, nb, xs, up, kn) else (xs, rs, rv, ln, pm, lo, ow, us, nb, op, xs, kn)) = _
  rw [if_neg (by decide), if_neg (by decide), if_neg (by decide), if_neg (by decide)]
set_option maxHeartbeats 4000000 in
set_option maxRecDepth 100000 in
theorem mX6_take9_0 {w : Wo} {fa : Int32} {xs rs : List Nat} {rv : Int32} {ln : Nat} {pm lo : Int32} {ow us nb op up kn : List Nat} (mw : MW fa (xs, rs, rv, ln, pm, lo, ow, us, nb, op, up, kn) w) (ps : PSok (xs, rs, rv, ln, pm, lo, ow, us, nb, op, up, kn)) : Ctr mX6_take [.ref 35, .int 0] w (PI fun r w' => ((¬ tkIn 0 ∧ MW 1 (xs, rs, rv, ln, pm, lo, ow, us, nb, op, up, kn) w' ∧ r = 0) ∨ (tkIn 0 ∧ ¬ tkOk 0 xs ∧ MW 2 (xs, rs, rv, ln, pm, lo, ow, us, nb, op, up, kn) w' ∧ r = 0) ∨ (tkIn 0 ∧ tkOk 0 xs ∧ MW 0 (tkS 0 (xs, rs, rv, ln, pm, lo, ow, us, nb, op, up, kn)) w' ∧ r = nI xs.length)) ∧ frm w w') := by
  refine Ctr_intro okX6_take rfl (Nat.le_of_ble_eq_true rfl) (L := [some (.ref 35), some (.int 0), none, none, none]) rfl (fun g ct C T_ => ?_)
  refine MW_open mw (fun fx fr9 fo fus fn fop fup fk fh hl fm fd vA vB vC vD fsn ftn fpd ft fe fp fot K B SW BK ik w_35 w_36 h_xs k_xs w_37 h_rs k_rs w_38 h_ow k_ow w_39 h_us k_us w_40 h_nb k_nb w_41 h_op k_op w_42 h_up k_up w_43 h_kn k_kn w_50 h_hl k_hl w_44 w_45 w_46 w_47 hsn w_48 htn w_49 hpd w_51 w_52 w_53 w_54 w_55 w_56 w_57 w_58 hik => ?_)
  obtain ⟨bx, br, bo, bu, bn, bp, bq, bk9, lo9, lu9, hkn, hrv, hln, hlo⟩ := ps
  refine r_iload_n C dX6_take_0 rfl ?_
  refine r_if_lt C 13 dX6_take_1 (by decide) (fun c_1 => ?_) (fun c_1 => ?_)
  · skip
    exact absurd c_1 (by decide)
  · skip
    refine r_iload_n C dX6_take_4 rfl ?_
    refine r_iconst C dX6_take_5 (v := 4) (by decide) ?_
    refine r_icmp_gt C 13 dX6_take_6 (by decide) (fun c_6 => ?_) (fun c_6 => ?_)
    · skip
      exact absurd c_6 (by decide)
    · skip
      refine r_iconst C dX6_take_9 (v := 1) (by decide) ?_
      refine r_goto C 14 dX6_take_10 (by decide) ?_
      refine r_istore_n C dX6_take_14 (L' := [some (.ref 35), some (.int 0), some (.int 1), none, none]) (by decide) rfl ?_
      refine r_iload_n C dX6_take_15 rfl ?_
      refine r_iconst C dX6_take_16 (v := 2) (by decide) ?_
      refine r_icmp_ge C 37 dX6_take_17 (by decide) (fun c_17 => ?_) (fun c_17 => ?_)
      · skip
        exact absurd c_17 (by decide)
      · skip
        refine r_aload_n C dX6_take_20 rfl ?_
        refine r_get C dX6_take_21 fgRX6_156 (Nat.le_of_ble_eq_true rfl) w_35 rfl ?_
        refine r_bipush C dX6_take_24 (v := 32) (by decide) ?_
        refine r_icmp_ne C 33 dX6_take_26 (by decide) (fun c_26 => ?_) (fun c_26 => ?_)
        · skip
          have c_26 : ¬ (xs.length = 32) := fun h9 => c_26 ((nI_eq (a := xs.length) (b := 32) (by omega) (by omega)).mpr h9)
          refine r_iconst C dX6_take_33 (v := 0) (by decide) ?_
          refine r_goto C 51 dX6_take_34 (by decide) ?_
          refine r_istore_n C dX6_take_51 (L' := [some (.ref 35), some (.int 0), some (.int 1), some (.int 0), none]) (by decide) rfl ?_
          refine r_aload_n C dX6_take_52 rfl ?_
          refine r_iload_n C dX6_take_53 rfl ?_
          refine r_if_ne C 61 dX6_take_54 (by decide) (fun c_54 => ?_) (fun c_54 => ?_)
          · skip
            refine r_iload_n C dX6_take_61 rfl ?_
            refine r_if_ne C 69 dX6_take_62 (by decide) (fun c_62 => ?_) (fun c_62 => ?_)
            · skip
              exact absurd c_62 (by decide)
            · skip
              refine r_iconst C dX6_take_65 (v := 2) (by decide) ?_
              refine r_goto C 70 dX6_take_66 (by decide) ?_
              refine r_callVi C (As := [.int 2]) (rest := []) dX6_take_70 (cX6_refused9 w_35 (p1 := 2)) okX6_refused mlRX6_159 imX6_refused seX6_refused ⟨by decide, by decide⟩ rfl rfl (Nat.le_of_ble_eq_true rfl) w_35 rfl rfl (Nat.le_of_ble_eq_true rfl) (by decide) (by decide) (fun r_1 w9 h9 => ?_)
              obtain ⟨rfl, er_⟩ := h9
              have er_ : r_1 = 1 := er_.trans (if_neg (by decide))
              subst er_
              refine r_if_eq C 78 dX6_take_73 (by decide) (fun c_73 => ?_) (fun c_73 => ?_)
              · skip
                exact absurd c_73 (by decide)
              · skip
                refine r_iconst C dX6_take_76 (v := 0) (by decide) ?_
                exact r_ireturn C T_ rfl rfl dX6_take_77 (⟨_, rfl, Or.inr (Or.inl ⟨⟨by decide, by decide⟩, fun z => absurd (show xs.length = 32 from by unfold tkOk at z; rw [if_pos (by decide)] at z; exact z) (by omega), MW_mk ws_eq (ws_ne (Nat.ne_of_beq_eq_false rfl) w_36) h_xs (by first | omega | (simp only [List.length_append, List.length_nil, List.length_cons, List.length_take, List.length_replicate, List.length_range, List.length_map, lof_len, pad_len, padd_len, md5_len, strm_len, strms_len, entOf_len, hif_len] <;> omega)) (ws_ne (Nat.ne_of_beq_eq_false rfl) w_37) h_rs (by first | omega | (simp only [List.length_append, List.length_nil, List.length_cons, List.length_take, List.length_replicate, List.length_range, List.length_map, lof_len, pad_len, padd_len, md5_len, strm_len, strms_len, entOf_len, hif_len] <;> omega)) (ws_ne (Nat.ne_of_beq_eq_false rfl) w_38) h_ow (by first | omega | (simp only [List.length_append, List.length_nil, List.length_cons, List.length_take, List.length_replicate, List.length_range, List.length_map, lof_len, pad_len, padd_len, md5_len, strm_len, strms_len, entOf_len, hif_len] <;> omega)) (ws_ne (Nat.ne_of_beq_eq_false rfl) w_39) h_us (by first | omega | (simp only [List.length_append, List.length_nil, List.length_cons, List.length_take, List.length_replicate, List.length_range, List.length_map, lof_len, pad_len, padd_len, md5_len, strm_len, strms_len, entOf_len, hif_len] <;> omega)) (ws_ne (Nat.ne_of_beq_eq_false rfl) w_40) h_nb (by first | omega | (simp only [List.length_append, List.length_nil, List.length_cons, List.length_take, List.length_replicate, List.length_range, List.length_map, lof_len, pad_len, padd_len, md5_len, strm_len, strms_len, entOf_len, hif_len] <;> omega)) (ws_ne (Nat.ne_of_beq_eq_false rfl) w_41) h_op (by first | omega | (simp only [List.length_append, List.length_nil, List.length_cons, List.length_take, List.length_replicate, List.length_range, List.length_map, lof_len, pad_len, padd_len, md5_len, strm_len, strms_len, entOf_len, hif_len] <;> omega)) (ws_ne (Nat.ne_of_beq_eq_false rfl) w_42) h_up (by first | omega | (simp only [List.length_append, List.length_nil, List.length_cons, List.length_take, List.length_replicate, List.length_range, List.length_map, lof_len, pad_len, padd_len, md5_len, strm_len, strms_len, entOf_len, hif_len] <;> omega)) (ws_ne (Nat.ne_of_beq_eq_false rfl) w_43) h_kn (by first | omega | (simp only [List.length_append, List.length_nil, List.length_cons, List.length_take, List.length_replicate, List.length_range, List.length_map, lof_len, pad_len, padd_len, md5_len, strm_len, strms_len, entOf_len, hif_len] <;> omega)) (ws_ne (Nat.ne_of_beq_eq_false rfl) w_50) h_hl (by first | omega | (simp only [List.length_append, List.length_nil, List.length_cons, List.length_take, List.length_replicate, List.length_range, List.length_map, lof_len, pad_len, padd_len, md5_len, strm_len, strms_len, entOf_len, hif_len] <;> omega)) (ws_ne (Nat.ne_of_beq_eq_false rfl) w_44) (ws_ne (Nat.ne_of_beq_eq_false rfl) w_45) (ws_ne (Nat.ne_of_beq_eq_false rfl) w_46) (ws_ne (Nat.ne_of_beq_eq_false rfl) w_47) hsn (ws_ne (Nat.ne_of_beq_eq_false rfl) w_48) htn (ws_ne (Nat.ne_of_beq_eq_false rfl) w_49) hpd (ws_ne (Nat.ne_of_beq_eq_false rfl) w_51) (ws_ne (Nat.ne_of_beq_eq_false rfl) w_52) (ws_ne (Nat.ne_of_beq_eq_false rfl) w_53) (ws_ne (Nat.ne_of_beq_eq_false rfl) w_54) (ws_ne (Nat.ne_of_beq_eq_false rfl) w_55) (ws_ne (Nat.ne_of_beq_eq_false rfl) w_56) (ws_ne (Nat.ne_of_beq_eq_false rfl) w_57) (ws_ne (Nat.ne_of_beq_eq_false rfl) w_58) hik, rfl⟩), (frm_set (Nat.le_of_ble_eq_true rfl) (Nat.le_of_ble_eq_true rfl) (frm_rf _))⟩)
          · skip
            exact absurd c_54 (by decide)
        · skip
          have c_26 : xs.length = 32 := (nI_eq (a := xs.length) (b := 32) (by omega) (by omega)).mp c_26
          refine r_iconst C dX6_take_29 (v := 1) (by decide) ?_
          refine r_goto C 51 dX6_take_30 (by decide) ?_
          refine r_istore_n C dX6_take_51 (L' := [some (.ref 35), some (.int 0), some (.int 1), some (.int 1), none]) (by decide) rfl ?_
          refine r_aload_n C dX6_take_52 rfl ?_
          refine r_iload_n C dX6_take_53 rfl ?_
          refine r_if_ne C 61 dX6_take_54 (by decide) (fun c_54 => ?_) (fun c_54 => ?_)
          · skip
            refine r_iload_n C dX6_take_61 rfl ?_
            refine r_if_ne C 69 dX6_take_62 (by decide) (fun c_62 => ?_) (fun c_62 => ?_)
            · skip
              refine r_iconst C dX6_take_69 (v := 0) (by decide) ?_
              refine r_callVi C (As := [.int 0]) (rest := []) dX6_take_70 (cX6_refused9 w_35 (p1 := 0)) okX6_refused mlRX6_159 imX6_refused seX6_refused ⟨by decide, by decide⟩ rfl rfl (Nat.le_of_ble_eq_true rfl) w_35 rfl rfl (Nat.le_of_ble_eq_true rfl) (by decide) (by decide) (fun r_2 w9 h9 => ?_)
              obtain ⟨rfl, er_⟩ := h9
              have er_ : r_2 = 0 := er_.trans (if_pos (by decide))
              subst er_
              refine r_if_eq C 78 dX6_take_73 (by decide) (fun c_73 => ?_) (fun c_73 => ?_)
              · skip
                refine r_aload_n C dX6_take_78 rfl ?_
                refine r_iload_n C dX6_take_79 rfl ?_
                refine r_iconst C dX6_take_80 (v := 2) (by decide) ?_
                refine r_icmp_ne C 91 dX6_take_81 (by decide) (fun c_81 => ?_) (fun c_81 => ?_)
                · skip
                  refine r_aload_n C dX6_take_91 rfl ?_
                  refine r_get C dX6_take_92 fgRX6_203 (Nat.le_of_ble_eq_true rfl) ws_eq rfl ?_
                  refine r_put C dX6_take_95 fpRX6_203 (Nat.le_of_ble_eq_true rfl) ws_eq rfl rfl (Nat.le_of_ble_eq_true rfl) (fs' := [.int 0, .int (nI xs.length), .ref 36, .int (nI rs.length), .ref 37, .int rv, .int (nI ln), .int pm, .int lo, .ref 38, .ref 39, .int (nI nb.length), .ref 40, .int (nI op.length), .ref 41, .int (nI up.length), .ref 42, .int ik, .ref 43, .int (nI (([] : List Nat).length)), .ref 44, .ref 45, .ref 46, .ref 47, .ref 48, .ref 49, .int (nI hl.length), .ref 50, .ref 51, .ref 52, .ref 53, .ref 54, .ref 55, .ref 56, .ref 57, .ref 58]) rfl ?_
                  refine r_eq rfl rfl ws_same ?_
                  refine r_aload_n C dX6_take_98 rfl ?_
                  refine r_iload_n C dX6_take_99 rfl ?_
                  refine r_iconst C dX6_take_100 (v := 3) (by decide) ?_
                  refine r_icmp_ne C 111 dX6_take_101 (by decide) (fun c_101 => ?_) (fun c_101 => ?_)
                  · skip
                    refine r_aload_n C dX6_take_111 rfl ?_
                    refine r_get C dX6_take_112 fgRX6_197 (Nat.le_of_ble_eq_true rfl) ws_eq rfl ?_
                    refine r_put C dX6_take_115 fpRX6_197 (Nat.le_of_ble_eq_true rfl) ws_eq rfl rfl (Nat.le_of_ble_eq_true rfl) (fs' := [.int 0, .int (nI xs.length), .ref 36, .int (nI rs.length), .ref 37, .int rv, .int (nI ln), .int pm, .int lo, .ref 38, .ref 39, .int (nI nb.length), .ref 40, .int (nI op.length), .ref 41, .int (nI up.length), .ref 42, .int ik, .ref 43, .int (nI (([] : List Nat).length)), .ref 44, .ref 45, .ref 46, .ref 47, .ref 48, .ref 49, .int (nI hl.length), .ref 50, .ref 51, .ref 52, .ref 53, .ref 54, .ref 55, .ref 56, .ref 57, .ref 58]) rfl ?_
                    refine r_eq rfl rfl ws_same ?_
                    refine r_aload_n C dX6_take_118 rfl ?_
                    refine r_iload_n C dX6_take_119 rfl ?_
                    refine r_iconst C dX6_take_120 (v := 4) (by decide) ?_
                    refine r_icmp_ne C 131 dX6_take_121 (by decide) (fun c_121 => ?_) (fun c_121 => ?_)
                    · skip
                      refine r_aload_n C dX6_take_131 rfl ?_
                      refine r_get C dX6_take_132 fgRX6_200 (Nat.le_of_ble_eq_true rfl) ws_eq rfl ?_
                      refine r_put C dX6_take_135 fpRX6_200 (Nat.le_of_ble_eq_true rfl) ws_eq rfl rfl (Nat.le_of_ble_eq_true rfl) (fs' := [.int 0, .int (nI xs.length), .ref 36, .int (nI rs.length), .ref 37, .int rv, .int (nI ln), .int pm, .int lo, .ref 38, .ref 39, .int (nI nb.length), .ref 40, .int (nI op.length), .ref 41, .int (nI up.length), .ref 42, .int ik, .ref 43, .int (nI (([] : List Nat).length)), .ref 44, .ref 45, .ref 46, .ref 47, .ref 48, .ref 49, .int (nI hl.length), .ref 50, .ref 51, .ref 52, .ref 53, .ref 54, .ref 55, .ref 56, .ref 57, .ref 58]) rfl ?_
                      refine r_eq rfl rfl ws_same ?_
                      refine r_aload_n C dX6_take_138 rfl ?_
                      refine r_aload_n C dX6_take_139 rfl ?_
                      refine r_get C dX6_take_140 fgRX6_220 (Nat.le_of_ble_eq_true rfl) ws_eq rfl ?_
                      refine r_if_eq C 155 dX6_take_143 (by decide) (fun c_143 => ?_) (fun c_143 => ?_)
                      · skip
                        refine r_iconst C dX6_take_155 (v := 0) (by decide) ?_
                        refine r_put C dX6_take_156 fpRX6_220 (Nat.le_of_ble_eq_true rfl) ws_eq (by decide) (by decide) (Nat.le_of_ble_eq_true rfl) (fs' := [.int 0, .int (nI xs.length), .ref 36, .int (nI rs.length), .ref 37, .int rv, .int (nI ln), .int pm, .int lo, .ref 38, .ref 39, .int (nI nb.length), .ref 40, .int (nI op.length), .ref 41, .int (nI up.length), .ref 42, .int 0, .ref 43, .int (nI (([] : List Nat).length)), .ref 44, .ref 45, .ref 46, .ref 47, .ref 48, .ref 49, .int (nI hl.length), .ref 50, .ref 51, .ref 52, .ref 53, .ref 54, .ref 55, .ref 56, .ref 57, .ref 58]) rfl ?_
                        refine r_eq rfl rfl ws_same ?_
                        refine r_iconst C dX6_take_159 (v := 0) (by decide) ?_
                        refine r_istore C dX6_take_160 (L' := [some (.ref 35), some (.int 0), some (.int 1), some (.int 1), some (.int 0)]) (by decide) rfl ?_
                        have loop_162 : ∀ (d9 : Nat) (k : Nat) (f1 : Nat → Int32), xs.length - k < d9 → k ≤ xs.length → (∀ m, m < k → f1 m = nI (xs.getD m 0)) → Az g mX6_take ct 0 0 162 [some (.ref 35), some (.int 0), some (.int 1), some (.int 1), some (.int (nI k))] [] (wset (wset w 35 (mo 0 (nI xs.length) (nI rs.length) rv (nI ln) pm lo (nI nb.length) (nI op.length) (nI up.length) 0 (nI (([] : List Nat).length)) (nI hl.length))) 38 (ia 32 f1)) := by
                          intro d9
                          induction d9 with
                          | zero => intro k f1 hd9; exact absurd hd9 (Nat.not_lt_zero _)
                          | succ d9 ih_162 =>
                            intro k f1 hd9 hk hp
                            refine r_iload C dX6_take_162 rfl ?_
                            refine r_aload_n C dX6_take_164 rfl ?_
                            refine r_get C dX6_take_165 fgRX6_156 (Nat.le_of_ble_eq_true rfl) (ws_ne (Nat.ne_of_beq_eq_false rfl) ws_eq) rfl ?_
                            refine r_icmp_ge C 292 dX6_take_168 (by decide) (fun c_168 => ?_) (fun c_168 => ?_)
                            · skip
                              have c_168 : xs.length ≤ k := (nI_leI (a := xs.length) (b := k) (by omega) (by omega)).mp c_168
                              refine r_aload_n C dX6_take_292 rfl ?_
                              refine r_get C dX6_take_293 fgRX6_156 (Nat.le_of_ble_eq_true rfl) (ws_ne (Nat.ne_of_beq_eq_false rfl) ws_eq) rfl ?_
                              exact r_ireturn C T_ rfl rfl dX6_take_296 (⟨_, rfl, Or.inr (Or.inr ⟨⟨by decide, by decide⟩, (by unfold tkOk; rw [if_pos (by decide)]; omega), by rw [tkS_0]; exact MW_mk (ws_ne (Nat.ne_of_beq_eq_false rfl) ws_eq) (ws_ne (Nat.ne_of_beq_eq_false rfl) (ws_ne (Nat.ne_of_beq_eq_false rfl) w_36)) h_xs (by first | omega | (simp only [List.length_append, List.length_nil, List.length_cons, List.length_take, List.length_replicate, List.length_range, List.length_map, lof_len, pad_len, padd_len, md5_len, strm_len, strms_len, entOf_len, hif_len] <;> omega)) (ws_ne (Nat.ne_of_beq_eq_false rfl) (ws_ne (Nat.ne_of_beq_eq_false rfl) w_37)) h_rs (by first | omega | (simp only [List.length_append, List.length_nil, List.length_cons, List.length_take, List.length_replicate, List.length_range, List.length_map, lof_len, pad_len, padd_len, md5_len, strm_len, strms_len, entOf_len, hif_len] <;> omega)) ws_eq (hs_pre (xs := xs) rfl (fun m hm => hp m (by omega)) (fun m hm => rfl)) (by first | omega | (simp only [List.length_append, List.length_nil, List.length_cons, List.length_take, List.length_replicate, List.length_range, List.length_map, lof_len, pad_len, padd_len, md5_len, strm_len, strms_len, entOf_len, hif_len] <;> omega)) (ws_ne (Nat.ne_of_beq_eq_false rfl) (ws_ne (Nat.ne_of_beq_eq_false rfl) w_39)) h_us (by first | omega | (simp only [List.length_append, List.length_nil, List.length_cons, List.length_take, List.length_replicate, List.length_range, List.length_map, lof_len, pad_len, padd_len, md5_len, strm_len, strms_len, entOf_len, hif_len] <;> omega)) (ws_ne (Nat.ne_of_beq_eq_false rfl) (ws_ne (Nat.ne_of_beq_eq_false rfl) w_40)) h_nb (by first | omega | (simp only [List.length_append, List.length_nil, List.length_cons, List.length_take, List.length_replicate, List.length_range, List.length_map, lof_len, pad_len, padd_len, md5_len, strm_len, strms_len, entOf_len, hif_len] <;> omega)) (ws_ne (Nat.ne_of_beq_eq_false rfl) (ws_ne (Nat.ne_of_beq_eq_false rfl) w_41)) h_op (by first | omega | (simp only [List.length_append, List.length_nil, List.length_cons, List.length_take, List.length_replicate, List.length_range, List.length_map, lof_len, pad_len, padd_len, md5_len, strm_len, strms_len, entOf_len, hif_len] <;> omega)) (ws_ne (Nat.ne_of_beq_eq_false rfl) (ws_ne (Nat.ne_of_beq_eq_false rfl) w_42)) h_up (by first | omega | (simp only [List.length_append, List.length_nil, List.length_cons, List.length_take, List.length_replicate, List.length_range, List.length_map, lof_len, pad_len, padd_len, md5_len, strm_len, strms_len, entOf_len, hif_len] <;> omega)) (ws_ne (Nat.ne_of_beq_eq_false rfl) (ws_ne (Nat.ne_of_beq_eq_false rfl) w_43)) (hs_nil _) (by first | omega | (simp only [List.length_append, List.length_nil, List.length_cons, List.length_take, List.length_replicate, List.length_range, List.length_map, lof_len, pad_len, padd_len, md5_len, strm_len, strms_len, entOf_len, hif_len] <;> omega)) (ws_ne (Nat.ne_of_beq_eq_false rfl) (ws_ne (Nat.ne_of_beq_eq_false rfl) w_50)) h_hl (by first | omega | (simp only [List.length_append, List.length_nil, List.length_cons, List.length_take, List.length_replicate, List.length_range, List.length_map, lof_len, pad_len, padd_len, md5_len, strm_len, strms_len, entOf_len, hif_len] <;> omega)) (ws_ne (Nat.ne_of_beq_eq_false rfl) (ws_ne (Nat.ne_of_beq_eq_false rfl) w_44)) (ws_ne (Nat.ne_of_beq_eq_false rfl) (ws_ne (Nat.ne_of_beq_eq_false rfl) w_45)) (ws_ne (Nat.ne_of_beq_eq_false rfl) (ws_ne (Nat.ne_of_beq_eq_false rfl) w_46)) (ws_ne (Nat.ne_of_beq_eq_false rfl) (ws_ne (Nat.ne_of_beq_eq_false rfl) w_47)) hsn (ws_ne (Nat.ne_of_beq_eq_false rfl) (ws_ne (Nat.ne_of_beq_eq_false rfl) w_48)) htn (ws_ne (Nat.ne_of_beq_eq_false rfl) (ws_ne (Nat.ne_of_beq_eq_false rfl) w_49)) hpd (ws_ne (Nat.ne_of_beq_eq_false rfl) (ws_ne (Nat.ne_of_beq_eq_false rfl) w_51)) (ws_ne (Nat.ne_of_beq_eq_false rfl) (ws_ne (Nat.ne_of_beq_eq_false rfl) w_52)) (ws_ne (Nat.ne_of_beq_eq_false rfl) (ws_ne (Nat.ne_of_beq_eq_false rfl) w_53)) (ws_ne (Nat.ne_of_beq_eq_false rfl) (ws_ne (Nat.ne_of_beq_eq_false rfl) w_54)) (ws_ne (Nat.ne_of_beq_eq_false rfl) (ws_ne (Nat.ne_of_beq_eq_false rfl) w_55)) (ws_ne (Nat.ne_of_beq_eq_false rfl) (ws_ne (Nat.ne_of_beq_eq_false rfl) w_56)) (ws_ne (Nat.ne_of_beq_eq_false rfl) (ws_ne (Nat.ne_of_beq_eq_false rfl) w_57)) (ws_ne (Nat.ne_of_beq_eq_false rfl) (ws_ne (Nat.ne_of_beq_eq_false rfl) w_58)) (Or.inl ⟨rfl, rfl⟩), rfl⟩), (frm_set (Nat.le_of_ble_eq_true rfl) (Nat.le_of_ble_eq_true rfl) (frm_set (Nat.le_of_ble_eq_true rfl) (Nat.le_of_ble_eq_true rfl) (frm_rf _)))⟩)
                            · skip
                              have c_168 : ¬ (xs.length ≤ k) := fun h9 => c_168 ((nI_leI (a := xs.length) (b := k) (by omega) (by omega)).mpr h9)
                              refine r_iload_n C dX6_take_171 rfl ?_
                              refine r_tabIn C 204 dX6_take_172 (by decide) (by decide) (off := 32) (by decide) (by decide) ?_
                              refine r_aload_n C dX6_take_204 rfl ?_
                              refine r_get C dX6_take_205 fgRX6_26 (Nat.le_of_ble_eq_true rfl) (ws_ne (Nat.ne_of_beq_eq_false rfl) ws_eq) rfl ?_
                              refine r_iload C dX6_take_208 rfl ?_
                              refine r_aload_n C dX6_take_210 rfl ?_
                              refine r_get C dX6_take_211 fgRX6_7 (Nat.le_of_ble_eq_true rfl) (ws_ne (Nat.ne_of_beq_eq_false rfl) ws_eq) rfl ?_
                              refine r_iload C dX6_take_214 rfl ?_
                              refine r_ialdN C dX6_take_216 (Nat.le_of_ble_eq_true rfl) (ws_ne (Nat.ne_of_beq_eq_false rfl) (ws_ne (Nat.ne_of_beq_eq_false rfl) w_36)) (j := k) rfl (by omega) (by decide) ?_
                              refine r_top (y := nI (xs.getD k 0)) (h_xs _ (by omega)) ?_
                              refine r_iastN C dX6_take_217 (Nat.le_of_ble_eq_true rfl) ws_eq (j := k) rfl (by omega) (by decide) ?_
                              refine r_eq rfl rfl ws_same ?_
                              refine r_goto C 286 dX6_take_218 (by decide) ?_
                              refine r_iinc C dX6_take_286 (v := nI (k + 1)) (L' := [some (.ref 35), some (.int 0), some (.int 1), some (.int 1), some (.int (nI (k + 1)))]) rfl (nI_add k 1) (by decide) rfl ?_
                              refine r_goto C 162 dX6_take_289 (by decide) ?_
                              exact ih_162 (k + 1) _ (by omega) (by omega) (up_lt hp rfl)
                        refine r_eq rfl rfl (ws_self (ws_ne (Nat.ne_of_beq_eq_false rfl) w_38)).symm ?_
                        exact loop_162 _ 0 _ (Nat.lt_succ_self _) (by omega) (fun m hm => absurd hm (Nat.not_lt_zero m))
                      · skip
                        refine r_iload_n C dX6_take_146 rfl ?_
                        refine r_iconst C dX6_take_147 (v := 2) (by decide) ?_
                        refine r_icmp_le C 155 dX6_take_148 (by decide) (fun c_148 => ?_) (fun c_148 => ?_)
                        · skip
                          refine r_iconst C dX6_take_155 (v := 0) (by decide) ?_
                          refine r_put C dX6_take_156 fpRX6_220 (Nat.le_of_ble_eq_true rfl) ws_eq (by decide) (by decide) (Nat.le_of_ble_eq_true rfl) (fs' := [.int 0, .int (nI xs.length), .ref 36, .int (nI rs.length), .ref 37, .int rv, .int (nI ln), .int pm, .int lo, .ref 38, .ref 39, .int (nI nb.length), .ref 40, .int (nI op.length), .ref 41, .int (nI up.length), .ref 42, .int 0, .ref 43, .int (nI (([] : List Nat).length)), .ref 44, .ref 45, .ref 46, .ref 47, .ref 48, .ref 49, .int (nI hl.length), .ref 50, .ref 51, .ref 52, .ref 53, .ref 54, .ref 55, .ref 56, .ref 57, .ref 58]) rfl ?_
                          refine r_eq rfl rfl ws_same ?_
                          refine r_iconst C dX6_take_159 (v := 0) (by decide) ?_
                          refine r_istore C dX6_take_160 (L' := [some (.ref 35), some (.int 0), some (.int 1), some (.int 1), some (.int 0)]) (by decide) rfl ?_
                          have loop_162 : ∀ (d9 : Nat) (k : Nat) (f1 : Nat → Int32), xs.length - k < d9 → k ≤ xs.length → (∀ m, m < k → f1 m = nI (xs.getD m 0)) → Az g mX6_take ct 0 0 162 [some (.ref 35), some (.int 0), some (.int 1), some (.int 1), some (.int (nI k))] [] (wset (wset w 35 (mo 0 (nI xs.length) (nI rs.length) rv (nI ln) pm lo (nI nb.length) (nI op.length) (nI up.length) 0 (nI (([] : List Nat).length)) (nI hl.length))) 38 (ia 32 f1)) := by
                            intro d9
                            induction d9 with
                            | zero => intro k f1 hd9; exact absurd hd9 (Nat.not_lt_zero _)
                            | succ d9 ih_162 =>
                              intro k f1 hd9 hk hp
                              refine r_iload C dX6_take_162 rfl ?_
                              refine r_aload_n C dX6_take_164 rfl ?_
                              refine r_get C dX6_take_165 fgRX6_156 (Nat.le_of_ble_eq_true rfl) (ws_ne (Nat.ne_of_beq_eq_false rfl) ws_eq) rfl ?_
                              refine r_icmp_ge C 292 dX6_take_168 (by decide) (fun c_168 => ?_) (fun c_168 => ?_)
                              · skip
                                have c_168 : xs.length ≤ k := (nI_leI (a := xs.length) (b := k) (by omega) (by omega)).mp c_168
                                refine r_aload_n C dX6_take_292 rfl ?_
                                refine r_get C dX6_take_293 fgRX6_156 (Nat.le_of_ble_eq_true rfl) (ws_ne (Nat.ne_of_beq_eq_false rfl) ws_eq) rfl ?_
                                exact r_ireturn C T_ rfl rfl dX6_take_296 (⟨_, rfl, Or.inr (Or.inr ⟨⟨by decide, by decide⟩, (by unfold tkOk; rw [if_pos (by decide)]; omega), by rw [tkS_0]; exact MW_mk (ws_ne (Nat.ne_of_beq_eq_false rfl) ws_eq) (ws_ne (Nat.ne_of_beq_eq_false rfl) (ws_ne (Nat.ne_of_beq_eq_false rfl) w_36)) h_xs (by first | omega | (simp only [List.length_append, List.length_nil, List.length_cons, List.length_take, List.length_replicate, List.length_range, List.length_map, lof_len, pad_len, padd_len, md5_len, strm_len, strms_len, entOf_len, hif_len] <;> omega)) (ws_ne (Nat.ne_of_beq_eq_false rfl) (ws_ne (Nat.ne_of_beq_eq_false rfl) w_37)) h_rs (by first | omega | (simp only [List.length_append, List.length_nil, List.length_cons, List.length_take, List.length_replicate, List.length_range, List.length_map, lof_len, pad_len, padd_len, md5_len, strm_len, strms_len, entOf_len, hif_len] <;> omega)) ws_eq (hs_pre (xs := xs) rfl (fun m hm => hp m (by omega)) (fun m hm => rfl)) (by first | omega | (simp only [List.length_append, List.length_nil, List.length_cons, List.length_take, List.length_replicate, List.length_range, List.length_map, lof_len, pad_len, padd_len, md5_len, strm_len, strms_len, entOf_len, hif_len] <;> omega)) (ws_ne (Nat.ne_of_beq_eq_false rfl) (ws_ne (Nat.ne_of_beq_eq_false rfl) w_39)) h_us (by first | omega | (simp only [List.length_append, List.length_nil, List.length_cons, List.length_take, List.length_replicate, List.length_range, List.length_map, lof_len, pad_len, padd_len, md5_len, strm_len, strms_len, entOf_len, hif_len] <;> omega)) (ws_ne (Nat.ne_of_beq_eq_false rfl) (ws_ne (Nat.ne_of_beq_eq_false rfl) w_40)) h_nb (by first | omega | (simp only [List.length_append, List.length_nil, List.length_cons, List.length_take, List.length_replicate, List.length_range, List.length_map, lof_len, pad_len, padd_len, md5_len, strm_len, strms_len, entOf_len, hif_len] <;> omega)) (ws_ne (Nat.ne_of_beq_eq_false rfl) (ws_ne (Nat.ne_of_beq_eq_false rfl) w_41)) h_op (by first | omega | (simp only [List.length_append, List.length_nil, List.length_cons, List.length_take, List.length_replicate, List.length_range, List.length_map, lof_len, pad_len, padd_len, md5_len, strm_len, strms_len, entOf_len, hif_len] <;> omega)) (ws_ne (Nat.ne_of_beq_eq_false rfl) (ws_ne (Nat.ne_of_beq_eq_false rfl) w_42)) h_up (by first | omega | (simp only [List.length_append, List.length_nil, List.length_cons, List.length_take, List.length_replicate, List.length_range, List.length_map, lof_len, pad_len, padd_len, md5_len, strm_len, strms_len, entOf_len, hif_len] <;> omega)) (ws_ne (Nat.ne_of_beq_eq_false rfl) (ws_ne (Nat.ne_of_beq_eq_false rfl) w_43)) (hs_nil _) (by first | omega | (simp only [List.length_append, List.length_nil, List.length_cons, List.length_take, List.length_replicate, List.length_range, List.length_map, lof_len, pad_len, padd_len, md5_len, strm_len, strms_len, entOf_len, hif_len] <;> omega)) (ws_ne (Nat.ne_of_beq_eq_false rfl) (ws_ne (Nat.ne_of_beq_eq_false rfl) w_50)) h_hl (by first | omega | (simp only [List.length_append, List.length_nil, List.length_cons, List.length_take, List.length_replicate, List.length_range, List.length_map, lof_len, pad_len, padd_len, md5_len, strm_len, strms_len, entOf_len, hif_len] <;> omega)) (ws_ne (Nat.ne_of_beq_eq_false rfl) (ws_ne (Nat.ne_of_beq_eq_false rfl) w_44)) (ws_ne (Nat.ne_of_beq_eq_false rfl) (ws_ne (Nat.ne_of_beq_eq_false rfl) w_45)) (ws_ne (Nat.ne_of_beq_eq_false rfl) (ws_ne (Nat.ne_of_beq_eq_false rfl) w_46)) (ws_ne (Nat.ne_of_beq_eq_false rfl) (ws_ne (Nat.ne_of_beq_eq_false rfl) w_47)) hsn (ws_ne (Nat.ne_of_beq_eq_false rfl) (ws_ne (Nat.ne_of_beq_eq_false rfl) w_48)) htn (ws_ne (Nat.ne_of_beq_eq_false rfl) (ws_ne (Nat.ne_of_beq_eq_false rfl) w_49)) hpd (ws_ne (Nat.ne_of_beq_eq_false rfl) (ws_ne (Nat.ne_of_beq_eq_false rfl) w_51)) (ws_ne (Nat.ne_of_beq_eq_false rfl) (ws_ne (Nat.ne_of_beq_eq_false rfl) w_52)) (ws_ne (Nat.ne_of_beq_eq_false rfl) (ws_ne (Nat.ne_of_beq_eq_false rfl) w_53)) (ws_ne (Nat.ne_of_beq_eq_false rfl) (ws_ne (Nat.ne_of_beq_eq_false rfl) w_54)) (ws_ne (Nat.ne_of_beq_eq_false rfl) (ws_ne (Nat.ne_of_beq_eq_false rfl) w_55)) (ws_ne (Nat.ne_of_beq_eq_false rfl) (ws_ne (Nat.ne_of_beq_eq_false rfl) w_56)) (ws_ne (Nat.ne_of_beq_eq_false rfl) (ws_ne (Nat.ne_of_beq_eq_false rfl) w_57)) (ws_ne (Nat.ne_of_beq_eq_false rfl) (ws_ne (Nat.ne_of_beq_eq_false rfl) w_58)) (Or.inl ⟨rfl, rfl⟩), rfl⟩), (frm_set (Nat.le_of_ble_eq_true rfl) (Nat.le_of_ble_eq_true rfl) (frm_set (Nat.le_of_ble_eq_true rfl) (Nat.le_of_ble_eq_true rfl) (frm_rf _)))⟩)
                              · skip
                                have c_168 : ¬ (xs.length ≤ k) := fun h9 => c_168 ((nI_leI (a := xs.length) (b := k) (by omega) (by omega)).mpr h9)
                                refine r_iload_n C dX6_take_171 rfl ?_
                                refine r_tabIn C 204 dX6_take_172 (by decide) (by decide) (off := 32) (by decide) (by decide) ?_
                                refine r_aload_n C dX6_take_204 rfl ?_
                                refine r_get C dX6_take_205 fgRX6_26 (Nat.le_of_ble_eq_true rfl) (ws_ne (Nat.ne_of_beq_eq_false rfl) ws_eq) rfl ?_
                                refine r_iload C dX6_take_208 rfl ?_
                                refine r_aload_n C dX6_take_210 rfl ?_
                                refine r_get C dX6_take_211 fgRX6_7 (Nat.le_of_ble_eq_true rfl) (ws_ne (Nat.ne_of_beq_eq_false rfl) ws_eq) rfl ?_
                                refine r_iload C dX6_take_214 rfl ?_
                                refine r_ialdN C dX6_take_216 (Nat.le_of_ble_eq_true rfl) (ws_ne (Nat.ne_of_beq_eq_false rfl) (ws_ne (Nat.ne_of_beq_eq_false rfl) w_36)) (j := k) rfl (by omega) (by decide) ?_
                                refine r_top (y := nI (xs.getD k 0)) (h_xs _ (by omega)) ?_
                                refine r_iastN C dX6_take_217 (Nat.le_of_ble_eq_true rfl) ws_eq (j := k) rfl (by omega) (by decide) ?_
                                refine r_eq rfl rfl ws_same ?_
                                refine r_goto C 286 dX6_take_218 (by decide) ?_
                                refine r_iinc C dX6_take_286 (v := nI (k + 1)) (L' := [some (.ref 35), some (.int 0), some (.int 1), some (.int 1), some (.int (nI (k + 1)))]) rfl (nI_add k 1) (by decide) rfl ?_
                                refine r_goto C 162 dX6_take_289 (by decide) ?_
                                exact ih_162 (k + 1) _ (by omega) (by omega) (up_lt hp rfl)
                          refine r_eq rfl rfl (ws_self (ws_ne (Nat.ne_of_beq_eq_false rfl) w_38)).symm ?_
                          exact loop_162 _ 0 _ (Nat.lt_succ_self _) (by omega) (fun m hm => absurd hm (Nat.not_lt_zero m))
                        · skip
                          exact absurd c_148 (by decide)
                    · skip
                      exact absurd c_121 (by decide)
                  · skip
                    exact absurd c_101 (by decide)
                · skip
                  exact absurd c_81 (by decide)
              · skip
                exact absurd c_73 (by decide)
            · skip
              exact absurd c_62 (by decide)
          · skip
            exact absurd c_54 (by decide)
set_option maxHeartbeats 4000000 in
set_option maxRecDepth 100000 in
theorem mX6_take9_1 {w : Wo} {fa : Int32} {xs rs : List Nat} {rv : Int32} {ln : Nat} {pm lo : Int32} {ow us nb op up kn : List Nat} (mw : MW fa (xs, rs, rv, ln, pm, lo, ow, us, nb, op, up, kn) w) (ps : PSok (xs, rs, rv, ln, pm, lo, ow, us, nb, op, up, kn)) : Ctr mX6_take [.ref 35, .int 1] w (PI fun r w' => ((¬ tkIn 1 ∧ MW 1 (xs, rs, rv, ln, pm, lo, ow, us, nb, op, up, kn) w' ∧ r = 0) ∨ (tkIn 1 ∧ ¬ tkOk 1 xs ∧ MW 2 (xs, rs, rv, ln, pm, lo, ow, us, nb, op, up, kn) w' ∧ r = 0) ∨ (tkIn 1 ∧ tkOk 1 xs ∧ MW 0 (tkS 1 (xs, rs, rv, ln, pm, lo, ow, us, nb, op, up, kn)) w' ∧ r = nI xs.length)) ∧ frm w w') := by
  refine Ctr_intro okX6_take rfl (Nat.le_of_ble_eq_true rfl) (L := [some (.ref 35), some (.int 1), none, none, none]) rfl (fun g ct C T_ => ?_)
  refine MW_open mw (fun fx fr9 fo fus fn fop fup fk fh hl fm fd vA vB vC vD fsn ftn fpd ft fe fp fot K B SW BK ik w_35 w_36 h_xs k_xs w_37 h_rs k_rs w_38 h_ow k_ow w_39 h_us k_us w_40 h_nb k_nb w_41 h_op k_op w_42 h_up k_up w_43 h_kn k_kn w_50 h_hl k_hl w_44 w_45 w_46 w_47 hsn w_48 htn w_49 hpd w_51 w_52 w_53 w_54 w_55 w_56 w_57 w_58 hik => ?_)
  obtain ⟨bx, br, bo, bu, bn, bp, bq, bk9, lo9, lu9, hkn, hrv, hln, hlo⟩ := ps
  refine r_iload_n C dX6_take_0 rfl ?_
  refine r_if_lt C 13 dX6_take_1 (by decide) (fun c_1 => ?_) (fun c_1 => ?_)
  · skip
    exact absurd c_1 (by decide)
  · skip
    refine r_iload_n C dX6_take_4 rfl ?_
    refine r_iconst C dX6_take_5 (v := 4) (by decide) ?_
    refine r_icmp_gt C 13 dX6_take_6 (by decide) (fun c_6 => ?_) (fun c_6 => ?_)
    · skip
      exact absurd c_6 (by decide)
    · skip
      refine r_iconst C dX6_take_9 (v := 1) (by decide) ?_
      refine r_goto C 14 dX6_take_10 (by decide) ?_
      refine r_istore_n C dX6_take_14 (L' := [some (.ref 35), some (.int 1), some (.int 1), none, none]) (by decide) rfl ?_
      refine r_iload_n C dX6_take_15 rfl ?_
      refine r_iconst C dX6_take_16 (v := 2) (by decide) ?_
      refine r_icmp_ge C 37 dX6_take_17 (by decide) (fun c_17 => ?_) (fun c_17 => ?_)
      · skip
        exact absurd c_17 (by decide)
      · skip
        refine r_aload_n C dX6_take_20 rfl ?_
        refine r_get C dX6_take_21 fgRX6_156 (Nat.le_of_ble_eq_true rfl) w_35 rfl ?_
        refine r_bipush C dX6_take_24 (v := 32) (by decide) ?_
        refine r_icmp_ne C 33 dX6_take_26 (by decide) (fun c_26 => ?_) (fun c_26 => ?_)
        · skip
          have c_26 : ¬ (xs.length = 32) := fun h9 => c_26 ((nI_eq (a := xs.length) (b := 32) (by omega) (by omega)).mpr h9)
          refine r_iconst C dX6_take_33 (v := 0) (by decide) ?_
          refine r_goto C 51 dX6_take_34 (by decide) ?_
          refine r_istore_n C dX6_take_51 (L' := [some (.ref 35), some (.int 1), some (.int 1), some (.int 0), none]) (by decide) rfl ?_
          refine r_aload_n C dX6_take_52 rfl ?_
          refine r_iload_n C dX6_take_53 rfl ?_
          refine r_if_ne C 61 dX6_take_54 (by decide) (fun c_54 => ?_) (fun c_54 => ?_)
          · skip
            refine r_iload_n C dX6_take_61 rfl ?_
            refine r_if_ne C 69 dX6_take_62 (by decide) (fun c_62 => ?_) (fun c_62 => ?_)
            · skip
              exact absurd c_62 (by decide)
            · skip
              refine r_iconst C dX6_take_65 (v := 2) (by decide) ?_
              refine r_goto C 70 dX6_take_66 (by decide) ?_
              refine r_callVi C (As := [.int 2]) (rest := []) dX6_take_70 (cX6_refused9 w_35 (p1 := 2)) okX6_refused mlRX6_159 imX6_refused seX6_refused ⟨by decide, by decide⟩ rfl rfl (Nat.le_of_ble_eq_true rfl) w_35 rfl rfl (Nat.le_of_ble_eq_true rfl) (by decide) (by decide) (fun r_1 w9 h9 => ?_)
              obtain ⟨rfl, er_⟩ := h9
              have er_ : r_1 = 1 := er_.trans (if_neg (by decide))
              subst er_
              refine r_if_eq C 78 dX6_take_73 (by decide) (fun c_73 => ?_) (fun c_73 => ?_)
              · skip
                exact absurd c_73 (by decide)
              · skip
                refine r_iconst C dX6_take_76 (v := 0) (by decide) ?_
                exact r_ireturn C T_ rfl rfl dX6_take_77 (⟨_, rfl, Or.inr (Or.inl ⟨⟨by decide, by decide⟩, fun z => absurd (show xs.length = 32 from by unfold tkOk at z; rw [if_pos (by decide)] at z; exact z) (by omega), MW_mk ws_eq (ws_ne (Nat.ne_of_beq_eq_false rfl) w_36) h_xs (by first | omega | (simp only [List.length_append, List.length_nil, List.length_cons, List.length_take, List.length_replicate, List.length_range, List.length_map, lof_len, pad_len, padd_len, md5_len, strm_len, strms_len, entOf_len, hif_len] <;> omega)) (ws_ne (Nat.ne_of_beq_eq_false rfl) w_37) h_rs (by first | omega | (simp only [List.length_append, List.length_nil, List.length_cons, List.length_take, List.length_replicate, List.length_range, List.length_map, lof_len, pad_len, padd_len, md5_len, strm_len, strms_len, entOf_len, hif_len] <;> omega)) (ws_ne (Nat.ne_of_beq_eq_false rfl) w_38) h_ow (by first | omega | (simp only [List.length_append, List.length_nil, List.length_cons, List.length_take, List.length_replicate, List.length_range, List.length_map, lof_len, pad_len, padd_len, md5_len, strm_len, strms_len, entOf_len, hif_len] <;> omega)) (ws_ne (Nat.ne_of_beq_eq_false rfl) w_39) h_us (by first | omega | (simp only [List.length_append, List.length_nil, List.length_cons, List.length_take, List.length_replicate, List.length_range, List.length_map, lof_len, pad_len, padd_len, md5_len, strm_len, strms_len, entOf_len, hif_len] <;> omega)) (ws_ne (Nat.ne_of_beq_eq_false rfl) w_40) h_nb (by first | omega | (simp only [List.length_append, List.length_nil, List.length_cons, List.length_take, List.length_replicate, List.length_range, List.length_map, lof_len, pad_len, padd_len, md5_len, strm_len, strms_len, entOf_len, hif_len] <;> omega)) (ws_ne (Nat.ne_of_beq_eq_false rfl) w_41) h_op (by first | omega | (simp only [List.length_append, List.length_nil, List.length_cons, List.length_take, List.length_replicate, List.length_range, List.length_map, lof_len, pad_len, padd_len, md5_len, strm_len, strms_len, entOf_len, hif_len] <;> omega)) (ws_ne (Nat.ne_of_beq_eq_false rfl) w_42) h_up (by first | omega | (simp only [List.length_append, List.length_nil, List.length_cons, List.length_take, List.length_replicate, List.length_range, List.length_map, lof_len, pad_len, padd_len, md5_len, strm_len, strms_len, entOf_len, hif_len] <;> omega)) (ws_ne (Nat.ne_of_beq_eq_false rfl) w_43) h_kn (by first | omega | (simp only [List.length_append, List.length_nil, List.length_cons, List.length_take, List.length_replicate, List.length_range, List.length_map, lof_len, pad_len, padd_len, md5_len, strm_len, strms_len, entOf_len, hif_len] <;> omega)) (ws_ne (Nat.ne_of_beq_eq_false rfl) w_50) h_hl (by first | omega | (simp only [List.length_append, List.length_nil, List.length_cons, List.length_take, List.length_replicate, List.length_range, List.length_map, lof_len, pad_len, padd_len, md5_len, strm_len, strms_len, entOf_len, hif_len] <;> omega)) (ws_ne (Nat.ne_of_beq_eq_false rfl) w_44) (ws_ne (Nat.ne_of_beq_eq_false rfl) w_45) (ws_ne (Nat.ne_of_beq_eq_false rfl) w_46) (ws_ne (Nat.ne_of_beq_eq_false rfl) w_47) hsn (ws_ne (Nat.ne_of_beq_eq_false rfl) w_48) htn (ws_ne (Nat.ne_of_beq_eq_false rfl) w_49) hpd (ws_ne (Nat.ne_of_beq_eq_false rfl) w_51) (ws_ne (Nat.ne_of_beq_eq_false rfl) w_52) (ws_ne (Nat.ne_of_beq_eq_false rfl) w_53) (ws_ne (Nat.ne_of_beq_eq_false rfl) w_54) (ws_ne (Nat.ne_of_beq_eq_false rfl) w_55) (ws_ne (Nat.ne_of_beq_eq_false rfl) w_56) (ws_ne (Nat.ne_of_beq_eq_false rfl) w_57) (ws_ne (Nat.ne_of_beq_eq_false rfl) w_58) hik, rfl⟩), (frm_set (Nat.le_of_ble_eq_true rfl) (Nat.le_of_ble_eq_true rfl) (frm_rf _))⟩)
          · skip
            exact absurd c_54 (by decide)
        · skip
          have c_26 : xs.length = 32 := (nI_eq (a := xs.length) (b := 32) (by omega) (by omega)).mp c_26
          refine r_iconst C dX6_take_29 (v := 1) (by decide) ?_
          refine r_goto C 51 dX6_take_30 (by decide) ?_
          refine r_istore_n C dX6_take_51 (L' := [some (.ref 35), some (.int 1), some (.int 1), some (.int 1), none]) (by decide) rfl ?_
          refine r_aload_n C dX6_take_52 rfl ?_
          refine r_iload_n C dX6_take_53 rfl ?_
          refine r_if_ne C 61 dX6_take_54 (by decide) (fun c_54 => ?_) (fun c_54 => ?_)
          · skip
            refine r_iload_n C dX6_take_61 rfl ?_
            refine r_if_ne C 69 dX6_take_62 (by decide) (fun c_62 => ?_) (fun c_62 => ?_)
            · skip
              refine r_iconst C dX6_take_69 (v := 0) (by decide) ?_
              refine r_callVi C (As := [.int 0]) (rest := []) dX6_take_70 (cX6_refused9 w_35 (p1 := 0)) okX6_refused mlRX6_159 imX6_refused seX6_refused ⟨by decide, by decide⟩ rfl rfl (Nat.le_of_ble_eq_true rfl) w_35 rfl rfl (Nat.le_of_ble_eq_true rfl) (by decide) (by decide) (fun r_2 w9 h9 => ?_)
              obtain ⟨rfl, er_⟩ := h9
              have er_ : r_2 = 0 := er_.trans (if_pos (by decide))
              subst er_
              refine r_if_eq C 78 dX6_take_73 (by decide) (fun c_73 => ?_) (fun c_73 => ?_)
              · skip
                refine r_aload_n C dX6_take_78 rfl ?_
                refine r_iload_n C dX6_take_79 rfl ?_
                refine r_iconst C dX6_take_80 (v := 2) (by decide) ?_
                refine r_icmp_ne C 91 dX6_take_81 (by decide) (fun c_81 => ?_) (fun c_81 => ?_)
                · skip
                  refine r_aload_n C dX6_take_91 rfl ?_
                  refine r_get C dX6_take_92 fgRX6_203 (Nat.le_of_ble_eq_true rfl) ws_eq rfl ?_
                  refine r_put C dX6_take_95 fpRX6_203 (Nat.le_of_ble_eq_true rfl) ws_eq rfl rfl (Nat.le_of_ble_eq_true rfl) (fs' := [.int 0, .int (nI xs.length), .ref 36, .int (nI rs.length), .ref 37, .int rv, .int (nI ln), .int pm, .int lo, .ref 38, .ref 39, .int (nI nb.length), .ref 40, .int (nI op.length), .ref 41, .int (nI up.length), .ref 42, .int ik, .ref 43, .int (nI (([] : List Nat).length)), .ref 44, .ref 45, .ref 46, .ref 47, .ref 48, .ref 49, .int (nI hl.length), .ref 50, .ref 51, .ref 52, .ref 53, .ref 54, .ref 55, .ref 56, .ref 57, .ref 58]) rfl ?_
                  refine r_eq rfl rfl ws_same ?_
                  refine r_aload_n C dX6_take_98 rfl ?_
                  refine r_iload_n C dX6_take_99 rfl ?_
                  refine r_iconst C dX6_take_100 (v := 3) (by decide) ?_
                  refine r_icmp_ne C 111 dX6_take_101 (by decide) (fun c_101 => ?_) (fun c_101 => ?_)
                  · skip
                    refine r_aload_n C dX6_take_111 rfl ?_
                    refine r_get C dX6_take_112 fgRX6_197 (Nat.le_of_ble_eq_true rfl) ws_eq rfl ?_
                    refine r_put C dX6_take_115 fpRX6_197 (Nat.le_of_ble_eq_true rfl) ws_eq rfl rfl (Nat.le_of_ble_eq_true rfl) (fs' := [.int 0, .int (nI xs.length), .ref 36, .int (nI rs.length), .ref 37, .int rv, .int (nI ln), .int pm, .int lo, .ref 38, .ref 39, .int (nI nb.length), .ref 40, .int (nI op.length), .ref 41, .int (nI up.length), .ref 42, .int ik, .ref 43, .int (nI (([] : List Nat).length)), .ref 44, .ref 45, .ref 46, .ref 47, .ref 48, .ref 49, .int (nI hl.length), .ref 50, .ref 51, .ref 52, .ref 53, .ref 54, .ref 55, .ref 56, .ref 57, .ref 58]) rfl ?_
                    refine r_eq rfl rfl ws_same ?_
                    refine r_aload_n C dX6_take_118 rfl ?_
                    refine r_iload_n C dX6_take_119 rfl ?_
                    refine r_iconst C dX6_take_120 (v := 4) (by decide) ?_
                    refine r_icmp_ne C 131 dX6_take_121 (by decide) (fun c_121 => ?_) (fun c_121 => ?_)
                    · skip
                      refine r_aload_n C dX6_take_131 rfl ?_
                      refine r_get C dX6_take_132 fgRX6_200 (Nat.le_of_ble_eq_true rfl) ws_eq rfl ?_
                      refine r_put C dX6_take_135 fpRX6_200 (Nat.le_of_ble_eq_true rfl) ws_eq rfl rfl (Nat.le_of_ble_eq_true rfl) (fs' := [.int 0, .int (nI xs.length), .ref 36, .int (nI rs.length), .ref 37, .int rv, .int (nI ln), .int pm, .int lo, .ref 38, .ref 39, .int (nI nb.length), .ref 40, .int (nI op.length), .ref 41, .int (nI up.length), .ref 42, .int ik, .ref 43, .int (nI (([] : List Nat).length)), .ref 44, .ref 45, .ref 46, .ref 47, .ref 48, .ref 49, .int (nI hl.length), .ref 50, .ref 51, .ref 52, .ref 53, .ref 54, .ref 55, .ref 56, .ref 57, .ref 58]) rfl ?_
                      refine r_eq rfl rfl ws_same ?_
                      refine r_aload_n C dX6_take_138 rfl ?_
                      refine r_aload_n C dX6_take_139 rfl ?_
                      refine r_get C dX6_take_140 fgRX6_220 (Nat.le_of_ble_eq_true rfl) ws_eq rfl ?_
                      refine r_if_eq C 155 dX6_take_143 (by decide) (fun c_143 => ?_) (fun c_143 => ?_)
                      · skip
                        refine r_iconst C dX6_take_155 (v := 0) (by decide) ?_
                        refine r_put C dX6_take_156 fpRX6_220 (Nat.le_of_ble_eq_true rfl) ws_eq (by decide) (by decide) (Nat.le_of_ble_eq_true rfl) (fs' := [.int 0, .int (nI xs.length), .ref 36, .int (nI rs.length), .ref 37, .int rv, .int (nI ln), .int pm, .int lo, .ref 38, .ref 39, .int (nI nb.length), .ref 40, .int (nI op.length), .ref 41, .int (nI up.length), .ref 42, .int 0, .ref 43, .int (nI (([] : List Nat).length)), .ref 44, .ref 45, .ref 46, .ref 47, .ref 48, .ref 49, .int (nI hl.length), .ref 50, .ref 51, .ref 52, .ref 53, .ref 54, .ref 55, .ref 56, .ref 57, .ref 58]) rfl ?_
                        refine r_eq rfl rfl ws_same ?_
                        refine r_iconst C dX6_take_159 (v := 0) (by decide) ?_
                        refine r_istore C dX6_take_160 (L' := [some (.ref 35), some (.int 1), some (.int 1), some (.int 1), some (.int 0)]) (by decide) rfl ?_
                        have loop_162 : ∀ (d9 : Nat) (k : Nat) (f1 : Nat → Int32), xs.length - k < d9 → k ≤ xs.length → (∀ m, m < k → f1 m = nI (xs.getD m 0)) → Az g mX6_take ct 0 0 162 [some (.ref 35), some (.int 1), some (.int 1), some (.int 1), some (.int (nI k))] [] (wset (wset w 35 (mo 0 (nI xs.length) (nI rs.length) rv (nI ln) pm lo (nI nb.length) (nI op.length) (nI up.length) 0 (nI (([] : List Nat).length)) (nI hl.length))) 39 (ia 32 f1)) := by
                          intro d9
                          induction d9 with
                          | zero => intro k f1 hd9; exact absurd hd9 (Nat.not_lt_zero _)
                          | succ d9 ih_162 =>
                            intro k f1 hd9 hk hp
                            refine r_iload C dX6_take_162 rfl ?_
                            refine r_aload_n C dX6_take_164 rfl ?_
                            refine r_get C dX6_take_165 fgRX6_156 (Nat.le_of_ble_eq_true rfl) (ws_ne (Nat.ne_of_beq_eq_false rfl) ws_eq) rfl ?_
                            refine r_icmp_ge C 292 dX6_take_168 (by decide) (fun c_168 => ?_) (fun c_168 => ?_)
                            · skip
                              have c_168 : xs.length ≤ k := (nI_leI (a := xs.length) (b := k) (by omega) (by omega)).mp c_168
                              refine r_aload_n C dX6_take_292 rfl ?_
                              refine r_get C dX6_take_293 fgRX6_156 (Nat.le_of_ble_eq_true rfl) (ws_ne (Nat.ne_of_beq_eq_false rfl) ws_eq) rfl ?_
                              exact r_ireturn C T_ rfl rfl dX6_take_296 (⟨_, rfl, Or.inr (Or.inr ⟨⟨by decide, by decide⟩, (by unfold tkOk; rw [if_pos (by decide)]; omega), by rw [tkS_1]; exact MW_mk (ws_ne (Nat.ne_of_beq_eq_false rfl) ws_eq) (ws_ne (Nat.ne_of_beq_eq_false rfl) (ws_ne (Nat.ne_of_beq_eq_false rfl) w_36)) h_xs (by first | omega | (simp only [List.length_append, List.length_nil, List.length_cons, List.length_take, List.length_replicate, List.length_range, List.length_map, lof_len, pad_len, padd_len, md5_len, strm_len, strms_len, entOf_len, hif_len] <;> omega)) (ws_ne (Nat.ne_of_beq_eq_false rfl) (ws_ne (Nat.ne_of_beq_eq_false rfl) w_37)) h_rs (by first | omega | (simp only [List.length_append, List.length_nil, List.length_cons, List.length_take, List.length_replicate, List.length_range, List.length_map, lof_len, pad_len, padd_len, md5_len, strm_len, strms_len, entOf_len, hif_len] <;> omega)) (ws_ne (Nat.ne_of_beq_eq_false rfl) (ws_ne (Nat.ne_of_beq_eq_false rfl) w_38)) h_ow (by first | omega | (simp only [List.length_append, List.length_nil, List.length_cons, List.length_take, List.length_replicate, List.length_range, List.length_map, lof_len, pad_len, padd_len, md5_len, strm_len, strms_len, entOf_len, hif_len] <;> omega)) ws_eq (hs_pre (xs := xs) rfl (fun m hm => hp m (by omega)) (fun m hm => rfl)) (by first | omega | (simp only [List.length_append, List.length_nil, List.length_cons, List.length_take, List.length_replicate, List.length_range, List.length_map, lof_len, pad_len, padd_len, md5_len, strm_len, strms_len, entOf_len, hif_len] <;> omega)) (ws_ne (Nat.ne_of_beq_eq_false rfl) (ws_ne (Nat.ne_of_beq_eq_false rfl) w_40)) h_nb (by first | omega | (simp only [List.length_append, List.length_nil, List.length_cons, List.length_take, List.length_replicate, List.length_range, List.length_map, lof_len, pad_len, padd_len, md5_len, strm_len, strms_len, entOf_len, hif_len] <;> omega)) (ws_ne (Nat.ne_of_beq_eq_false rfl) (ws_ne (Nat.ne_of_beq_eq_false rfl) w_41)) h_op (by first | omega | (simp only [List.length_append, List.length_nil, List.length_cons, List.length_take, List.length_replicate, List.length_range, List.length_map, lof_len, pad_len, padd_len, md5_len, strm_len, strms_len, entOf_len, hif_len] <;> omega)) (ws_ne (Nat.ne_of_beq_eq_false rfl) (ws_ne (Nat.ne_of_beq_eq_false rfl) w_42)) h_up (by first | omega | (simp only [List.length_append, List.length_nil, List.length_cons, List.length_take, List.length_replicate, List.length_range, List.length_map, lof_len, pad_len, padd_len, md5_len, strm_len, strms_len, entOf_len, hif_len] <;> omega)) (ws_ne (Nat.ne_of_beq_eq_false rfl) (ws_ne (Nat.ne_of_beq_eq_false rfl) w_43)) (hs_nil _) (by first | omega | (simp only [List.length_append, List.length_nil, List.length_cons, List.length_take, List.length_replicate, List.length_range, List.length_map, lof_len, pad_len, padd_len, md5_len, strm_len, strms_len, entOf_len, hif_len] <;> omega)) (ws_ne (Nat.ne_of_beq_eq_false rfl) (ws_ne (Nat.ne_of_beq_eq_false rfl) w_50)) h_hl (by first | omega | (simp only [List.length_append, List.length_nil, List.length_cons, List.length_take, List.length_replicate, List.length_range, List.length_map, lof_len, pad_len, padd_len, md5_len, strm_len, strms_len, entOf_len, hif_len] <;> omega)) (ws_ne (Nat.ne_of_beq_eq_false rfl) (ws_ne (Nat.ne_of_beq_eq_false rfl) w_44)) (ws_ne (Nat.ne_of_beq_eq_false rfl) (ws_ne (Nat.ne_of_beq_eq_false rfl) w_45)) (ws_ne (Nat.ne_of_beq_eq_false rfl) (ws_ne (Nat.ne_of_beq_eq_false rfl) w_46)) (ws_ne (Nat.ne_of_beq_eq_false rfl) (ws_ne (Nat.ne_of_beq_eq_false rfl) w_47)) hsn (ws_ne (Nat.ne_of_beq_eq_false rfl) (ws_ne (Nat.ne_of_beq_eq_false rfl) w_48)) htn (ws_ne (Nat.ne_of_beq_eq_false rfl) (ws_ne (Nat.ne_of_beq_eq_false rfl) w_49)) hpd (ws_ne (Nat.ne_of_beq_eq_false rfl) (ws_ne (Nat.ne_of_beq_eq_false rfl) w_51)) (ws_ne (Nat.ne_of_beq_eq_false rfl) (ws_ne (Nat.ne_of_beq_eq_false rfl) w_52)) (ws_ne (Nat.ne_of_beq_eq_false rfl) (ws_ne (Nat.ne_of_beq_eq_false rfl) w_53)) (ws_ne (Nat.ne_of_beq_eq_false rfl) (ws_ne (Nat.ne_of_beq_eq_false rfl) w_54)) (ws_ne (Nat.ne_of_beq_eq_false rfl) (ws_ne (Nat.ne_of_beq_eq_false rfl) w_55)) (ws_ne (Nat.ne_of_beq_eq_false rfl) (ws_ne (Nat.ne_of_beq_eq_false rfl) w_56)) (ws_ne (Nat.ne_of_beq_eq_false rfl) (ws_ne (Nat.ne_of_beq_eq_false rfl) w_57)) (ws_ne (Nat.ne_of_beq_eq_false rfl) (ws_ne (Nat.ne_of_beq_eq_false rfl) w_58)) (Or.inl ⟨rfl, rfl⟩), rfl⟩), (frm_set (Nat.le_of_ble_eq_true rfl) (Nat.le_of_ble_eq_true rfl) (frm_set (Nat.le_of_ble_eq_true rfl) (Nat.le_of_ble_eq_true rfl) (frm_rf _)))⟩)
                            · skip
                              have c_168 : ¬ (xs.length ≤ k) := fun h9 => c_168 ((nI_leI (a := xs.length) (b := k) (by omega) (by omega)).mpr h9)
                              refine r_iload_n C dX6_take_171 rfl ?_
                              refine r_tabIn C 221 dX6_take_172 (by decide) (by decide) (off := 49) (by decide) (by decide) ?_
                              refine r_aload_n C dX6_take_221 rfl ?_
                              refine r_get C dX6_take_222 fgRX6_29 (Nat.le_of_ble_eq_true rfl) (ws_ne (Nat.ne_of_beq_eq_false rfl) ws_eq) rfl ?_
                              refine r_iload C dX6_take_225 rfl ?_
                              refine r_aload_n C dX6_take_227 rfl ?_
                              refine r_get C dX6_take_228 fgRX6_7 (Nat.le_of_ble_eq_true rfl) (ws_ne (Nat.ne_of_beq_eq_false rfl) ws_eq) rfl ?_
                              refine r_iload C dX6_take_231 rfl ?_
                              refine r_ialdN C dX6_take_233 (Nat.le_of_ble_eq_true rfl) (ws_ne (Nat.ne_of_beq_eq_false rfl) (ws_ne (Nat.ne_of_beq_eq_false rfl) w_36)) (j := k) rfl (by omega) (by decide) ?_
                              refine r_top (y := nI (xs.getD k 0)) (h_xs _ (by omega)) ?_
                              refine r_iastN C dX6_take_234 (Nat.le_of_ble_eq_true rfl) ws_eq (j := k) rfl (by omega) (by decide) ?_
                              refine r_eq rfl rfl ws_same ?_
                              refine r_goto C 286 dX6_take_235 (by decide) ?_
                              refine r_iinc C dX6_take_286 (v := nI (k + 1)) (L' := [some (.ref 35), some (.int 1), some (.int 1), some (.int 1), some (.int (nI (k + 1)))]) rfl (nI_add k 1) (by decide) rfl ?_
                              refine r_goto C 162 dX6_take_289 (by decide) ?_
                              exact ih_162 (k + 1) _ (by omega) (by omega) (up_lt hp rfl)
                        refine r_eq rfl rfl (ws_self (ws_ne (Nat.ne_of_beq_eq_false rfl) w_39)).symm ?_
                        exact loop_162 _ 0 _ (Nat.lt_succ_self _) (by omega) (fun m hm => absurd hm (Nat.not_lt_zero m))
                      · skip
                        refine r_iload_n C dX6_take_146 rfl ?_
                        refine r_iconst C dX6_take_147 (v := 2) (by decide) ?_
                        refine r_icmp_le C 155 dX6_take_148 (by decide) (fun c_148 => ?_) (fun c_148 => ?_)
                        · skip
                          refine r_iconst C dX6_take_155 (v := 0) (by decide) ?_
                          refine r_put C dX6_take_156 fpRX6_220 (Nat.le_of_ble_eq_true rfl) ws_eq (by decide) (by decide) (Nat.le_of_ble_eq_true rfl) (fs' := [.int 0, .int (nI xs.length), .ref 36, .int (nI rs.length), .ref 37, .int rv, .int (nI ln), .int pm, .int lo, .ref 38, .ref 39, .int (nI nb.length), .ref 40, .int (nI op.length), .ref 41, .int (nI up.length), .ref 42, .int 0, .ref 43, .int (nI (([] : List Nat).length)), .ref 44, .ref 45, .ref 46, .ref 47, .ref 48, .ref 49, .int (nI hl.length), .ref 50, .ref 51, .ref 52, .ref 53, .ref 54, .ref 55, .ref 56, .ref 57, .ref 58]) rfl ?_
                          refine r_eq rfl rfl ws_same ?_
                          refine r_iconst C dX6_take_159 (v := 0) (by decide) ?_
                          refine r_istore C dX6_take_160 (L' := [some (.ref 35), some (.int 1), some (.int 1), some (.int 1), some (.int 0)]) (by decide) rfl ?_
                          have loop_162 : ∀ (d9 : Nat) (k : Nat) (f1 : Nat → Int32), xs.length - k < d9 → k ≤ xs.length → (∀ m, m < k → f1 m = nI (xs.getD m 0)) → Az g mX6_take ct 0 0 162 [some (.ref 35), some (.int 1), some (.int 1), some (.int 1), some (.int (nI k))] [] (wset (wset w 35 (mo 0 (nI xs.length) (nI rs.length) rv (nI ln) pm lo (nI nb.length) (nI op.length) (nI up.length) 0 (nI (([] : List Nat).length)) (nI hl.length))) 39 (ia 32 f1)) := by
                            intro d9
                            induction d9 with
                            | zero => intro k f1 hd9; exact absurd hd9 (Nat.not_lt_zero _)
                            | succ d9 ih_162 =>
                              intro k f1 hd9 hk hp
                              refine r_iload C dX6_take_162 rfl ?_
                              refine r_aload_n C dX6_take_164 rfl ?_
                              refine r_get C dX6_take_165 fgRX6_156 (Nat.le_of_ble_eq_true rfl) (ws_ne (Nat.ne_of_beq_eq_false rfl) ws_eq) rfl ?_
                              refine r_icmp_ge C 292 dX6_take_168 (by decide) (fun c_168 => ?_) (fun c_168 => ?_)
                              · skip
                                have c_168 : xs.length ≤ k := (nI_leI (a := xs.length) (b := k) (by omega) (by omega)).mp c_168
                                refine r_aload_n C dX6_take_292 rfl ?_
                                refine r_get C dX6_take_293 fgRX6_156 (Nat.le_of_ble_eq_true rfl) (ws_ne (Nat.ne_of_beq_eq_false rfl) ws_eq) rfl ?_
                                exact r_ireturn C T_ rfl rfl dX6_take_296 (⟨_, rfl, Or.inr (Or.inr ⟨⟨by decide, by decide⟩, (by unfold tkOk; rw [if_pos (by decide)]; omega), by rw [tkS_1]; exact MW_mk (ws_ne (Nat.ne_of_beq_eq_false rfl) ws_eq) (ws_ne (Nat.ne_of_beq_eq_false rfl) (ws_ne (Nat.ne_of_beq_eq_false rfl) w_36)) h_xs (by first | omega | (simp only [List.length_append, List.length_nil, List.length_cons, List.length_take, List.length_replicate, List.length_range, List.length_map, lof_len, pad_len, padd_len, md5_len, strm_len, strms_len, entOf_len, hif_len] <;> omega)) (ws_ne (Nat.ne_of_beq_eq_false rfl) (ws_ne (Nat.ne_of_beq_eq_false rfl) w_37)) h_rs (by first | omega | (simp only [List.length_append, List.length_nil, List.length_cons, List.length_take, List.length_replicate, List.length_range, List.length_map, lof_len, pad_len, padd_len, md5_len, strm_len, strms_len, entOf_len, hif_len] <;> omega)) (ws_ne (Nat.ne_of_beq_eq_false rfl) (ws_ne (Nat.ne_of_beq_eq_false rfl) w_38)) h_ow (by first | omega | (simp only [List.length_append, List.length_nil, List.length_cons, List.length_take, List.length_replicate, List.length_range, List.length_map, lof_len, pad_len, padd_len, md5_len, strm_len, strms_len, entOf_len, hif_len] <;> omega)) ws_eq (hs_pre (xs := xs) rfl (fun m hm => hp m (by omega)) (fun m hm => rfl)) (by first | omega | (simp only [List.length_append, List.length_nil, List.length_cons, List.length_take, List.length_replicate, List.length_range, List.length_map, lof_len, pad_len, padd_len, md5_len, strm_len, strms_len, entOf_len, hif_len] <;> omega)) (ws_ne (Nat.ne_of_beq_eq_false rfl) (ws_ne (Nat.ne_of_beq_eq_false rfl) w_40)) h_nb (by first | omega | (simp only [List.length_append, List.length_nil, List.length_cons, List.length_take, List.length_replicate, List.length_range, List.length_map, lof_len, pad_len, padd_len, md5_len, strm_len, strms_len, entOf_len, hif_len] <;> omega)) (ws_ne (Nat.ne_of_beq_eq_false rfl) (ws_ne (Nat.ne_of_beq_eq_false rfl) w_41)) h_op (by first | omega | (simp only [List.length_append, List.length_nil, List.length_cons, List.length_take, List.length_replicate, List.length_range, List.length_map, lof_len, pad_len, padd_len, md5_len, strm_len, strms_len, entOf_len, hif_len] <;> omega)) (ws_ne (Nat.ne_of_beq_eq_false rfl) (ws_ne (Nat.ne_of_beq_eq_false rfl) w_42)) h_up (by first | omega | (simp only [List.length_append, List.length_nil, List.length_cons, List.length_take, List.length_replicate, List.length_range, List.length_map, lof_len, pad_len, padd_len, md5_len, strm_len, strms_len, entOf_len, hif_len] <;> omega)) (ws_ne (Nat.ne_of_beq_eq_false rfl) (ws_ne (Nat.ne_of_beq_eq_false rfl) w_43)) (hs_nil _) (by first | omega | (simp only [List.length_append, List.length_nil, List.length_cons, List.length_take, List.length_replicate, List.length_range, List.length_map, lof_len, pad_len, padd_len, md5_len, strm_len, strms_len, entOf_len, hif_len] <;> omega)) (ws_ne (Nat.ne_of_beq_eq_false rfl) (ws_ne (Nat.ne_of_beq_eq_false rfl) w_50)) h_hl (by first | omega | (simp only [List.length_append, List.length_nil, List.length_cons, List.length_take, List.length_replicate, List.length_range, List.length_map, lof_len, pad_len, padd_len, md5_len, strm_len, strms_len, entOf_len, hif_len] <;> omega)) (ws_ne (Nat.ne_of_beq_eq_false rfl) (ws_ne (Nat.ne_of_beq_eq_false rfl) w_44)) (ws_ne (Nat.ne_of_beq_eq_false rfl) (ws_ne (Nat.ne_of_beq_eq_false rfl) w_45)) (ws_ne (Nat.ne_of_beq_eq_false rfl) (ws_ne (Nat.ne_of_beq_eq_false rfl) w_46)) (ws_ne (Nat.ne_of_beq_eq_false rfl) (ws_ne (Nat.ne_of_beq_eq_false rfl) w_47)) hsn (ws_ne (Nat.ne_of_beq_eq_false rfl) (ws_ne (Nat.ne_of_beq_eq_false rfl) w_48)) htn (ws_ne (Nat.ne_of_beq_eq_false rfl) (ws_ne (Nat.ne_of_beq_eq_false rfl) w_49)) hpd (ws_ne (Nat.ne_of_beq_eq_false rfl) (ws_ne (Nat.ne_of_beq_eq_false rfl) w_51)) (ws_ne (Nat.ne_of_beq_eq_false rfl) (ws_ne (Nat.ne_of_beq_eq_false rfl) w_52)) (ws_ne (Nat.ne_of_beq_eq_false rfl) (ws_ne (Nat.ne_of_beq_eq_false rfl) w_53)) (ws_ne (Nat.ne_of_beq_eq_false rfl) (ws_ne (Nat.ne_of_beq_eq_false rfl) w_54)) (ws_ne (Nat.ne_of_beq_eq_false rfl) (ws_ne (Nat.ne_of_beq_eq_false rfl) w_55)) (ws_ne (Nat.ne_of_beq_eq_false rfl) (ws_ne (Nat.ne_of_beq_eq_false rfl) w_56)) (ws_ne (Nat.ne_of_beq_eq_false rfl) (ws_ne (Nat.ne_of_beq_eq_false rfl) w_57)) (ws_ne (Nat.ne_of_beq_eq_false rfl) (ws_ne (Nat.ne_of_beq_eq_false rfl) w_58)) (Or.inl ⟨rfl, rfl⟩), rfl⟩), (frm_set (Nat.le_of_ble_eq_true rfl) (Nat.le_of_ble_eq_true rfl) (frm_set (Nat.le_of_ble_eq_true rfl) (Nat.le_of_ble_eq_true rfl) (frm_rf _)))⟩)
                              · skip
                                have c_168 : ¬ (xs.length ≤ k) := fun h9 => c_168 ((nI_leI (a := xs.length) (b := k) (by omega) (by omega)).mpr h9)
                                refine r_iload_n C dX6_take_171 rfl ?_
                                refine r_tabIn C 221 dX6_take_172 (by decide) (by decide) (off := 49) (by decide) (by decide) ?_
                                refine r_aload_n C dX6_take_221 rfl ?_
                                refine r_get C dX6_take_222 fgRX6_29 (Nat.le_of_ble_eq_true rfl) (ws_ne (Nat.ne_of_beq_eq_false rfl) ws_eq) rfl ?_
                                refine r_iload C dX6_take_225 rfl ?_
                                refine r_aload_n C dX6_take_227 rfl ?_
                                refine r_get C dX6_take_228 fgRX6_7 (Nat.le_of_ble_eq_true rfl) (ws_ne (Nat.ne_of_beq_eq_false rfl) ws_eq) rfl ?_
                                refine r_iload C dX6_take_231 rfl ?_
                                refine r_ialdN C dX6_take_233 (Nat.le_of_ble_eq_true rfl) (ws_ne (Nat.ne_of_beq_eq_false rfl) (ws_ne (Nat.ne_of_beq_eq_false rfl) w_36)) (j := k) rfl (by omega) (by decide) ?_
                                refine r_top (y := nI (xs.getD k 0)) (h_xs _ (by omega)) ?_
                                refine r_iastN C dX6_take_234 (Nat.le_of_ble_eq_true rfl) ws_eq (j := k) rfl (by omega) (by decide) ?_
                                refine r_eq rfl rfl ws_same ?_
                                refine r_goto C 286 dX6_take_235 (by decide) ?_
                                refine r_iinc C dX6_take_286 (v := nI (k + 1)) (L' := [some (.ref 35), some (.int 1), some (.int 1), some (.int 1), some (.int (nI (k + 1)))]) rfl (nI_add k 1) (by decide) rfl ?_
                                refine r_goto C 162 dX6_take_289 (by decide) ?_
                                exact ih_162 (k + 1) _ (by omega) (by omega) (up_lt hp rfl)
                          refine r_eq rfl rfl (ws_self (ws_ne (Nat.ne_of_beq_eq_false rfl) w_39)).symm ?_
                          exact loop_162 _ 0 _ (Nat.lt_succ_self _) (by omega) (fun m hm => absurd hm (Nat.not_lt_zero m))
                        · skip
                          exact absurd c_148 (by decide)
                    · skip
                      exact absurd c_121 (by decide)
                  · skip
                    exact absurd c_101 (by decide)
                · skip
                  exact absurd c_81 (by decide)
              · skip
                exact absurd c_73 (by decide)
            · skip
              exact absurd c_62 (by decide)
          · skip
            exact absurd c_54 (by decide)
set_option maxHeartbeats 4000000 in
set_option maxRecDepth 100000 in
theorem mX6_take9_2 {w : Wo} {fa : Int32} {xs rs : List Nat} {rv : Int32} {ln : Nat} {pm lo : Int32} {ow us nb op up kn : List Nat} (mw : MW fa (xs, rs, rv, ln, pm, lo, ow, us, nb, op, up, kn) w) (ps : PSok (xs, rs, rv, ln, pm, lo, ow, us, nb, op, up, kn)) : Ctr mX6_take [.ref 35, .int 2] w (PI fun r w' => ((¬ tkIn 2 ∧ MW 1 (xs, rs, rv, ln, pm, lo, ow, us, nb, op, up, kn) w' ∧ r = 0) ∨ (tkIn 2 ∧ ¬ tkOk 2 xs ∧ MW 2 (xs, rs, rv, ln, pm, lo, ow, us, nb, op, up, kn) w' ∧ r = 0) ∨ (tkIn 2 ∧ tkOk 2 xs ∧ MW 0 (tkS 2 (xs, rs, rv, ln, pm, lo, ow, us, nb, op, up, kn)) w' ∧ r = nI xs.length)) ∧ frm w w') := by
  refine Ctr_intro okX6_take rfl (Nat.le_of_ble_eq_true rfl) (L := [some (.ref 35), some (.int 2), none, none, none]) rfl (fun g ct C T_ => ?_)
  refine MW_open mw (fun fx fr9 fo fus fn fop fup fk fh hl fm fd vA vB vC vD fsn ftn fpd ft fe fp fot K B SW BK ik w_35 w_36 h_xs k_xs w_37 h_rs k_rs w_38 h_ow k_ow w_39 h_us k_us w_40 h_nb k_nb w_41 h_op k_op w_42 h_up k_up w_43 h_kn k_kn w_50 h_hl k_hl w_44 w_45 w_46 w_47 hsn w_48 htn w_49 hpd w_51 w_52 w_53 w_54 w_55 w_56 w_57 w_58 hik => ?_)
  obtain ⟨bx, br, bo, bu, bn, bp, bq, bk9, lo9, lu9, hkn, hrv, hln, hlo⟩ := ps
  refine r_iload_n C dX6_take_0 rfl ?_
  refine r_if_lt C 13 dX6_take_1 (by decide) (fun c_1 => ?_) (fun c_1 => ?_)
  · skip
    exact absurd c_1 (by decide)
  · skip
    refine r_iload_n C dX6_take_4 rfl ?_
    refine r_iconst C dX6_take_5 (v := 4) (by decide) ?_
    refine r_icmp_gt C 13 dX6_take_6 (by decide) (fun c_6 => ?_) (fun c_6 => ?_)
    · skip
      exact absurd c_6 (by decide)
    · skip
      refine r_iconst C dX6_take_9 (v := 1) (by decide) ?_
      refine r_goto C 14 dX6_take_10 (by decide) ?_
      refine r_istore_n C dX6_take_14 (L' := [some (.ref 35), some (.int 2), some (.int 1), none, none]) (by decide) rfl ?_
      refine r_iload_n C dX6_take_15 rfl ?_
      refine r_iconst C dX6_take_16 (v := 2) (by decide) ?_
      refine r_icmp_ge C 37 dX6_take_17 (by decide) (fun c_17 => ?_) (fun c_17 => ?_)
      · skip
        refine r_aload_n C dX6_take_37 rfl ?_
        refine r_get C dX6_take_38 fgRX6_156 (Nat.le_of_ble_eq_true rfl) w_35 rfl ?_
        refine r_bipush C dX6_take_41 (v := 64) (by decide) ?_
        refine r_icmp_gt C 50 dX6_take_43 (by decide) (fun c_43 => ?_) (fun c_43 => ?_)
        · skip
          have c_43 : 64 < xs.length := (nI_ltI (a := 64) (b := xs.length) (by omega) (by omega)).mp c_43
          refine r_iconst C dX6_take_50 (v := 0) (by decide) ?_
          refine r_istore_n C dX6_take_51 (L' := [some (.ref 35), some (.int 2), some (.int 1), some (.int 0), none]) (by decide) rfl ?_
          refine r_aload_n C dX6_take_52 rfl ?_
          refine r_iload_n C dX6_take_53 rfl ?_
          refine r_if_ne C 61 dX6_take_54 (by decide) (fun c_54 => ?_) (fun c_54 => ?_)
          · skip
            refine r_iload_n C dX6_take_61 rfl ?_
            refine r_if_ne C 69 dX6_take_62 (by decide) (fun c_62 => ?_) (fun c_62 => ?_)
            · skip
              exact absurd c_62 (by decide)
            · skip
              refine r_iconst C dX6_take_65 (v := 2) (by decide) ?_
              refine r_goto C 70 dX6_take_66 (by decide) ?_
              refine r_callVi C (As := [.int 2]) (rest := []) dX6_take_70 (cX6_refused9 w_35 (p1 := 2)) okX6_refused mlRX6_159 imX6_refused seX6_refused ⟨by decide, by decide⟩ rfl rfl (Nat.le_of_ble_eq_true rfl) w_35 rfl rfl (Nat.le_of_ble_eq_true rfl) (by decide) (by decide) (fun r_1 w9 h9 => ?_)
              obtain ⟨rfl, er_⟩ := h9
              have er_ : r_1 = 1 := er_.trans (if_neg (by decide))
              subst er_
              refine r_if_eq C 78 dX6_take_73 (by decide) (fun c_73 => ?_) (fun c_73 => ?_)
              · skip
                exact absurd c_73 (by decide)
              · skip
                refine r_iconst C dX6_take_76 (v := 0) (by decide) ?_
                exact r_ireturn C T_ rfl rfl dX6_take_77 (⟨_, rfl, Or.inr (Or.inl ⟨⟨by decide, by decide⟩, fun z => absurd (show xs.length ≤ 64 from by unfold tkOk at z; rw [if_neg (by decide)] at z; exact z) (by omega), MW_mk ws_eq (ws_ne (Nat.ne_of_beq_eq_false rfl) w_36) h_xs (by first | omega | (simp only [List.length_append, List.length_nil, List.length_cons, List.length_take, List.length_replicate, List.length_range, List.length_map, lof_len, pad_len, padd_len, md5_len, strm_len, strms_len, entOf_len, hif_len] <;> omega)) (ws_ne (Nat.ne_of_beq_eq_false rfl) w_37) h_rs (by first | omega | (simp only [List.length_append, List.length_nil, List.length_cons, List.length_take, List.length_replicate, List.length_range, List.length_map, lof_len, pad_len, padd_len, md5_len, strm_len, strms_len, entOf_len, hif_len] <;> omega)) (ws_ne (Nat.ne_of_beq_eq_false rfl) w_38) h_ow (by first | omega | (simp only [List.length_append, List.length_nil, List.length_cons, List.length_take, List.length_replicate, List.length_range, List.length_map, lof_len, pad_len, padd_len, md5_len, strm_len, strms_len, entOf_len, hif_len] <;> omega)) (ws_ne (Nat.ne_of_beq_eq_false rfl) w_39) h_us (by first | omega | (simp only [List.length_append, List.length_nil, List.length_cons, List.length_take, List.length_replicate, List.length_range, List.length_map, lof_len, pad_len, padd_len, md5_len, strm_len, strms_len, entOf_len, hif_len] <;> omega)) (ws_ne (Nat.ne_of_beq_eq_false rfl) w_40) h_nb (by first | omega | (simp only [List.length_append, List.length_nil, List.length_cons, List.length_take, List.length_replicate, List.length_range, List.length_map, lof_len, pad_len, padd_len, md5_len, strm_len, strms_len, entOf_len, hif_len] <;> omega)) (ws_ne (Nat.ne_of_beq_eq_false rfl) w_41) h_op (by first | omega | (simp only [List.length_append, List.length_nil, List.length_cons, List.length_take, List.length_replicate, List.length_range, List.length_map, lof_len, pad_len, padd_len, md5_len, strm_len, strms_len, entOf_len, hif_len] <;> omega)) (ws_ne (Nat.ne_of_beq_eq_false rfl) w_42) h_up (by first | omega | (simp only [List.length_append, List.length_nil, List.length_cons, List.length_take, List.length_replicate, List.length_range, List.length_map, lof_len, pad_len, padd_len, md5_len, strm_len, strms_len, entOf_len, hif_len] <;> omega)) (ws_ne (Nat.ne_of_beq_eq_false rfl) w_43) h_kn (by first | omega | (simp only [List.length_append, List.length_nil, List.length_cons, List.length_take, List.length_replicate, List.length_range, List.length_map, lof_len, pad_len, padd_len, md5_len, strm_len, strms_len, entOf_len, hif_len] <;> omega)) (ws_ne (Nat.ne_of_beq_eq_false rfl) w_50) h_hl (by first | omega | (simp only [List.length_append, List.length_nil, List.length_cons, List.length_take, List.length_replicate, List.length_range, List.length_map, lof_len, pad_len, padd_len, md5_len, strm_len, strms_len, entOf_len, hif_len] <;> omega)) (ws_ne (Nat.ne_of_beq_eq_false rfl) w_44) (ws_ne (Nat.ne_of_beq_eq_false rfl) w_45) (ws_ne (Nat.ne_of_beq_eq_false rfl) w_46) (ws_ne (Nat.ne_of_beq_eq_false rfl) w_47) hsn (ws_ne (Nat.ne_of_beq_eq_false rfl) w_48) htn (ws_ne (Nat.ne_of_beq_eq_false rfl) w_49) hpd (ws_ne (Nat.ne_of_beq_eq_false rfl) w_51) (ws_ne (Nat.ne_of_beq_eq_false rfl) w_52) (ws_ne (Nat.ne_of_beq_eq_false rfl) w_53) (ws_ne (Nat.ne_of_beq_eq_false rfl) w_54) (ws_ne (Nat.ne_of_beq_eq_false rfl) w_55) (ws_ne (Nat.ne_of_beq_eq_false rfl) w_56) (ws_ne (Nat.ne_of_beq_eq_false rfl) w_57) (ws_ne (Nat.ne_of_beq_eq_false rfl) w_58) hik, rfl⟩), (frm_set (Nat.le_of_ble_eq_true rfl) (Nat.le_of_ble_eq_true rfl) (frm_rf _))⟩)
          · skip
            exact absurd c_54 (by decide)
        · skip
          have c_43 : ¬ (64 < xs.length) := fun h9 => c_43 ((nI_ltI (a := 64) (b := xs.length) (by omega) (by omega)).mpr h9)
          refine r_iconst C dX6_take_46 (v := 1) (by decide) ?_
          refine r_goto C 51 dX6_take_47 (by decide) ?_
          refine r_istore_n C dX6_take_51 (L' := [some (.ref 35), some (.int 2), some (.int 1), some (.int 1), none]) (by decide) rfl ?_
          refine r_aload_n C dX6_take_52 rfl ?_
          refine r_iload_n C dX6_take_53 rfl ?_
          refine r_if_ne C 61 dX6_take_54 (by decide) (fun c_54 => ?_) (fun c_54 => ?_)
          · skip
            refine r_iload_n C dX6_take_61 rfl ?_
            refine r_if_ne C 69 dX6_take_62 (by decide) (fun c_62 => ?_) (fun c_62 => ?_)
            · skip
              refine r_iconst C dX6_take_69 (v := 0) (by decide) ?_
              refine r_callVi C (As := [.int 0]) (rest := []) dX6_take_70 (cX6_refused9 w_35 (p1 := 0)) okX6_refused mlRX6_159 imX6_refused seX6_refused ⟨by decide, by decide⟩ rfl rfl (Nat.le_of_ble_eq_true rfl) w_35 rfl rfl (Nat.le_of_ble_eq_true rfl) (by decide) (by decide) (fun r_2 w9 h9 => ?_)
              obtain ⟨rfl, er_⟩ := h9
              have er_ : r_2 = 0 := er_.trans (if_pos (by decide))
              subst er_
              refine r_if_eq C 78 dX6_take_73 (by decide) (fun c_73 => ?_) (fun c_73 => ?_)
              · skip
                refine r_aload_n C dX6_take_78 rfl ?_
                refine r_iload_n C dX6_take_79 rfl ?_
                refine r_iconst C dX6_take_80 (v := 2) (by decide) ?_
                refine r_icmp_ne C 91 dX6_take_81 (by decide) (fun c_81 => ?_) (fun c_81 => ?_)
                · skip
                  exact absurd c_81 (by decide)
                · skip
                  refine r_aload_n C dX6_take_84 rfl ?_
                  refine r_get C dX6_take_85 fgRX6_156 (Nat.le_of_ble_eq_true rfl) ws_eq rfl ?_
                  refine r_goto C 95 dX6_take_88 (by decide) ?_
                  refine r_put C dX6_take_95 fpRX6_203 (Nat.le_of_ble_eq_true rfl) ws_eq rfl rfl (Nat.le_of_ble_eq_true rfl) (fs' := [.int 0, .int (nI xs.length), .ref 36, .int (nI rs.length), .ref 37, .int rv, .int (nI ln), .int pm, .int lo, .ref 38, .ref 39, .int (nI xs.length), .ref 40, .int (nI op.length), .ref 41, .int (nI up.length), .ref 42, .int ik, .ref 43, .int (nI (([] : List Nat).length)), .ref 44, .ref 45, .ref 46, .ref 47, .ref 48, .ref 49, .int (nI hl.length), .ref 50, .ref 51, .ref 52, .ref 53, .ref 54, .ref 55, .ref 56, .ref 57, .ref 58]) rfl ?_
                  refine r_eq rfl rfl ws_same ?_
                  refine r_aload_n C dX6_take_98 rfl ?_
                  refine r_iload_n C dX6_take_99 rfl ?_
                  refine r_iconst C dX6_take_100 (v := 3) (by decide) ?_
                  refine r_icmp_ne C 111 dX6_take_101 (by decide) (fun c_101 => ?_) (fun c_101 => ?_)
                  · skip
                    refine r_aload_n C dX6_take_111 rfl ?_
                    refine r_get C dX6_take_112 fgRX6_197 (Nat.le_of_ble_eq_true rfl) ws_eq rfl ?_
                    refine r_put C dX6_take_115 fpRX6_197 (Nat.le_of_ble_eq_true rfl) ws_eq rfl rfl (Nat.le_of_ble_eq_true rfl) (fs' := [.int 0, .int (nI xs.length), .ref 36, .int (nI rs.length), .ref 37, .int rv, .int (nI ln), .int pm, .int lo, .ref 38, .ref 39, .int (nI xs.length), .ref 40, .int (nI op.length), .ref 41, .int (nI up.length), .ref 42, .int ik, .ref 43, .int (nI (([] : List Nat).length)), .ref 44, .ref 45, .ref 46, .ref 47, .ref 48, .ref 49, .int (nI hl.length), .ref 50, .ref 51, .ref 52, .ref 53, .ref 54, .ref 55, .ref 56, .ref 57, .ref 58]) rfl ?_
                    refine r_eq rfl rfl ws_same ?_
                    refine r_aload_n C dX6_take_118 rfl ?_
                    refine r_iload_n C dX6_take_119 rfl ?_
                    refine r_iconst C dX6_take_120 (v := 4) (by decide) ?_
                    refine r_icmp_ne C 131 dX6_take_121 (by decide) (fun c_121 => ?_) (fun c_121 => ?_)
                    · skip
                      refine r_aload_n C dX6_take_131 rfl ?_
                      refine r_get C dX6_take_132 fgRX6_200 (Nat.le_of_ble_eq_true rfl) ws_eq rfl ?_
                      refine r_put C dX6_take_135 fpRX6_200 (Nat.le_of_ble_eq_true rfl) ws_eq rfl rfl (Nat.le_of_ble_eq_true rfl) (fs' := [.int 0, .int (nI xs.length), .ref 36, .int (nI rs.length), .ref 37, .int rv, .int (nI ln), .int pm, .int lo, .ref 38, .ref 39, .int (nI xs.length), .ref 40, .int (nI op.length), .ref 41, .int (nI up.length), .ref 42, .int ik, .ref 43, .int (nI (([] : List Nat).length)), .ref 44, .ref 45, .ref 46, .ref 47, .ref 48, .ref 49, .int (nI hl.length), .ref 50, .ref 51, .ref 52, .ref 53, .ref 54, .ref 55, .ref 56, .ref 57, .ref 58]) rfl ?_
                      refine r_eq rfl rfl ws_same ?_
                      refine r_aload_n C dX6_take_138 rfl ?_
                      refine r_aload_n C dX6_take_139 rfl ?_
                      refine r_get C dX6_take_140 fgRX6_220 (Nat.le_of_ble_eq_true rfl) ws_eq rfl ?_
                      refine r_if_eq C 155 dX6_take_143 (by decide) (fun c_143 => ?_) (fun c_143 => ?_)
                      · skip
                        refine r_iconst C dX6_take_155 (v := 0) (by decide) ?_
                        refine r_put C dX6_take_156 fpRX6_220 (Nat.le_of_ble_eq_true rfl) ws_eq (by decide) (by decide) (Nat.le_of_ble_eq_true rfl) (fs' := [.int 0, .int (nI xs.length), .ref 36, .int (nI rs.length), .ref 37, .int rv, .int (nI ln), .int pm, .int lo, .ref 38, .ref 39, .int (nI xs.length), .ref 40, .int (nI op.length), .ref 41, .int (nI up.length), .ref 42, .int 0, .ref 43, .int (nI (([] : List Nat).length)), .ref 44, .ref 45, .ref 46, .ref 47, .ref 48, .ref 49, .int (nI hl.length), .ref 50, .ref 51, .ref 52, .ref 53, .ref 54, .ref 55, .ref 56, .ref 57, .ref 58]) rfl ?_
                        refine r_eq rfl rfl ws_same ?_
                        refine r_iconst C dX6_take_159 (v := 0) (by decide) ?_
                        refine r_istore C dX6_take_160 (L' := [some (.ref 35), some (.int 2), some (.int 1), some (.int 1), some (.int 0)]) (by decide) rfl ?_
                        have loop_162 : ∀ (d9 : Nat) (k : Nat) (f1 : Nat → Int32), xs.length - k < d9 → k ≤ xs.length → (∀ m, m < k → f1 m = nI (xs.getD m 0)) → Az g mX6_take ct 0 0 162 [some (.ref 35), some (.int 2), some (.int 1), some (.int 1), some (.int (nI k))] [] (wset (wset w 35 (mo 0 (nI xs.length) (nI rs.length) rv (nI ln) pm lo (nI xs.length) (nI op.length) (nI up.length) 0 (nI (([] : List Nat).length)) (nI hl.length))) 40 (ia 64 f1)) := by
                          intro d9
                          induction d9 with
                          | zero => intro k f1 hd9; exact absurd hd9 (Nat.not_lt_zero _)
                          | succ d9 ih_162 =>
                            intro k f1 hd9 hk hp
                            refine r_iload C dX6_take_162 rfl ?_
                            refine r_aload_n C dX6_take_164 rfl ?_
                            refine r_get C dX6_take_165 fgRX6_156 (Nat.le_of_ble_eq_true rfl) (ws_ne (Nat.ne_of_beq_eq_false rfl) ws_eq) rfl ?_
                            refine r_icmp_ge C 292 dX6_take_168 (by decide) (fun c_168 => ?_) (fun c_168 => ?_)
                            · skip
                              have c_168 : xs.length ≤ k := (nI_leI (a := xs.length) (b := k) (by omega) (by omega)).mp c_168
                              refine r_aload_n C dX6_take_292 rfl ?_
                              refine r_get C dX6_take_293 fgRX6_156 (Nat.le_of_ble_eq_true rfl) (ws_ne (Nat.ne_of_beq_eq_false rfl) ws_eq) rfl ?_
                              exact r_ireturn C T_ rfl rfl dX6_take_296 (⟨_, rfl, Or.inr (Or.inr ⟨⟨by decide, by decide⟩, (by unfold tkOk; rw [if_neg (by decide)]; omega), by rw [tkS_2]; exact MW_mk (ws_ne (Nat.ne_of_beq_eq_false rfl) ws_eq) (ws_ne (Nat.ne_of_beq_eq_false rfl) (ws_ne (Nat.ne_of_beq_eq_false rfl) w_36)) h_xs (by first | omega | (simp only [List.length_append, List.length_nil, List.length_cons, List.length_take, List.length_replicate, List.length_range, List.length_map, lof_len, pad_len, padd_len, md5_len, strm_len, strms_len, entOf_len, hif_len] <;> omega)) (ws_ne (Nat.ne_of_beq_eq_false rfl) (ws_ne (Nat.ne_of_beq_eq_false rfl) w_37)) h_rs (by first | omega | (simp only [List.length_append, List.length_nil, List.length_cons, List.length_take, List.length_replicate, List.length_range, List.length_map, lof_len, pad_len, padd_len, md5_len, strm_len, strms_len, entOf_len, hif_len] <;> omega)) (ws_ne (Nat.ne_of_beq_eq_false rfl) (ws_ne (Nat.ne_of_beq_eq_false rfl) w_38)) h_ow (by first | omega | (simp only [List.length_append, List.length_nil, List.length_cons, List.length_take, List.length_replicate, List.length_range, List.length_map, lof_len, pad_len, padd_len, md5_len, strm_len, strms_len, entOf_len, hif_len] <;> omega)) (ws_ne (Nat.ne_of_beq_eq_false rfl) (ws_ne (Nat.ne_of_beq_eq_false rfl) w_39)) h_us (by first | omega | (simp only [List.length_append, List.length_nil, List.length_cons, List.length_take, List.length_replicate, List.length_range, List.length_map, lof_len, pad_len, padd_len, md5_len, strm_len, strms_len, entOf_len, hif_len] <;> omega)) ws_eq (hs_pre (xs := xs) rfl (fun m hm => hp m (by omega)) (fun m hm => rfl)) (by first | omega | (simp only [List.length_append, List.length_nil, List.length_cons, List.length_take, List.length_replicate, List.length_range, List.length_map, lof_len, pad_len, padd_len, md5_len, strm_len, strms_len, entOf_len, hif_len] <;> omega)) (ws_ne (Nat.ne_of_beq_eq_false rfl) (ws_ne (Nat.ne_of_beq_eq_false rfl) w_41)) h_op (by first | omega | (simp only [List.length_append, List.length_nil, List.length_cons, List.length_take, List.length_replicate, List.length_range, List.length_map, lof_len, pad_len, padd_len, md5_len, strm_len, strms_len, entOf_len, hif_len] <;> omega)) (ws_ne (Nat.ne_of_beq_eq_false rfl) (ws_ne (Nat.ne_of_beq_eq_false rfl) w_42)) h_up (by first | omega | (simp only [List.length_append, List.length_nil, List.length_cons, List.length_take, List.length_replicate, List.length_range, List.length_map, lof_len, pad_len, padd_len, md5_len, strm_len, strms_len, entOf_len, hif_len] <;> omega)) (ws_ne (Nat.ne_of_beq_eq_false rfl) (ws_ne (Nat.ne_of_beq_eq_false rfl) w_43)) (hs_nil _) (by first | omega | (simp only [List.length_append, List.length_nil, List.length_cons, List.length_take, List.length_replicate, List.length_range, List.length_map, lof_len, pad_len, padd_len, md5_len, strm_len, strms_len, entOf_len, hif_len] <;> omega)) (ws_ne (Nat.ne_of_beq_eq_false rfl) (ws_ne (Nat.ne_of_beq_eq_false rfl) w_50)) h_hl (by first | omega | (simp only [List.length_append, List.length_nil, List.length_cons, List.length_take, List.length_replicate, List.length_range, List.length_map, lof_len, pad_len, padd_len, md5_len, strm_len, strms_len, entOf_len, hif_len] <;> omega)) (ws_ne (Nat.ne_of_beq_eq_false rfl) (ws_ne (Nat.ne_of_beq_eq_false rfl) w_44)) (ws_ne (Nat.ne_of_beq_eq_false rfl) (ws_ne (Nat.ne_of_beq_eq_false rfl) w_45)) (ws_ne (Nat.ne_of_beq_eq_false rfl) (ws_ne (Nat.ne_of_beq_eq_false rfl) w_46)) (ws_ne (Nat.ne_of_beq_eq_false rfl) (ws_ne (Nat.ne_of_beq_eq_false rfl) w_47)) hsn (ws_ne (Nat.ne_of_beq_eq_false rfl) (ws_ne (Nat.ne_of_beq_eq_false rfl) w_48)) htn (ws_ne (Nat.ne_of_beq_eq_false rfl) (ws_ne (Nat.ne_of_beq_eq_false rfl) w_49)) hpd (ws_ne (Nat.ne_of_beq_eq_false rfl) (ws_ne (Nat.ne_of_beq_eq_false rfl) w_51)) (ws_ne (Nat.ne_of_beq_eq_false rfl) (ws_ne (Nat.ne_of_beq_eq_false rfl) w_52)) (ws_ne (Nat.ne_of_beq_eq_false rfl) (ws_ne (Nat.ne_of_beq_eq_false rfl) w_53)) (ws_ne (Nat.ne_of_beq_eq_false rfl) (ws_ne (Nat.ne_of_beq_eq_false rfl) w_54)) (ws_ne (Nat.ne_of_beq_eq_false rfl) (ws_ne (Nat.ne_of_beq_eq_false rfl) w_55)) (ws_ne (Nat.ne_of_beq_eq_false rfl) (ws_ne (Nat.ne_of_beq_eq_false rfl) w_56)) (ws_ne (Nat.ne_of_beq_eq_false rfl) (ws_ne (Nat.ne_of_beq_eq_false rfl) w_57)) (ws_ne (Nat.ne_of_beq_eq_false rfl) (ws_ne (Nat.ne_of_beq_eq_false rfl) w_58)) (Or.inl ⟨rfl, rfl⟩), rfl⟩), (frm_set (Nat.le_of_ble_eq_true rfl) (Nat.le_of_ble_eq_true rfl) (frm_set (Nat.le_of_ble_eq_true rfl) (Nat.le_of_ble_eq_true rfl) (frm_rf _)))⟩)
                            · skip
                              have c_168 : ¬ (xs.length ≤ k) := fun h9 => c_168 ((nI_leI (a := xs.length) (b := k) (by omega) (by omega)).mpr h9)
                              refine r_iload_n C dX6_take_171 rfl ?_
                              refine r_tabIn C 238 dX6_take_172 (by decide) (by decide) (off := 66) (by decide) (by decide) ?_
                              refine r_aload_n C dX6_take_238 rfl ?_
                              refine r_get C dX6_take_239 fgRX6_32 (Nat.le_of_ble_eq_true rfl) (ws_ne (Nat.ne_of_beq_eq_false rfl) ws_eq) rfl ?_
                              refine r_iload C dX6_take_242 rfl ?_
                              refine r_aload_n C dX6_take_244 rfl ?_
                              refine r_get C dX6_take_245 fgRX6_7 (Nat.le_of_ble_eq_true rfl) (ws_ne (Nat.ne_of_beq_eq_false rfl) ws_eq) rfl ?_
                              refine r_iload C dX6_take_248 rfl ?_
                              refine r_ialdN C dX6_take_250 (Nat.le_of_ble_eq_true rfl) (ws_ne (Nat.ne_of_beq_eq_false rfl) (ws_ne (Nat.ne_of_beq_eq_false rfl) w_36)) (j := k) rfl (by omega) (by decide) ?_
                              refine r_top (y := nI (xs.getD k 0)) (h_xs _ (by omega)) ?_
                              refine r_iastN C dX6_take_251 (Nat.le_of_ble_eq_true rfl) ws_eq (j := k) rfl (by omega) (by decide) ?_
                              refine r_eq rfl rfl ws_same ?_
                              refine r_goto C 286 dX6_take_252 (by decide) ?_
                              refine r_iinc C dX6_take_286 (v := nI (k + 1)) (L' := [some (.ref 35), some (.int 2), some (.int 1), some (.int 1), some (.int (nI (k + 1)))]) rfl (nI_add k 1) (by decide) rfl ?_
                              refine r_goto C 162 dX6_take_289 (by decide) ?_
                              exact ih_162 (k + 1) _ (by omega) (by omega) (up_lt hp rfl)
                        refine r_eq rfl rfl (ws_self (ws_ne (Nat.ne_of_beq_eq_false rfl) w_40)).symm ?_
                        exact loop_162 _ 0 _ (Nat.lt_succ_self _) (by omega) (fun m hm => absurd hm (Nat.not_lt_zero m))
                      · skip
                        refine r_iload_n C dX6_take_146 rfl ?_
                        refine r_iconst C dX6_take_147 (v := 2) (by decide) ?_
                        refine r_icmp_le C 155 dX6_take_148 (by decide) (fun c_148 => ?_) (fun c_148 => ?_)
                        · skip
                          refine r_iconst C dX6_take_155 (v := 0) (by decide) ?_
                          refine r_put C dX6_take_156 fpRX6_220 (Nat.le_of_ble_eq_true rfl) ws_eq (by decide) (by decide) (Nat.le_of_ble_eq_true rfl) (fs' := [.int 0, .int (nI xs.length), .ref 36, .int (nI rs.length), .ref 37, .int rv, .int (nI ln), .int pm, .int lo, .ref 38, .ref 39, .int (nI xs.length), .ref 40, .int (nI op.length), .ref 41, .int (nI up.length), .ref 42, .int 0, .ref 43, .int (nI (([] : List Nat).length)), .ref 44, .ref 45, .ref 46, .ref 47, .ref 48, .ref 49, .int (nI hl.length), .ref 50, .ref 51, .ref 52, .ref 53, .ref 54, .ref 55, .ref 56, .ref 57, .ref 58]) rfl ?_
                          refine r_eq rfl rfl ws_same ?_
                          refine r_iconst C dX6_take_159 (v := 0) (by decide) ?_
                          refine r_istore C dX6_take_160 (L' := [some (.ref 35), some (.int 2), some (.int 1), some (.int 1), some (.int 0)]) (by decide) rfl ?_
                          have loop_162 : ∀ (d9 : Nat) (k : Nat) (f1 : Nat → Int32), xs.length - k < d9 → k ≤ xs.length → (∀ m, m < k → f1 m = nI (xs.getD m 0)) → Az g mX6_take ct 0 0 162 [some (.ref 35), some (.int 2), some (.int 1), some (.int 1), some (.int (nI k))] [] (wset (wset w 35 (mo 0 (nI xs.length) (nI rs.length) rv (nI ln) pm lo (nI xs.length) (nI op.length) (nI up.length) 0 (nI (([] : List Nat).length)) (nI hl.length))) 40 (ia 64 f1)) := by
                            intro d9
                            induction d9 with
                            | zero => intro k f1 hd9; exact absurd hd9 (Nat.not_lt_zero _)
                            | succ d9 ih_162 =>
                              intro k f1 hd9 hk hp
                              refine r_iload C dX6_take_162 rfl ?_
                              refine r_aload_n C dX6_take_164 rfl ?_
                              refine r_get C dX6_take_165 fgRX6_156 (Nat.le_of_ble_eq_true rfl) (ws_ne (Nat.ne_of_beq_eq_false rfl) ws_eq) rfl ?_
                              refine r_icmp_ge C 292 dX6_take_168 (by decide) (fun c_168 => ?_) (fun c_168 => ?_)
                              · skip
                                have c_168 : xs.length ≤ k := (nI_leI (a := xs.length) (b := k) (by omega) (by omega)).mp c_168
                                refine r_aload_n C dX6_take_292 rfl ?_
                                refine r_get C dX6_take_293 fgRX6_156 (Nat.le_of_ble_eq_true rfl) (ws_ne (Nat.ne_of_beq_eq_false rfl) ws_eq) rfl ?_
                                exact r_ireturn C T_ rfl rfl dX6_take_296 (⟨_, rfl, Or.inr (Or.inr ⟨⟨by decide, by decide⟩, (by unfold tkOk; rw [if_neg (by decide)]; omega), by rw [tkS_2]; exact MW_mk (ws_ne (Nat.ne_of_beq_eq_false rfl) ws_eq) (ws_ne (Nat.ne_of_beq_eq_false rfl) (ws_ne (Nat.ne_of_beq_eq_false rfl) w_36)) h_xs (by first | omega | (simp only [List.length_append, List.length_nil, List.length_cons, List.length_take, List.length_replicate, List.length_range, List.length_map, lof_len, pad_len, padd_len, md5_len, strm_len, strms_len, entOf_len, hif_len] <;> omega)) (ws_ne (Nat.ne_of_beq_eq_false rfl) (ws_ne (Nat.ne_of_beq_eq_false rfl) w_37)) h_rs (by first | omega | (simp only [List.length_append, List.length_nil, List.length_cons, List.length_take, List.length_replicate, List.length_range, List.length_map, lof_len, pad_len, padd_len, md5_len, strm_len, strms_len, entOf_len, hif_len] <;> omega)) (ws_ne (Nat.ne_of_beq_eq_false rfl) (ws_ne (Nat.ne_of_beq_eq_false rfl) w_38)) h_ow (by first | omega | (simp only [List.length_append, List.length_nil, List.length_cons, List.length_take, List.length_replicate, List.length_range, List.length_map, lof_len, pad_len, padd_len, md5_len, strm_len, strms_len, entOf_len, hif_len] <;> omega)) (ws_ne (Nat.ne_of_beq_eq_false rfl) (ws_ne (Nat.ne_of_beq_eq_false rfl) w_39)) h_us (by first | omega | (simp only [List.length_append, List.length_nil, List.length_cons, List.length_take, List.length_replicate, List.length_range, List.length_map, lof_len, pad_len, padd_len, md5_len, strm_len, strms_len, entOf_len, hif_len] <;> omega)) ws_eq (hs_pre (xs := xs) rfl (fun m hm => hp m (by omega)) (fun m hm => rfl)) (by first | omega | (simp only [List.length_append, List.length_nil, List.length_cons, List.length_take, List.length_replicate, List.length_range, List.length_map, lof_len, pad_len, padd_len, md5_len, strm_len, strms_len, entOf_len, hif_len] <;> omega)) (ws_ne (Nat.ne_of_beq_eq_false rfl) (ws_ne (Nat.ne_of_beq_eq_false rfl) w_41)) h_op (by first | omega | (simp only [List.length_append, List.length_nil, List.length_cons, List.length_take, List.length_replicate, List.length_range, List.length_map, lof_len, pad_len, padd_len, md5_len, strm_len, strms_len, entOf_len, hif_len] <;> omega)) (ws_ne (Nat.ne_of_beq_eq_false rfl) (ws_ne (Nat.ne_of_beq_eq_false rfl) w_42)) h_up (by first | omega | (simp only [List.length_append, List.length_nil, List.length_cons, List.length_take, List.length_replicate, List.length_range, List.length_map, lof_len, pad_len, padd_len, md5_len, strm_len, strms_len, entOf_len, hif_len] <;> omega)) (ws_ne (Nat.ne_of_beq_eq_false rfl) (ws_ne (Nat.ne_of_beq_eq_false rfl) w_43)) (hs_nil _) (by first | omega | (simp only [List.length_append, List.length_nil, List.length_cons, List.length_take, List.length_replicate, List.length_range, List.length_map, lof_len, pad_len, padd_len, md5_len, strm_len, strms_len, entOf_len, hif_len] <;> omega)) (ws_ne (Nat.ne_of_beq_eq_false rfl) (ws_ne (Nat.ne_of_beq_eq_false rfl) w_50)) h_hl (by first | omega | (simp only [List.length_append, List.length_nil, List.length_cons, List.length_take, List.length_replicate, List.length_range, List.length_map, lof_len, pad_len, padd_len, md5_len, strm_len, strms_len, entOf_len, hif_len] <;> omega)) (ws_ne (Nat.ne_of_beq_eq_false rfl) (ws_ne (Nat.ne_of_beq_eq_false rfl) w_44)) (ws_ne (Nat.ne_of_beq_eq_false rfl) (ws_ne (Nat.ne_of_beq_eq_false rfl) w_45)) (ws_ne (Nat.ne_of_beq_eq_false rfl) (ws_ne (Nat.ne_of_beq_eq_false rfl) w_46)) (ws_ne (Nat.ne_of_beq_eq_false rfl) (ws_ne (Nat.ne_of_beq_eq_false rfl) w_47)) hsn (ws_ne (Nat.ne_of_beq_eq_false rfl) (ws_ne (Nat.ne_of_beq_eq_false rfl) w_48)) htn (ws_ne (Nat.ne_of_beq_eq_false rfl) (ws_ne (Nat.ne_of_beq_eq_false rfl) w_49)) hpd (ws_ne (Nat.ne_of_beq_eq_false rfl) (ws_ne (Nat.ne_of_beq_eq_false rfl) w_51)) (ws_ne (Nat.ne_of_beq_eq_false rfl) (ws_ne (Nat.ne_of_beq_eq_false rfl) w_52)) (ws_ne (Nat.ne_of_beq_eq_false rfl) (ws_ne (Nat.ne_of_beq_eq_false rfl) w_53)) (ws_ne (Nat.ne_of_beq_eq_false rfl) (ws_ne (Nat.ne_of_beq_eq_false rfl) w_54)) (ws_ne (Nat.ne_of_beq_eq_false rfl) (ws_ne (Nat.ne_of_beq_eq_false rfl) w_55)) (ws_ne (Nat.ne_of_beq_eq_false rfl) (ws_ne (Nat.ne_of_beq_eq_false rfl) w_56)) (ws_ne (Nat.ne_of_beq_eq_false rfl) (ws_ne (Nat.ne_of_beq_eq_false rfl) w_57)) (ws_ne (Nat.ne_of_beq_eq_false rfl) (ws_ne (Nat.ne_of_beq_eq_false rfl) w_58)) (Or.inl ⟨rfl, rfl⟩), rfl⟩), (frm_set (Nat.le_of_ble_eq_true rfl) (Nat.le_of_ble_eq_true rfl) (frm_set (Nat.le_of_ble_eq_true rfl) (Nat.le_of_ble_eq_true rfl) (frm_rf _)))⟩)
                              · skip
                                have c_168 : ¬ (xs.length ≤ k) := fun h9 => c_168 ((nI_leI (a := xs.length) (b := k) (by omega) (by omega)).mpr h9)
                                refine r_iload_n C dX6_take_171 rfl ?_
                                refine r_tabIn C 238 dX6_take_172 (by decide) (by decide) (off := 66) (by decide) (by decide) ?_
                                refine r_aload_n C dX6_take_238 rfl ?_
                                refine r_get C dX6_take_239 fgRX6_32 (Nat.le_of_ble_eq_true rfl) (ws_ne (Nat.ne_of_beq_eq_false rfl) ws_eq) rfl ?_
                                refine r_iload C dX6_take_242 rfl ?_
                                refine r_aload_n C dX6_take_244 rfl ?_
                                refine r_get C dX6_take_245 fgRX6_7 (Nat.le_of_ble_eq_true rfl) (ws_ne (Nat.ne_of_beq_eq_false rfl) ws_eq) rfl ?_
                                refine r_iload C dX6_take_248 rfl ?_
                                refine r_ialdN C dX6_take_250 (Nat.le_of_ble_eq_true rfl) (ws_ne (Nat.ne_of_beq_eq_false rfl) (ws_ne (Nat.ne_of_beq_eq_false rfl) w_36)) (j := k) rfl (by omega) (by decide) ?_
                                refine r_top (y := nI (xs.getD k 0)) (h_xs _ (by omega)) ?_
                                refine r_iastN C dX6_take_251 (Nat.le_of_ble_eq_true rfl) ws_eq (j := k) rfl (by omega) (by decide) ?_
                                refine r_eq rfl rfl ws_same ?_
                                refine r_goto C 286 dX6_take_252 (by decide) ?_
                                refine r_iinc C dX6_take_286 (v := nI (k + 1)) (L' := [some (.ref 35), some (.int 2), some (.int 1), some (.int 1), some (.int (nI (k + 1)))]) rfl (nI_add k 1) (by decide) rfl ?_
                                refine r_goto C 162 dX6_take_289 (by decide) ?_
                                exact ih_162 (k + 1) _ (by omega) (by omega) (up_lt hp rfl)
                          refine r_eq rfl rfl (ws_self (ws_ne (Nat.ne_of_beq_eq_false rfl) w_40)).symm ?_
                          exact loop_162 _ 0 _ (Nat.lt_succ_self _) (by omega) (fun m hm => absurd hm (Nat.not_lt_zero m))
                        · skip
                          exact absurd c_148 (by decide)
                    · skip
                      exact absurd c_121 (by decide)
                  · skip
                    exact absurd c_101 (by decide)
              · skip
                exact absurd c_73 (by decide)
            · skip
              exact absurd c_62 (by decide)
          · skip
            exact absurd c_54 (by decide)
      · skip
        exact absurd c_17 (by decide)
set_option maxHeartbeats 4000000 in
set_option maxRecDepth 100000 in
theorem mX6_take9_3 {w : Wo} {fa : Int32} {xs rs : List Nat} {rv : Int32} {ln : Nat} {pm lo : Int32} {ow us nb op up kn : List Nat} (mw : MW fa (xs, rs, rv, ln, pm, lo, ow, us, nb, op, up, kn) w) (ps : PSok (xs, rs, rv, ln, pm, lo, ow, us, nb, op, up, kn)) : Ctr mX6_take [.ref 35, .int 3] w (PI fun r w' => ((¬ tkIn 3 ∧ MW 1 (xs, rs, rv, ln, pm, lo, ow, us, nb, op, up, kn) w' ∧ r = 0) ∨ (tkIn 3 ∧ ¬ tkOk 3 xs ∧ MW 2 (xs, rs, rv, ln, pm, lo, ow, us, nb, op, up, kn) w' ∧ r = 0) ∨ (tkIn 3 ∧ tkOk 3 xs ∧ MW 0 (tkS 3 (xs, rs, rv, ln, pm, lo, ow, us, nb, op, up, kn)) w' ∧ r = nI xs.length)) ∧ frm w w') := by
  refine Ctr_intro okX6_take rfl (Nat.le_of_ble_eq_true rfl) (L := [some (.ref 35), some (.int 3), none, none, none]) rfl (fun g ct C T_ => ?_)
  refine MW_open mw (fun fx fr9 fo fus fn fop fup fk fh hl fm fd vA vB vC vD fsn ftn fpd ft fe fp fot K B SW BK ik w_35 w_36 h_xs k_xs w_37 h_rs k_rs w_38 h_ow k_ow w_39 h_us k_us w_40 h_nb k_nb w_41 h_op k_op w_42 h_up k_up w_43 h_kn k_kn w_50 h_hl k_hl w_44 w_45 w_46 w_47 hsn w_48 htn w_49 hpd w_51 w_52 w_53 w_54 w_55 w_56 w_57 w_58 hik => ?_)
  obtain ⟨bx, br, bo, bu, bn, bp, bq, bk9, lo9, lu9, hkn, hrv, hln, hlo⟩ := ps
  refine r_iload_n C dX6_take_0 rfl ?_
  refine r_if_lt C 13 dX6_take_1 (by decide) (fun c_1 => ?_) (fun c_1 => ?_)
  · skip
    exact absurd c_1 (by decide)
  · skip
    refine r_iload_n C dX6_take_4 rfl ?_
    refine r_iconst C dX6_take_5 (v := 4) (by decide) ?_
    refine r_icmp_gt C 13 dX6_take_6 (by decide) (fun c_6 => ?_) (fun c_6 => ?_)
    · skip
      exact absurd c_6 (by decide)
    · skip
      refine r_iconst C dX6_take_9 (v := 1) (by decide) ?_
      refine r_goto C 14 dX6_take_10 (by decide) ?_
      refine r_istore_n C dX6_take_14 (L' := [some (.ref 35), some (.int 3), some (.int 1), none, none]) (by decide) rfl ?_
      refine r_iload_n C dX6_take_15 rfl ?_
      refine r_iconst C dX6_take_16 (v := 2) (by decide) ?_
      refine r_icmp_ge C 37 dX6_take_17 (by decide) (fun c_17 => ?_) (fun c_17 => ?_)
      · skip
        refine r_aload_n C dX6_take_37 rfl ?_
        refine r_get C dX6_take_38 fgRX6_156 (Nat.le_of_ble_eq_true rfl) w_35 rfl ?_
        refine r_bipush C dX6_take_41 (v := 64) (by decide) ?_
        refine r_icmp_gt C 50 dX6_take_43 (by decide) (fun c_43 => ?_) (fun c_43 => ?_)
        · skip
          have c_43 : 64 < xs.length := (nI_ltI (a := 64) (b := xs.length) (by omega) (by omega)).mp c_43
          refine r_iconst C dX6_take_50 (v := 0) (by decide) ?_
          refine r_istore_n C dX6_take_51 (L' := [some (.ref 35), some (.int 3), some (.int 1), some (.int 0), none]) (by decide) rfl ?_
          refine r_aload_n C dX6_take_52 rfl ?_
          refine r_iload_n C dX6_take_53 rfl ?_
          refine r_if_ne C 61 dX6_take_54 (by decide) (fun c_54 => ?_) (fun c_54 => ?_)
          · skip
            refine r_iload_n C dX6_take_61 rfl ?_
            refine r_if_ne C 69 dX6_take_62 (by decide) (fun c_62 => ?_) (fun c_62 => ?_)
            · skip
              exact absurd c_62 (by decide)
            · skip
              refine r_iconst C dX6_take_65 (v := 2) (by decide) ?_
              refine r_goto C 70 dX6_take_66 (by decide) ?_
              refine r_callVi C (As := [.int 2]) (rest := []) dX6_take_70 (cX6_refused9 w_35 (p1 := 2)) okX6_refused mlRX6_159 imX6_refused seX6_refused ⟨by decide, by decide⟩ rfl rfl (Nat.le_of_ble_eq_true rfl) w_35 rfl rfl (Nat.le_of_ble_eq_true rfl) (by decide) (by decide) (fun r_1 w9 h9 => ?_)
              obtain ⟨rfl, er_⟩ := h9
              have er_ : r_1 = 1 := er_.trans (if_neg (by decide))
              subst er_
              refine r_if_eq C 78 dX6_take_73 (by decide) (fun c_73 => ?_) (fun c_73 => ?_)
              · skip
                exact absurd c_73 (by decide)
              · skip
                refine r_iconst C dX6_take_76 (v := 0) (by decide) ?_
                exact r_ireturn C T_ rfl rfl dX6_take_77 (⟨_, rfl, Or.inr (Or.inl ⟨⟨by decide, by decide⟩, fun z => absurd (show xs.length ≤ 64 from by unfold tkOk at z; rw [if_neg (by decide)] at z; exact z) (by omega), MW_mk ws_eq (ws_ne (Nat.ne_of_beq_eq_false rfl) w_36) h_xs (by first | omega | (simp only [List.length_append, List.length_nil, List.length_cons, List.length_take, List.length_replicate, List.length_range, List.length_map, lof_len, pad_len, padd_len, md5_len, strm_len, strms_len, entOf_len, hif_len] <;> omega)) (ws_ne (Nat.ne_of_beq_eq_false rfl) w_37) h_rs (by first | omega | (simp only [List.length_append, List.length_nil, List.length_cons, List.length_take, List.length_replicate, List.length_range, List.length_map, lof_len, pad_len, padd_len, md5_len, strm_len, strms_len, entOf_len, hif_len] <;> omega)) (ws_ne (Nat.ne_of_beq_eq_false rfl) w_38) h_ow (by first | omega | (simp only [List.length_append, List.length_nil, List.length_cons, List.length_take, List.length_replicate, List.length_range, List.length_map, lof_len, pad_len, padd_len, md5_len, strm_len, strms_len, entOf_len, hif_len] <;> omega)) (ws_ne (Nat.ne_of_beq_eq_false rfl) w_39) h_us (by first | omega | (simp only [List.length_append, List.length_nil, List.length_cons, List.length_take, List.length_replicate, List.length_range, List.length_map, lof_len, pad_len, padd_len, md5_len, strm_len, strms_len, entOf_len, hif_len] <;> omega)) (ws_ne (Nat.ne_of_beq_eq_false rfl) w_40) h_nb (by first | omega | (simp only [List.length_append, List.length_nil, List.length_cons, List.length_take, List.length_replicate, List.length_range, List.length_map, lof_len, pad_len, padd_len, md5_len, strm_len, strms_len, entOf_len, hif_len] <;> omega)) (ws_ne (Nat.ne_of_beq_eq_false rfl) w_41) h_op (by first | omega | (simp only [List.length_append, List.length_nil, List.length_cons, List.length_take, List.length_replicate, List.length_range, List.length_map, lof_len, pad_len, padd_len, md5_len, strm_len, strms_len, entOf_len, hif_len] <;> omega)) (ws_ne (Nat.ne_of_beq_eq_false rfl) w_42) h_up (by first | omega | (simp only [List.length_append, List.length_nil, List.length_cons, List.length_take, List.length_replicate, List.length_range, List.length_map, lof_len, pad_len, padd_len, md5_len, strm_len, strms_len, entOf_len, hif_len] <;> omega)) (ws_ne (Nat.ne_of_beq_eq_false rfl) w_43) h_kn (by first | omega | (simp only [List.length_append, List.length_nil, List.length_cons, List.length_take, List.length_replicate, List.length_range, List.length_map, lof_len, pad_len, padd_len, md5_len, strm_len, strms_len, entOf_len, hif_len] <;> omega)) (ws_ne (Nat.ne_of_beq_eq_false rfl) w_50) h_hl (by first | omega | (simp only [List.length_append, List.length_nil, List.length_cons, List.length_take, List.length_replicate, List.length_range, List.length_map, lof_len, pad_len, padd_len, md5_len, strm_len, strms_len, entOf_len, hif_len] <;> omega)) (ws_ne (Nat.ne_of_beq_eq_false rfl) w_44) (ws_ne (Nat.ne_of_beq_eq_false rfl) w_45) (ws_ne (Nat.ne_of_beq_eq_false rfl) w_46) (ws_ne (Nat.ne_of_beq_eq_false rfl) w_47) hsn (ws_ne (Nat.ne_of_beq_eq_false rfl) w_48) htn (ws_ne (Nat.ne_of_beq_eq_false rfl) w_49) hpd (ws_ne (Nat.ne_of_beq_eq_false rfl) w_51) (ws_ne (Nat.ne_of_beq_eq_false rfl) w_52) (ws_ne (Nat.ne_of_beq_eq_false rfl) w_53) (ws_ne (Nat.ne_of_beq_eq_false rfl) w_54) (ws_ne (Nat.ne_of_beq_eq_false rfl) w_55) (ws_ne (Nat.ne_of_beq_eq_false rfl) w_56) (ws_ne (Nat.ne_of_beq_eq_false rfl) w_57) (ws_ne (Nat.ne_of_beq_eq_false rfl) w_58) hik, rfl⟩), (frm_set (Nat.le_of_ble_eq_true rfl) (Nat.le_of_ble_eq_true rfl) (frm_rf _))⟩)
          · skip
            exact absurd c_54 (by decide)
        · skip
          have c_43 : ¬ (64 < xs.length) := fun h9 => c_43 ((nI_ltI (a := 64) (b := xs.length) (by omega) (by omega)).mpr h9)
          refine r_iconst C dX6_take_46 (v := 1) (by decide) ?_
          refine r_goto C 51 dX6_take_47 (by decide) ?_
          refine r_istore_n C dX6_take_51 (L' := [some (.ref 35), some (.int 3), some (.int 1), some (.int 1), none]) (by decide) rfl ?_
          refine r_aload_n C dX6_take_52 rfl ?_
          refine r_iload_n C dX6_take_53 rfl ?_
          refine r_if_ne C 61 dX6_take_54 (by decide) (fun c_54 => ?_) (fun c_54 => ?_)
          · skip
            refine r_iload_n C dX6_take_61 rfl ?_
            refine r_if_ne C 69 dX6_take_62 (by decide) (fun c_62 => ?_) (fun c_62 => ?_)
            · skip
              refine r_iconst C dX6_take_69 (v := 0) (by decide) ?_
              refine r_callVi C (As := [.int 0]) (rest := []) dX6_take_70 (cX6_refused9 w_35 (p1 := 0)) okX6_refused mlRX6_159 imX6_refused seX6_refused ⟨by decide, by decide⟩ rfl rfl (Nat.le_of_ble_eq_true rfl) w_35 rfl rfl (Nat.le_of_ble_eq_true rfl) (by decide) (by decide) (fun r_2 w9 h9 => ?_)
              obtain ⟨rfl, er_⟩ := h9
              have er_ : r_2 = 0 := er_.trans (if_pos (by decide))
              subst er_
              refine r_if_eq C 78 dX6_take_73 (by decide) (fun c_73 => ?_) (fun c_73 => ?_)
              · skip
                refine r_aload_n C dX6_take_78 rfl ?_
                refine r_iload_n C dX6_take_79 rfl ?_
                refine r_iconst C dX6_take_80 (v := 2) (by decide) ?_
                refine r_icmp_ne C 91 dX6_take_81 (by decide) (fun c_81 => ?_) (fun c_81 => ?_)
                · skip
                  refine r_aload_n C dX6_take_91 rfl ?_
                  refine r_get C dX6_take_92 fgRX6_203 (Nat.le_of_ble_eq_true rfl) ws_eq rfl ?_
                  refine r_put C dX6_take_95 fpRX6_203 (Nat.le_of_ble_eq_true rfl) ws_eq rfl rfl (Nat.le_of_ble_eq_true rfl) (fs' := [.int 0, .int (nI xs.length), .ref 36, .int (nI rs.length), .ref 37, .int rv, .int (nI ln), .int pm, .int lo, .ref 38, .ref 39, .int (nI nb.length), .ref 40, .int (nI op.length), .ref 41, .int (nI up.length), .ref 42, .int ik, .ref 43, .int (nI (([] : List Nat).length)), .ref 44, .ref 45, .ref 46, .ref 47, .ref 48, .ref 49, .int (nI hl.length), .ref 50, .ref 51, .ref 52, .ref 53, .ref 54, .ref 55, .ref 56, .ref 57, .ref 58]) rfl ?_
                  refine r_eq rfl rfl ws_same ?_
                  refine r_aload_n C dX6_take_98 rfl ?_
                  refine r_iload_n C dX6_take_99 rfl ?_
                  refine r_iconst C dX6_take_100 (v := 3) (by decide) ?_
                  refine r_icmp_ne C 111 dX6_take_101 (by decide) (fun c_101 => ?_) (fun c_101 => ?_)
                  · skip
                    exact absurd c_101 (by decide)
                  · skip
                    refine r_aload_n C dX6_take_104 rfl ?_
                    refine r_get C dX6_take_105 fgRX6_156 (Nat.le_of_ble_eq_true rfl) ws_eq rfl ?_
                    refine r_goto C 115 dX6_take_108 (by decide) ?_
                    refine r_put C dX6_take_115 fpRX6_197 (Nat.le_of_ble_eq_true rfl) ws_eq rfl rfl (Nat.le_of_ble_eq_true rfl) (fs' := [.int 0, .int (nI xs.length), .ref 36, .int (nI rs.length), .ref 37, .int rv, .int (nI ln), .int pm, .int lo, .ref 38, .ref 39, .int (nI nb.length), .ref 40, .int (nI xs.length), .ref 41, .int (nI up.length), .ref 42, .int ik, .ref 43, .int (nI (([] : List Nat).length)), .ref 44, .ref 45, .ref 46, .ref 47, .ref 48, .ref 49, .int (nI hl.length), .ref 50, .ref 51, .ref 52, .ref 53, .ref 54, .ref 55, .ref 56, .ref 57, .ref 58]) rfl ?_
                    refine r_eq rfl rfl ws_same ?_
                    refine r_aload_n C dX6_take_118 rfl ?_
                    refine r_iload_n C dX6_take_119 rfl ?_
                    refine r_iconst C dX6_take_120 (v := 4) (by decide) ?_
                    refine r_icmp_ne C 131 dX6_take_121 (by decide) (fun c_121 => ?_) (fun c_121 => ?_)
                    · skip
                      refine r_aload_n C dX6_take_131 rfl ?_
                      refine r_get C dX6_take_132 fgRX6_200 (Nat.le_of_ble_eq_true rfl) ws_eq rfl ?_
                      refine r_put C dX6_take_135 fpRX6_200 (Nat.le_of_ble_eq_true rfl) ws_eq rfl rfl (Nat.le_of_ble_eq_true rfl) (fs' := [.int 0, .int (nI xs.length), .ref 36, .int (nI rs.length), .ref 37, .int rv, .int (nI ln), .int pm, .int lo, .ref 38, .ref 39, .int (nI nb.length), .ref 40, .int (nI xs.length), .ref 41, .int (nI up.length), .ref 42, .int ik, .ref 43, .int (nI (([] : List Nat).length)), .ref 44, .ref 45, .ref 46, .ref 47, .ref 48, .ref 49, .int (nI hl.length), .ref 50, .ref 51, .ref 52, .ref 53, .ref 54, .ref 55, .ref 56, .ref 57, .ref 58]) rfl ?_
                      refine r_eq rfl rfl ws_same ?_
                      refine r_aload_n C dX6_take_138 rfl ?_
                      refine r_aload_n C dX6_take_139 rfl ?_
                      refine r_get C dX6_take_140 fgRX6_220 (Nat.le_of_ble_eq_true rfl) ws_eq rfl ?_
                      refine r_if_eq C 155 dX6_take_143 (by decide) (fun c_143 => ?_) (fun c_143 => ?_)
                      · skip
                        refine r_iconst C dX6_take_155 (v := 0) (by decide) ?_
                        refine r_put C dX6_take_156 fpRX6_220 (Nat.le_of_ble_eq_true rfl) ws_eq (by decide) (by decide) (Nat.le_of_ble_eq_true rfl) (fs' := [.int 0, .int (nI xs.length), .ref 36, .int (nI rs.length), .ref 37, .int rv, .int (nI ln), .int pm, .int lo, .ref 38, .ref 39, .int (nI nb.length), .ref 40, .int (nI xs.length), .ref 41, .int (nI up.length), .ref 42, .int 0, .ref 43, .int (nI (([] : List Nat).length)), .ref 44, .ref 45, .ref 46, .ref 47, .ref 48, .ref 49, .int (nI hl.length), .ref 50, .ref 51, .ref 52, .ref 53, .ref 54, .ref 55, .ref 56, .ref 57, .ref 58]) rfl ?_
                        refine r_eq rfl rfl ws_same ?_
                        refine r_iconst C dX6_take_159 (v := 0) (by decide) ?_
                        refine r_istore C dX6_take_160 (L' := [some (.ref 35), some (.int 3), some (.int 1), some (.int 1), some (.int 0)]) (by decide) rfl ?_
                        have loop_162 : ∀ (d9 : Nat) (k : Nat) (f1 : Nat → Int32), xs.length - k < d9 → k ≤ xs.length → (∀ m, m < k → f1 m = nI (xs.getD m 0)) → Az g mX6_take ct 0 0 162 [some (.ref 35), some (.int 3), some (.int 1), some (.int 1), some (.int (nI k))] [] (wset (wset w 35 (mo 0 (nI xs.length) (nI rs.length) rv (nI ln) pm lo (nI nb.length) (nI xs.length) (nI up.length) 0 (nI (([] : List Nat).length)) (nI hl.length))) 41 (ia 64 f1)) := by
                          intro d9
                          induction d9 with
                          | zero => intro k f1 hd9; exact absurd hd9 (Nat.not_lt_zero _)
                          | succ d9 ih_162 =>
                            intro k f1 hd9 hk hp
                            refine r_iload C dX6_take_162 rfl ?_
                            refine r_aload_n C dX6_take_164 rfl ?_
                            refine r_get C dX6_take_165 fgRX6_156 (Nat.le_of_ble_eq_true rfl) (ws_ne (Nat.ne_of_beq_eq_false rfl) ws_eq) rfl ?_
                            refine r_icmp_ge C 292 dX6_take_168 (by decide) (fun c_168 => ?_) (fun c_168 => ?_)
                            · skip
                              have c_168 : xs.length ≤ k := (nI_leI (a := xs.length) (b := k) (by omega) (by omega)).mp c_168
                              refine r_aload_n C dX6_take_292 rfl ?_
                              refine r_get C dX6_take_293 fgRX6_156 (Nat.le_of_ble_eq_true rfl) (ws_ne (Nat.ne_of_beq_eq_false rfl) ws_eq) rfl ?_
                              exact r_ireturn C T_ rfl rfl dX6_take_296 (⟨_, rfl, Or.inr (Or.inr ⟨⟨by decide, by decide⟩, (by unfold tkOk; rw [if_neg (by decide)]; omega), by rw [tkS_3]; exact MW_mk (ws_ne (Nat.ne_of_beq_eq_false rfl) ws_eq) (ws_ne (Nat.ne_of_beq_eq_false rfl) (ws_ne (Nat.ne_of_beq_eq_false rfl) w_36)) h_xs (by first | omega | (simp only [List.length_append, List.length_nil, List.length_cons, List.length_take, List.length_replicate, List.length_range, List.length_map, lof_len, pad_len, padd_len, md5_len, strm_len, strms_len, entOf_len, hif_len] <;> omega)) (ws_ne (Nat.ne_of_beq_eq_false rfl) (ws_ne (Nat.ne_of_beq_eq_false rfl) w_37)) h_rs (by first | omega | (simp only [List.length_append, List.length_nil, List.length_cons, List.length_take, List.length_replicate, List.length_range, List.length_map, lof_len, pad_len, padd_len, md5_len, strm_len, strms_len, entOf_len, hif_len] <;> omega)) (ws_ne (Nat.ne_of_beq_eq_false rfl) (ws_ne (Nat.ne_of_beq_eq_false rfl) w_38)) h_ow (by first | omega | (simp only [List.length_append, List.length_nil, List.length_cons, List.length_take, List.length_replicate, List.length_range, List.length_map, lof_len, pad_len, padd_len, md5_len, strm_len, strms_len, entOf_len, hif_len] <;> omega)) (ws_ne (Nat.ne_of_beq_eq_false rfl) (ws_ne (Nat.ne_of_beq_eq_false rfl) w_39)) h_us (by first | omega | (simp only [List.length_append, List.length_nil, List.length_cons, List.length_take, List.length_replicate, List.length_range, List.length_map, lof_len, pad_len, padd_len, md5_len, strm_len, strms_len, entOf_len, hif_len] <;> omega)) (ws_ne (Nat.ne_of_beq_eq_false rfl) (ws_ne (Nat.ne_of_beq_eq_false rfl) w_40)) h_nb (by first | omega | (simp only [List.length_append, List.length_nil, List.length_cons, List.length_take, List.length_replicate, List.length_range, List.length_map, lof_len, pad_len, padd_len, md5_len, strm_len, strms_len, entOf_len, hif_len] <;> omega)) ws_eq (hs_pre (xs := xs) rfl (fun m hm => hp m (by omega)) (fun m hm => rfl)) (by first | omega | (simp only [List.length_append, List.length_nil, List.length_cons, List.length_take, List.length_replicate, List.length_range, List.length_map, lof_len, pad_len, padd_len, md5_len, strm_len, strms_len, entOf_len, hif_len] <;> omega)) (ws_ne (Nat.ne_of_beq_eq_false rfl) (ws_ne (Nat.ne_of_beq_eq_false rfl) w_42)) h_up (by first | omega | (simp only [List.length_append, List.length_nil, List.length_cons, List.length_take, List.length_replicate, List.length_range, List.length_map, lof_len, pad_len, padd_len, md5_len, strm_len, strms_len, entOf_len, hif_len] <;> omega)) (ws_ne (Nat.ne_of_beq_eq_false rfl) (ws_ne (Nat.ne_of_beq_eq_false rfl) w_43)) h_kn (by first | omega | (simp only [List.length_append, List.length_nil, List.length_cons, List.length_take, List.length_replicate, List.length_range, List.length_map, lof_len, pad_len, padd_len, md5_len, strm_len, strms_len, entOf_len, hif_len] <;> omega)) (ws_ne (Nat.ne_of_beq_eq_false rfl) (ws_ne (Nat.ne_of_beq_eq_false rfl) w_50)) h_hl (by first | omega | (simp only [List.length_append, List.length_nil, List.length_cons, List.length_take, List.length_replicate, List.length_range, List.length_map, lof_len, pad_len, padd_len, md5_len, strm_len, strms_len, entOf_len, hif_len] <;> omega)) (ws_ne (Nat.ne_of_beq_eq_false rfl) (ws_ne (Nat.ne_of_beq_eq_false rfl) w_44)) (ws_ne (Nat.ne_of_beq_eq_false rfl) (ws_ne (Nat.ne_of_beq_eq_false rfl) w_45)) (ws_ne (Nat.ne_of_beq_eq_false rfl) (ws_ne (Nat.ne_of_beq_eq_false rfl) w_46)) (ws_ne (Nat.ne_of_beq_eq_false rfl) (ws_ne (Nat.ne_of_beq_eq_false rfl) w_47)) hsn (ws_ne (Nat.ne_of_beq_eq_false rfl) (ws_ne (Nat.ne_of_beq_eq_false rfl) w_48)) htn (ws_ne (Nat.ne_of_beq_eq_false rfl) (ws_ne (Nat.ne_of_beq_eq_false rfl) w_49)) hpd (ws_ne (Nat.ne_of_beq_eq_false rfl) (ws_ne (Nat.ne_of_beq_eq_false rfl) w_51)) (ws_ne (Nat.ne_of_beq_eq_false rfl) (ws_ne (Nat.ne_of_beq_eq_false rfl) w_52)) (ws_ne (Nat.ne_of_beq_eq_false rfl) (ws_ne (Nat.ne_of_beq_eq_false rfl) w_53)) (ws_ne (Nat.ne_of_beq_eq_false rfl) (ws_ne (Nat.ne_of_beq_eq_false rfl) w_54)) (ws_ne (Nat.ne_of_beq_eq_false rfl) (ws_ne (Nat.ne_of_beq_eq_false rfl) w_55)) (ws_ne (Nat.ne_of_beq_eq_false rfl) (ws_ne (Nat.ne_of_beq_eq_false rfl) w_56)) (ws_ne (Nat.ne_of_beq_eq_false rfl) (ws_ne (Nat.ne_of_beq_eq_false rfl) w_57)) (ws_ne (Nat.ne_of_beq_eq_false rfl) (ws_ne (Nat.ne_of_beq_eq_false rfl) w_58)) (Or.inl ⟨(hik.resolve_right (fun z => absurd (z.2.symm.trans c_143) (by decide))).1, rfl⟩), rfl⟩), (frm_set (Nat.le_of_ble_eq_true rfl) (Nat.le_of_ble_eq_true rfl) (frm_set (Nat.le_of_ble_eq_true rfl) (Nat.le_of_ble_eq_true rfl) (frm_rf _)))⟩)
                            · skip
                              have c_168 : ¬ (xs.length ≤ k) := fun h9 => c_168 ((nI_leI (a := xs.length) (b := k) (by omega) (by omega)).mpr h9)
                              refine r_iload_n C dX6_take_171 rfl ?_
                              refine r_tabIn C 255 dX6_take_172 (by decide) (by decide) (off := 83) (by decide) (by decide) ?_
                              refine r_aload_n C dX6_take_255 rfl ?_
                              refine r_get C dX6_take_256 fgRX6_35 (Nat.le_of_ble_eq_true rfl) (ws_ne (Nat.ne_of_beq_eq_false rfl) ws_eq) rfl ?_
                              refine r_iload C dX6_take_259 rfl ?_
                              refine r_aload_n C dX6_take_261 rfl ?_
                              refine r_get C dX6_take_262 fgRX6_7 (Nat.le_of_ble_eq_true rfl) (ws_ne (Nat.ne_of_beq_eq_false rfl) ws_eq) rfl ?_
                              refine r_iload C dX6_take_265 rfl ?_
                              refine r_ialdN C dX6_take_267 (Nat.le_of_ble_eq_true rfl) (ws_ne (Nat.ne_of_beq_eq_false rfl) (ws_ne (Nat.ne_of_beq_eq_false rfl) w_36)) (j := k) rfl (by omega) (by decide) ?_
                              refine r_top (y := nI (xs.getD k 0)) (h_xs _ (by omega)) ?_
                              refine r_iastN C dX6_take_268 (Nat.le_of_ble_eq_true rfl) ws_eq (j := k) rfl (by omega) (by decide) ?_
                              refine r_eq rfl rfl ws_same ?_
                              refine r_goto C 286 dX6_take_269 (by decide) ?_
                              refine r_iinc C dX6_take_286 (v := nI (k + 1)) (L' := [some (.ref 35), some (.int 3), some (.int 1), some (.int 1), some (.int (nI (k + 1)))]) rfl (nI_add k 1) (by decide) rfl ?_
                              refine r_goto C 162 dX6_take_289 (by decide) ?_
                              exact ih_162 (k + 1) _ (by omega) (by omega) (up_lt hp rfl)
                        refine r_eq rfl rfl (ws_self (ws_ne (Nat.ne_of_beq_eq_false rfl) w_41)).symm ?_
                        exact loop_162 _ 0 _ (Nat.lt_succ_self _) (by omega) (fun m hm => absurd hm (Nat.not_lt_zero m))
                      · skip
                        refine r_iload_n C dX6_take_146 rfl ?_
                        refine r_iconst C dX6_take_147 (v := 2) (by decide) ?_
                        refine r_icmp_le C 155 dX6_take_148 (by decide) (fun c_148 => ?_) (fun c_148 => ?_)
                        · skip
                          exact absurd c_148 (by decide)
                        · skip
                          refine r_iconst C dX6_take_151 (v := 1) (by decide) ?_
                          refine r_goto C 156 dX6_take_152 (by decide) ?_
                          refine r_put C dX6_take_156 fpRX6_220 (Nat.le_of_ble_eq_true rfl) ws_eq (by decide) (by decide) (Nat.le_of_ble_eq_true rfl) (fs' := [.int 0, .int (nI xs.length), .ref 36, .int (nI rs.length), .ref 37, .int rv, .int (nI ln), .int pm, .int lo, .ref 38, .ref 39, .int (nI nb.length), .ref 40, .int (nI xs.length), .ref 41, .int (nI up.length), .ref 42, .int 1, .ref 43, .int (nI (([] : List Nat).length)), .ref 44, .ref 45, .ref 46, .ref 47, .ref 48, .ref 49, .int (nI hl.length), .ref 50, .ref 51, .ref 52, .ref 53, .ref 54, .ref 55, .ref 56, .ref 57, .ref 58]) rfl ?_
                          refine r_eq rfl rfl ws_same ?_
                          refine r_iconst C dX6_take_159 (v := 0) (by decide) ?_
                          refine r_istore C dX6_take_160 (L' := [some (.ref 35), some (.int 3), some (.int 1), some (.int 1), some (.int 0)]) (by decide) rfl ?_
                          have loop_162 : ∀ (d9 : Nat) (k : Nat) (f1 : Nat → Int32), xs.length - k < d9 → k ≤ xs.length → (∀ m, m < k → f1 m = nI (xs.getD m 0)) → Az g mX6_take ct 0 0 162 [some (.ref 35), some (.int 3), some (.int 1), some (.int 1), some (.int (nI k))] [] (wset (wset w 35 (mo 0 (nI xs.length) (nI rs.length) rv (nI ln) pm lo (nI nb.length) (nI xs.length) (nI up.length) 1 (nI (([] : List Nat).length)) (nI hl.length))) 41 (ia 64 f1)) := by
                            intro d9
                            induction d9 with
                            | zero => intro k f1 hd9; exact absurd hd9 (Nat.not_lt_zero _)
                            | succ d9 ih_162 =>
                              intro k f1 hd9 hk hp
                              refine r_iload C dX6_take_162 rfl ?_
                              refine r_aload_n C dX6_take_164 rfl ?_
                              refine r_get C dX6_take_165 fgRX6_156 (Nat.le_of_ble_eq_true rfl) (ws_ne (Nat.ne_of_beq_eq_false rfl) ws_eq) rfl ?_
                              refine r_icmp_ge C 292 dX6_take_168 (by decide) (fun c_168 => ?_) (fun c_168 => ?_)
                              · skip
                                have c_168 : xs.length ≤ k := (nI_leI (a := xs.length) (b := k) (by omega) (by omega)).mp c_168
                                refine r_aload_n C dX6_take_292 rfl ?_
                                refine r_get C dX6_take_293 fgRX6_156 (Nat.le_of_ble_eq_true rfl) (ws_ne (Nat.ne_of_beq_eq_false rfl) ws_eq) rfl ?_
                                exact r_ireturn C T_ rfl rfl dX6_take_296 (⟨_, rfl, Or.inr (Or.inr ⟨⟨by decide, by decide⟩, (by unfold tkOk; rw [if_neg (by decide)]; omega), by rw [tkS_3]; exact MW_mk (ws_ne (Nat.ne_of_beq_eq_false rfl) ws_eq) (ws_ne (Nat.ne_of_beq_eq_false rfl) (ws_ne (Nat.ne_of_beq_eq_false rfl) w_36)) h_xs (by first | omega | (simp only [List.length_append, List.length_nil, List.length_cons, List.length_take, List.length_replicate, List.length_range, List.length_map, lof_len, pad_len, padd_len, md5_len, strm_len, strms_len, entOf_len, hif_len] <;> omega)) (ws_ne (Nat.ne_of_beq_eq_false rfl) (ws_ne (Nat.ne_of_beq_eq_false rfl) w_37)) h_rs (by first | omega | (simp only [List.length_append, List.length_nil, List.length_cons, List.length_take, List.length_replicate, List.length_range, List.length_map, lof_len, pad_len, padd_len, md5_len, strm_len, strms_len, entOf_len, hif_len] <;> omega)) (ws_ne (Nat.ne_of_beq_eq_false rfl) (ws_ne (Nat.ne_of_beq_eq_false rfl) w_38)) h_ow (by first | omega | (simp only [List.length_append, List.length_nil, List.length_cons, List.length_take, List.length_replicate, List.length_range, List.length_map, lof_len, pad_len, padd_len, md5_len, strm_len, strms_len, entOf_len, hif_len] <;> omega)) (ws_ne (Nat.ne_of_beq_eq_false rfl) (ws_ne (Nat.ne_of_beq_eq_false rfl) w_39)) h_us (by first | omega | (simp only [List.length_append, List.length_nil, List.length_cons, List.length_take, List.length_replicate, List.length_range, List.length_map, lof_len, pad_len, padd_len, md5_len, strm_len, strms_len, entOf_len, hif_len] <;> omega)) (ws_ne (Nat.ne_of_beq_eq_false rfl) (ws_ne (Nat.ne_of_beq_eq_false rfl) w_40)) h_nb (by first | omega | (simp only [List.length_append, List.length_nil, List.length_cons, List.length_take, List.length_replicate, List.length_range, List.length_map, lof_len, pad_len, padd_len, md5_len, strm_len, strms_len, entOf_len, hif_len] <;> omega)) ws_eq (hs_pre (xs := xs) rfl (fun m hm => hp m (by omega)) (fun m hm => rfl)) (by first | omega | (simp only [List.length_append, List.length_nil, List.length_cons, List.length_take, List.length_replicate, List.length_range, List.length_map, lof_len, pad_len, padd_len, md5_len, strm_len, strms_len, entOf_len, hif_len] <;> omega)) (ws_ne (Nat.ne_of_beq_eq_false rfl) (ws_ne (Nat.ne_of_beq_eq_false rfl) w_42)) h_up (by first | omega | (simp only [List.length_append, List.length_nil, List.length_cons, List.length_take, List.length_replicate, List.length_range, List.length_map, lof_len, pad_len, padd_len, md5_len, strm_len, strms_len, entOf_len, hif_len] <;> omega)) (ws_ne (Nat.ne_of_beq_eq_false rfl) (ws_ne (Nat.ne_of_beq_eq_false rfl) w_43)) h_kn (by first | omega | (simp only [List.length_append, List.length_nil, List.length_cons, List.length_take, List.length_replicate, List.length_range, List.length_map, lof_len, pad_len, padd_len, md5_len, strm_len, strms_len, entOf_len, hif_len] <;> omega)) (ws_ne (Nat.ne_of_beq_eq_false rfl) (ws_ne (Nat.ne_of_beq_eq_false rfl) w_50)) h_hl (by first | omega | (simp only [List.length_append, List.length_nil, List.length_cons, List.length_take, List.length_replicate, List.length_range, List.length_map, lof_len, pad_len, padd_len, md5_len, strm_len, strms_len, entOf_len, hif_len] <;> omega)) (ws_ne (Nat.ne_of_beq_eq_false rfl) (ws_ne (Nat.ne_of_beq_eq_false rfl) w_44)) (ws_ne (Nat.ne_of_beq_eq_false rfl) (ws_ne (Nat.ne_of_beq_eq_false rfl) w_45)) (ws_ne (Nat.ne_of_beq_eq_false rfl) (ws_ne (Nat.ne_of_beq_eq_false rfl) w_46)) (ws_ne (Nat.ne_of_beq_eq_false rfl) (ws_ne (Nat.ne_of_beq_eq_false rfl) w_47)) hsn (ws_ne (Nat.ne_of_beq_eq_false rfl) (ws_ne (Nat.ne_of_beq_eq_false rfl) w_48)) htn (ws_ne (Nat.ne_of_beq_eq_false rfl) (ws_ne (Nat.ne_of_beq_eq_false rfl) w_49)) hpd (ws_ne (Nat.ne_of_beq_eq_false rfl) (ws_ne (Nat.ne_of_beq_eq_false rfl) w_51)) (ws_ne (Nat.ne_of_beq_eq_false rfl) (ws_ne (Nat.ne_of_beq_eq_false rfl) w_52)) (ws_ne (Nat.ne_of_beq_eq_false rfl) (ws_ne (Nat.ne_of_beq_eq_false rfl) w_53)) (ws_ne (Nat.ne_of_beq_eq_false rfl) (ws_ne (Nat.ne_of_beq_eq_false rfl) w_54)) (ws_ne (Nat.ne_of_beq_eq_false rfl) (ws_ne (Nat.ne_of_beq_eq_false rfl) w_55)) (ws_ne (Nat.ne_of_beq_eq_false rfl) (ws_ne (Nat.ne_of_beq_eq_false rfl) w_56)) (ws_ne (Nat.ne_of_beq_eq_false rfl) (ws_ne (Nat.ne_of_beq_eq_false rfl) w_57)) (ws_ne (Nat.ne_of_beq_eq_false rfl) (ws_ne (Nat.ne_of_beq_eq_false rfl) w_58)) (Or.inr ⟨(hik.resolve_left (fun z => c_143 z.2)).1, rfl⟩), rfl⟩), (frm_set (Nat.le_of_ble_eq_true rfl) (Nat.le_of_ble_eq_true rfl) (frm_set (Nat.le_of_ble_eq_true rfl) (Nat.le_of_ble_eq_true rfl) (frm_rf _)))⟩)
                              · skip
                                have c_168 : ¬ (xs.length ≤ k) := fun h9 => c_168 ((nI_leI (a := xs.length) (b := k) (by omega) (by omega)).mpr h9)
                                refine r_iload_n C dX6_take_171 rfl ?_
                                refine r_tabIn C 255 dX6_take_172 (by decide) (by decide) (off := 83) (by decide) (by decide) ?_
                                refine r_aload_n C dX6_take_255 rfl ?_
                                refine r_get C dX6_take_256 fgRX6_35 (Nat.le_of_ble_eq_true rfl) (ws_ne (Nat.ne_of_beq_eq_false rfl) ws_eq) rfl ?_
                                refine r_iload C dX6_take_259 rfl ?_
                                refine r_aload_n C dX6_take_261 rfl ?_
                                refine r_get C dX6_take_262 fgRX6_7 (Nat.le_of_ble_eq_true rfl) (ws_ne (Nat.ne_of_beq_eq_false rfl) ws_eq) rfl ?_
                                refine r_iload C dX6_take_265 rfl ?_
                                refine r_ialdN C dX6_take_267 (Nat.le_of_ble_eq_true rfl) (ws_ne (Nat.ne_of_beq_eq_false rfl) (ws_ne (Nat.ne_of_beq_eq_false rfl) w_36)) (j := k) rfl (by omega) (by decide) ?_
                                refine r_top (y := nI (xs.getD k 0)) (h_xs _ (by omega)) ?_
                                refine r_iastN C dX6_take_268 (Nat.le_of_ble_eq_true rfl) ws_eq (j := k) rfl (by omega) (by decide) ?_
                                refine r_eq rfl rfl ws_same ?_
                                refine r_goto C 286 dX6_take_269 (by decide) ?_
                                refine r_iinc C dX6_take_286 (v := nI (k + 1)) (L' := [some (.ref 35), some (.int 3), some (.int 1), some (.int 1), some (.int (nI (k + 1)))]) rfl (nI_add k 1) (by decide) rfl ?_
                                refine r_goto C 162 dX6_take_289 (by decide) ?_
                                exact ih_162 (k + 1) _ (by omega) (by omega) (up_lt hp rfl)
                          refine r_eq rfl rfl (ws_self (ws_ne (Nat.ne_of_beq_eq_false rfl) w_41)).symm ?_
                          exact loop_162 _ 0 _ (Nat.lt_succ_self _) (by omega) (fun m hm => absurd hm (Nat.not_lt_zero m))
                    · skip
                      exact absurd c_121 (by decide)
                · skip
                  exact absurd c_81 (by decide)
              · skip
                exact absurd c_73 (by decide)
            · skip
              exact absurd c_62 (by decide)
          · skip
            exact absurd c_54 (by decide)
      · skip
        exact absurd c_17 (by decide)
set_option maxHeartbeats 4000000 in
set_option maxRecDepth 100000 in
theorem mX6_take9_4 {w : Wo} {fa : Int32} {xs rs : List Nat} {rv : Int32} {ln : Nat} {pm lo : Int32} {ow us nb op up kn : List Nat} (mw : MW fa (xs, rs, rv, ln, pm, lo, ow, us, nb, op, up, kn) w) (ps : PSok (xs, rs, rv, ln, pm, lo, ow, us, nb, op, up, kn)) : Ctr mX6_take [.ref 35, .int 4] w (PI fun r w' => ((¬ tkIn 4 ∧ MW 1 (xs, rs, rv, ln, pm, lo, ow, us, nb, op, up, kn) w' ∧ r = 0) ∨ (tkIn 4 ∧ ¬ tkOk 4 xs ∧ MW 2 (xs, rs, rv, ln, pm, lo, ow, us, nb, op, up, kn) w' ∧ r = 0) ∨ (tkIn 4 ∧ tkOk 4 xs ∧ MW 0 (tkS 4 (xs, rs, rv, ln, pm, lo, ow, us, nb, op, up, kn)) w' ∧ r = nI xs.length)) ∧ frm w w') := by
  refine Ctr_intro okX6_take rfl (Nat.le_of_ble_eq_true rfl) (L := [some (.ref 35), some (.int 4), none, none, none]) rfl (fun g ct C T_ => ?_)
  refine MW_open mw (fun fx fr9 fo fus fn fop fup fk fh hl fm fd vA vB vC vD fsn ftn fpd ft fe fp fot K B SW BK ik w_35 w_36 h_xs k_xs w_37 h_rs k_rs w_38 h_ow k_ow w_39 h_us k_us w_40 h_nb k_nb w_41 h_op k_op w_42 h_up k_up w_43 h_kn k_kn w_50 h_hl k_hl w_44 w_45 w_46 w_47 hsn w_48 htn w_49 hpd w_51 w_52 w_53 w_54 w_55 w_56 w_57 w_58 hik => ?_)
  obtain ⟨bx, br, bo, bu, bn, bp, bq, bk9, lo9, lu9, hkn, hrv, hln, hlo⟩ := ps
  refine r_iload_n C dX6_take_0 rfl ?_
  refine r_if_lt C 13 dX6_take_1 (by decide) (fun c_1 => ?_) (fun c_1 => ?_)
  · skip
    exact absurd c_1 (by decide)
  · skip
    refine r_iload_n C dX6_take_4 rfl ?_
    refine r_iconst C dX6_take_5 (v := 4) (by decide) ?_
    refine r_icmp_gt C 13 dX6_take_6 (by decide) (fun c_6 => ?_) (fun c_6 => ?_)
    · skip
      exact absurd c_6 (by decide)
    · skip
      refine r_iconst C dX6_take_9 (v := 1) (by decide) ?_
      refine r_goto C 14 dX6_take_10 (by decide) ?_
      refine r_istore_n C dX6_take_14 (L' := [some (.ref 35), some (.int 4), some (.int 1), none, none]) (by decide) rfl ?_
      refine r_iload_n C dX6_take_15 rfl ?_
      refine r_iconst C dX6_take_16 (v := 2) (by decide) ?_
      refine r_icmp_ge C 37 dX6_take_17 (by decide) (fun c_17 => ?_) (fun c_17 => ?_)
      · skip
        refine r_aload_n C dX6_take_37 rfl ?_
        refine r_get C dX6_take_38 fgRX6_156 (Nat.le_of_ble_eq_true rfl) w_35 rfl ?_
        refine r_bipush C dX6_take_41 (v := 64) (by decide) ?_
        refine r_icmp_gt C 50 dX6_take_43 (by decide) (fun c_43 => ?_) (fun c_43 => ?_)
        · skip
          have c_43 : 64 < xs.length := (nI_ltI (a := 64) (b := xs.length) (by omega) (by omega)).mp c_43
          refine r_iconst C dX6_take_50 (v := 0) (by decide) ?_
          refine r_istore_n C dX6_take_51 (L' := [some (.ref 35), some (.int 4), some (.int 1), some (.int 0), none]) (by decide) rfl ?_
          refine r_aload_n C dX6_take_52 rfl ?_
          refine r_iload_n C dX6_take_53 rfl ?_
          refine r_if_ne C 61 dX6_take_54 (by decide) (fun c_54 => ?_) (fun c_54 => ?_)
          · skip
            refine r_iload_n C dX6_take_61 rfl ?_
            refine r_if_ne C 69 dX6_take_62 (by decide) (fun c_62 => ?_) (fun c_62 => ?_)
            · skip
              exact absurd c_62 (by decide)
            · skip
              refine r_iconst C dX6_take_65 (v := 2) (by decide) ?_
              refine r_goto C 70 dX6_take_66 (by decide) ?_
              refine r_callVi C (As := [.int 2]) (rest := []) dX6_take_70 (cX6_refused9 w_35 (p1 := 2)) okX6_refused mlRX6_159 imX6_refused seX6_refused ⟨by decide, by decide⟩ rfl rfl (Nat.le_of_ble_eq_true rfl) w_35 rfl rfl (Nat.le_of_ble_eq_true rfl) (by decide) (by decide) (fun r_1 w9 h9 => ?_)
              obtain ⟨rfl, er_⟩ := h9
              have er_ : r_1 = 1 := er_.trans (if_neg (by decide))
              subst er_
              refine r_if_eq C 78 dX6_take_73 (by decide) (fun c_73 => ?_) (fun c_73 => ?_)
              · skip
                exact absurd c_73 (by decide)
              · skip
                refine r_iconst C dX6_take_76 (v := 0) (by decide) ?_
                exact r_ireturn C T_ rfl rfl dX6_take_77 (⟨_, rfl, Or.inr (Or.inl ⟨⟨by decide, by decide⟩, fun z => absurd (show xs.length ≤ 64 from by unfold tkOk at z; rw [if_neg (by decide)] at z; exact z) (by omega), MW_mk ws_eq (ws_ne (Nat.ne_of_beq_eq_false rfl) w_36) h_xs (by first | omega | (simp only [List.length_append, List.length_nil, List.length_cons, List.length_take, List.length_replicate, List.length_range, List.length_map, lof_len, pad_len, padd_len, md5_len, strm_len, strms_len, entOf_len, hif_len] <;> omega)) (ws_ne (Nat.ne_of_beq_eq_false rfl) w_37) h_rs (by first | omega | (simp only [List.length_append, List.length_nil, List.length_cons, List.length_take, List.length_replicate, List.length_range, List.length_map, lof_len, pad_len, padd_len, md5_len, strm_len, strms_len, entOf_len, hif_len] <;> omega)) (ws_ne (Nat.ne_of_beq_eq_false rfl) w_38) h_ow (by first | omega | (simp only [List.length_append, List.length_nil, List.length_cons, List.length_take, List.length_replicate, List.length_range, List.length_map, lof_len, pad_len, padd_len, md5_len, strm_len, strms_len, entOf_len, hif_len] <;> omega)) (ws_ne (Nat.ne_of_beq_eq_false rfl) w_39) h_us (by first | omega | (simp only [List.length_append, List.length_nil, List.length_cons, List.length_take, List.length_replicate, List.length_range, List.length_map, lof_len, pad_len, padd_len, md5_len, strm_len, strms_len, entOf_len, hif_len] <;> omega)) (ws_ne (Nat.ne_of_beq_eq_false rfl) w_40) h_nb (by first | omega | (simp only [List.length_append, List.length_nil, List.length_cons, List.length_take, List.length_replicate, List.length_range, List.length_map, lof_len, pad_len, padd_len, md5_len, strm_len, strms_len, entOf_len, hif_len] <;> omega)) (ws_ne (Nat.ne_of_beq_eq_false rfl) w_41) h_op (by first | omega | (simp only [List.length_append, List.length_nil, List.length_cons, List.length_take, List.length_replicate, List.length_range, List.length_map, lof_len, pad_len, padd_len, md5_len, strm_len, strms_len, entOf_len, hif_len] <;> omega)) (ws_ne (Nat.ne_of_beq_eq_false rfl) w_42) h_up (by first | omega | (simp only [List.length_append, List.length_nil, List.length_cons, List.length_take, List.length_replicate, List.length_range, List.length_map, lof_len, pad_len, padd_len, md5_len, strm_len, strms_len, entOf_len, hif_len] <;> omega)) (ws_ne (Nat.ne_of_beq_eq_false rfl) w_43) h_kn (by first | omega | (simp only [List.length_append, List.length_nil, List.length_cons, List.length_take, List.length_replicate, List.length_range, List.length_map, lof_len, pad_len, padd_len, md5_len, strm_len, strms_len, entOf_len, hif_len] <;> omega)) (ws_ne (Nat.ne_of_beq_eq_false rfl) w_50) h_hl (by first | omega | (simp only [List.length_append, List.length_nil, List.length_cons, List.length_take, List.length_replicate, List.length_range, List.length_map, lof_len, pad_len, padd_len, md5_len, strm_len, strms_len, entOf_len, hif_len] <;> omega)) (ws_ne (Nat.ne_of_beq_eq_false rfl) w_44) (ws_ne (Nat.ne_of_beq_eq_false rfl) w_45) (ws_ne (Nat.ne_of_beq_eq_false rfl) w_46) (ws_ne (Nat.ne_of_beq_eq_false rfl) w_47) hsn (ws_ne (Nat.ne_of_beq_eq_false rfl) w_48) htn (ws_ne (Nat.ne_of_beq_eq_false rfl) w_49) hpd (ws_ne (Nat.ne_of_beq_eq_false rfl) w_51) (ws_ne (Nat.ne_of_beq_eq_false rfl) w_52) (ws_ne (Nat.ne_of_beq_eq_false rfl) w_53) (ws_ne (Nat.ne_of_beq_eq_false rfl) w_54) (ws_ne (Nat.ne_of_beq_eq_false rfl) w_55) (ws_ne (Nat.ne_of_beq_eq_false rfl) w_56) (ws_ne (Nat.ne_of_beq_eq_false rfl) w_57) (ws_ne (Nat.ne_of_beq_eq_false rfl) w_58) hik, rfl⟩), (frm_set (Nat.le_of_ble_eq_true rfl) (Nat.le_of_ble_eq_true rfl) (frm_rf _))⟩)
          · skip
            exact absurd c_54 (by decide)
        · skip
          have c_43 : ¬ (64 < xs.length) := fun h9 => c_43 ((nI_ltI (a := 64) (b := xs.length) (by omega) (by omega)).mpr h9)
          refine r_iconst C dX6_take_46 (v := 1) (by decide) ?_
          refine r_goto C 51 dX6_take_47 (by decide) ?_
          refine r_istore_n C dX6_take_51 (L' := [some (.ref 35), some (.int 4), some (.int 1), some (.int 1), none]) (by decide) rfl ?_
          refine r_aload_n C dX6_take_52 rfl ?_
          refine r_iload_n C dX6_take_53 rfl ?_
          refine r_if_ne C 61 dX6_take_54 (by decide) (fun c_54 => ?_) (fun c_54 => ?_)
          · skip
            refine r_iload_n C dX6_take_61 rfl ?_
            refine r_if_ne C 69 dX6_take_62 (by decide) (fun c_62 => ?_) (fun c_62 => ?_)
            · skip
              refine r_iconst C dX6_take_69 (v := 0) (by decide) ?_
              refine r_callVi C (As := [.int 0]) (rest := []) dX6_take_70 (cX6_refused9 w_35 (p1 := 0)) okX6_refused mlRX6_159 imX6_refused seX6_refused ⟨by decide, by decide⟩ rfl rfl (Nat.le_of_ble_eq_true rfl) w_35 rfl rfl (Nat.le_of_ble_eq_true rfl) (by decide) (by decide) (fun r_2 w9 h9 => ?_)
              obtain ⟨rfl, er_⟩ := h9
              have er_ : r_2 = 0 := er_.trans (if_pos (by decide))
              subst er_
              refine r_if_eq C 78 dX6_take_73 (by decide) (fun c_73 => ?_) (fun c_73 => ?_)
              · skip
                refine r_aload_n C dX6_take_78 rfl ?_
                refine r_iload_n C dX6_take_79 rfl ?_
                refine r_iconst C dX6_take_80 (v := 2) (by decide) ?_
                refine r_icmp_ne C 91 dX6_take_81 (by decide) (fun c_81 => ?_) (fun c_81 => ?_)
                · skip
                  refine r_aload_n C dX6_take_91 rfl ?_
                  refine r_get C dX6_take_92 fgRX6_203 (Nat.le_of_ble_eq_true rfl) ws_eq rfl ?_
                  refine r_put C dX6_take_95 fpRX6_203 (Nat.le_of_ble_eq_true rfl) ws_eq rfl rfl (Nat.le_of_ble_eq_true rfl) (fs' := [.int 0, .int (nI xs.length), .ref 36, .int (nI rs.length), .ref 37, .int rv, .int (nI ln), .int pm, .int lo, .ref 38, .ref 39, .int (nI nb.length), .ref 40, .int (nI op.length), .ref 41, .int (nI up.length), .ref 42, .int ik, .ref 43, .int (nI (([] : List Nat).length)), .ref 44, .ref 45, .ref 46, .ref 47, .ref 48, .ref 49, .int (nI hl.length), .ref 50, .ref 51, .ref 52, .ref 53, .ref 54, .ref 55, .ref 56, .ref 57, .ref 58]) rfl ?_
                  refine r_eq rfl rfl ws_same ?_
                  refine r_aload_n C dX6_take_98 rfl ?_
                  refine r_iload_n C dX6_take_99 rfl ?_
                  refine r_iconst C dX6_take_100 (v := 3) (by decide) ?_
                  refine r_icmp_ne C 111 dX6_take_101 (by decide) (fun c_101 => ?_) (fun c_101 => ?_)
                  · skip
                    refine r_aload_n C dX6_take_111 rfl ?_
                    refine r_get C dX6_take_112 fgRX6_197 (Nat.le_of_ble_eq_true rfl) ws_eq rfl ?_
                    refine r_put C dX6_take_115 fpRX6_197 (Nat.le_of_ble_eq_true rfl) ws_eq rfl rfl (Nat.le_of_ble_eq_true rfl) (fs' := [.int 0, .int (nI xs.length), .ref 36, .int (nI rs.length), .ref 37, .int rv, .int (nI ln), .int pm, .int lo, .ref 38, .ref 39, .int (nI nb.length), .ref 40, .int (nI op.length), .ref 41, .int (nI up.length), .ref 42, .int ik, .ref 43, .int (nI (([] : List Nat).length)), .ref 44, .ref 45, .ref 46, .ref 47, .ref 48, .ref 49, .int (nI hl.length), .ref 50, .ref 51, .ref 52, .ref 53, .ref 54, .ref 55, .ref 56, .ref 57, .ref 58]) rfl ?_
                    refine r_eq rfl rfl ws_same ?_
                    refine r_aload_n C dX6_take_118 rfl ?_
                    refine r_iload_n C dX6_take_119 rfl ?_
                    refine r_iconst C dX6_take_120 (v := 4) (by decide) ?_
                    refine r_icmp_ne C 131 dX6_take_121 (by decide) (fun c_121 => ?_) (fun c_121 => ?_)
                    · skip
                      exact absurd c_121 (by decide)
                    · skip
                      refine r_aload_n C dX6_take_124 rfl ?_
                      refine r_get C dX6_take_125 fgRX6_156 (Nat.le_of_ble_eq_true rfl) ws_eq rfl ?_
                      refine r_goto C 135 dX6_take_128 (by decide) ?_
                      refine r_put C dX6_take_135 fpRX6_200 (Nat.le_of_ble_eq_true rfl) ws_eq rfl rfl (Nat.le_of_ble_eq_true rfl) (fs' := [.int 0, .int (nI xs.length), .ref 36, .int (nI rs.length), .ref 37, .int rv, .int (nI ln), .int pm, .int lo, .ref 38, .ref 39, .int (nI nb.length), .ref 40, .int (nI op.length), .ref 41, .int (nI xs.length), .ref 42, .int ik, .ref 43, .int (nI (([] : List Nat).length)), .ref 44, .ref 45, .ref 46, .ref 47, .ref 48, .ref 49, .int (nI hl.length), .ref 50, .ref 51, .ref 52, .ref 53, .ref 54, .ref 55, .ref 56, .ref 57, .ref 58]) rfl ?_
                      refine r_eq rfl rfl ws_same ?_
                      refine r_aload_n C dX6_take_138 rfl ?_
                      refine r_aload_n C dX6_take_139 rfl ?_
                      refine r_get C dX6_take_140 fgRX6_220 (Nat.le_of_ble_eq_true rfl) ws_eq rfl ?_
                      refine r_if_eq C 155 dX6_take_143 (by decide) (fun c_143 => ?_) (fun c_143 => ?_)
                      · skip
                        refine r_iconst C dX6_take_155 (v := 0) (by decide) ?_
                        refine r_put C dX6_take_156 fpRX6_220 (Nat.le_of_ble_eq_true rfl) ws_eq (by decide) (by decide) (Nat.le_of_ble_eq_true rfl) (fs' := [.int 0, .int (nI xs.length), .ref 36, .int (nI rs.length), .ref 37, .int rv, .int (nI ln), .int pm, .int lo, .ref 38, .ref 39, .int (nI nb.length), .ref 40, .int (nI op.length), .ref 41, .int (nI xs.length), .ref 42, .int 0, .ref 43, .int (nI (([] : List Nat).length)), .ref 44, .ref 45, .ref 46, .ref 47, .ref 48, .ref 49, .int (nI hl.length), .ref 50, .ref 51, .ref 52, .ref 53, .ref 54, .ref 55, .ref 56, .ref 57, .ref 58]) rfl ?_
                        refine r_eq rfl rfl ws_same ?_
                        refine r_iconst C dX6_take_159 (v := 0) (by decide) ?_
                        refine r_istore C dX6_take_160 (L' := [some (.ref 35), some (.int 4), some (.int 1), some (.int 1), some (.int 0)]) (by decide) rfl ?_
                        have loop_162 : ∀ (d9 : Nat) (k : Nat) (f1 : Nat → Int32), xs.length - k < d9 → k ≤ xs.length → (∀ m, m < k → f1 m = nI (xs.getD m 0)) → Az g mX6_take ct 0 0 162 [some (.ref 35), some (.int 4), some (.int 1), some (.int 1), some (.int (nI k))] [] (wset (wset w 35 (mo 0 (nI xs.length) (nI rs.length) rv (nI ln) pm lo (nI nb.length) (nI op.length) (nI xs.length) 0 (nI (([] : List Nat).length)) (nI hl.length))) 42 (ia 64 f1)) := by
                          intro d9
                          induction d9 with
                          | zero => intro k f1 hd9; exact absurd hd9 (Nat.not_lt_zero _)
                          | succ d9 ih_162 =>
                            intro k f1 hd9 hk hp
                            refine r_iload C dX6_take_162 rfl ?_
                            refine r_aload_n C dX6_take_164 rfl ?_
                            refine r_get C dX6_take_165 fgRX6_156 (Nat.le_of_ble_eq_true rfl) (ws_ne (Nat.ne_of_beq_eq_false rfl) ws_eq) rfl ?_
                            refine r_icmp_ge C 292 dX6_take_168 (by decide) (fun c_168 => ?_) (fun c_168 => ?_)
                            · skip
                              have c_168 : xs.length ≤ k := (nI_leI (a := xs.length) (b := k) (by omega) (by omega)).mp c_168
                              refine r_aload_n C dX6_take_292 rfl ?_
                              refine r_get C dX6_take_293 fgRX6_156 (Nat.le_of_ble_eq_true rfl) (ws_ne (Nat.ne_of_beq_eq_false rfl) ws_eq) rfl ?_
                              exact r_ireturn C T_ rfl rfl dX6_take_296 (⟨_, rfl, Or.inr (Or.inr ⟨⟨by decide, by decide⟩, (by unfold tkOk; rw [if_neg (by decide)]; omega), by rw [tkS_4]; exact MW_mk (ws_ne (Nat.ne_of_beq_eq_false rfl) ws_eq) (ws_ne (Nat.ne_of_beq_eq_false rfl) (ws_ne (Nat.ne_of_beq_eq_false rfl) w_36)) h_xs (by first | omega | (simp only [List.length_append, List.length_nil, List.length_cons, List.length_take, List.length_replicate, List.length_range, List.length_map, lof_len, pad_len, padd_len, md5_len, strm_len, strms_len, entOf_len, hif_len] <;> omega)) (ws_ne (Nat.ne_of_beq_eq_false rfl) (ws_ne (Nat.ne_of_beq_eq_false rfl) w_37)) h_rs (by first | omega | (simp only [List.length_append, List.length_nil, List.length_cons, List.length_take, List.length_replicate, List.length_range, List.length_map, lof_len, pad_len, padd_len, md5_len, strm_len, strms_len, entOf_len, hif_len] <;> omega)) (ws_ne (Nat.ne_of_beq_eq_false rfl) (ws_ne (Nat.ne_of_beq_eq_false rfl) w_38)) h_ow (by first | omega | (simp only [List.length_append, List.length_nil, List.length_cons, List.length_take, List.length_replicate, List.length_range, List.length_map, lof_len, pad_len, padd_len, md5_len, strm_len, strms_len, entOf_len, hif_len] <;> omega)) (ws_ne (Nat.ne_of_beq_eq_false rfl) (ws_ne (Nat.ne_of_beq_eq_false rfl) w_39)) h_us (by first | omega | (simp only [List.length_append, List.length_nil, List.length_cons, List.length_take, List.length_replicate, List.length_range, List.length_map, lof_len, pad_len, padd_len, md5_len, strm_len, strms_len, entOf_len, hif_len] <;> omega)) (ws_ne (Nat.ne_of_beq_eq_false rfl) (ws_ne (Nat.ne_of_beq_eq_false rfl) w_40)) h_nb (by first | omega | (simp only [List.length_append, List.length_nil, List.length_cons, List.length_take, List.length_replicate, List.length_range, List.length_map, lof_len, pad_len, padd_len, md5_len, strm_len, strms_len, entOf_len, hif_len] <;> omega)) (ws_ne (Nat.ne_of_beq_eq_false rfl) (ws_ne (Nat.ne_of_beq_eq_false rfl) w_41)) h_op (by first | omega | (simp only [List.length_append, List.length_nil, List.length_cons, List.length_take, List.length_replicate, List.length_range, List.length_map, lof_len, pad_len, padd_len, md5_len, strm_len, strms_len, entOf_len, hif_len] <;> omega)) ws_eq (hs_pre (xs := xs) rfl (fun m hm => hp m (by omega)) (fun m hm => rfl)) (by first | omega | (simp only [List.length_append, List.length_nil, List.length_cons, List.length_take, List.length_replicate, List.length_range, List.length_map, lof_len, pad_len, padd_len, md5_len, strm_len, strms_len, entOf_len, hif_len] <;> omega)) (ws_ne (Nat.ne_of_beq_eq_false rfl) (ws_ne (Nat.ne_of_beq_eq_false rfl) w_43)) h_kn (by first | omega | (simp only [List.length_append, List.length_nil, List.length_cons, List.length_take, List.length_replicate, List.length_range, List.length_map, lof_len, pad_len, padd_len, md5_len, strm_len, strms_len, entOf_len, hif_len] <;> omega)) (ws_ne (Nat.ne_of_beq_eq_false rfl) (ws_ne (Nat.ne_of_beq_eq_false rfl) w_50)) h_hl (by first | omega | (simp only [List.length_append, List.length_nil, List.length_cons, List.length_take, List.length_replicate, List.length_range, List.length_map, lof_len, pad_len, padd_len, md5_len, strm_len, strms_len, entOf_len, hif_len] <;> omega)) (ws_ne (Nat.ne_of_beq_eq_false rfl) (ws_ne (Nat.ne_of_beq_eq_false rfl) w_44)) (ws_ne (Nat.ne_of_beq_eq_false rfl) (ws_ne (Nat.ne_of_beq_eq_false rfl) w_45)) (ws_ne (Nat.ne_of_beq_eq_false rfl) (ws_ne (Nat.ne_of_beq_eq_false rfl) w_46)) (ws_ne (Nat.ne_of_beq_eq_false rfl) (ws_ne (Nat.ne_of_beq_eq_false rfl) w_47)) hsn (ws_ne (Nat.ne_of_beq_eq_false rfl) (ws_ne (Nat.ne_of_beq_eq_false rfl) w_48)) htn (ws_ne (Nat.ne_of_beq_eq_false rfl) (ws_ne (Nat.ne_of_beq_eq_false rfl) w_49)) hpd (ws_ne (Nat.ne_of_beq_eq_false rfl) (ws_ne (Nat.ne_of_beq_eq_false rfl) w_51)) (ws_ne (Nat.ne_of_beq_eq_false rfl) (ws_ne (Nat.ne_of_beq_eq_false rfl) w_52)) (ws_ne (Nat.ne_of_beq_eq_false rfl) (ws_ne (Nat.ne_of_beq_eq_false rfl) w_53)) (ws_ne (Nat.ne_of_beq_eq_false rfl) (ws_ne (Nat.ne_of_beq_eq_false rfl) w_54)) (ws_ne (Nat.ne_of_beq_eq_false rfl) (ws_ne (Nat.ne_of_beq_eq_false rfl) w_55)) (ws_ne (Nat.ne_of_beq_eq_false rfl) (ws_ne (Nat.ne_of_beq_eq_false rfl) w_56)) (ws_ne (Nat.ne_of_beq_eq_false rfl) (ws_ne (Nat.ne_of_beq_eq_false rfl) w_57)) (ws_ne (Nat.ne_of_beq_eq_false rfl) (ws_ne (Nat.ne_of_beq_eq_false rfl) w_58)) (Or.inl ⟨(hik.resolve_right (fun z => absurd (z.2.symm.trans c_143) (by decide))).1, rfl⟩), rfl⟩), (frm_set (Nat.le_of_ble_eq_true rfl) (Nat.le_of_ble_eq_true rfl) (frm_set (Nat.le_of_ble_eq_true rfl) (Nat.le_of_ble_eq_true rfl) (frm_rf _)))⟩)
                            · skip
                              have c_168 : ¬ (xs.length ≤ k) := fun h9 => c_168 ((nI_leI (a := xs.length) (b := k) (by omega) (by omega)).mpr h9)
                              refine r_iload_n C dX6_take_171 rfl ?_
                              refine r_tabOut C 272 dX6_take_172 (by decide) (by decide) ?_
                              refine r_aload_n C dX6_take_272 rfl ?_
                              refine r_get C dX6_take_273 fgRX6_38 (Nat.le_of_ble_eq_true rfl) (ws_ne (Nat.ne_of_beq_eq_false rfl) ws_eq) rfl ?_
                              refine r_iload C dX6_take_276 rfl ?_
                              refine r_aload_n C dX6_take_278 rfl ?_
                              refine r_get C dX6_take_279 fgRX6_7 (Nat.le_of_ble_eq_true rfl) (ws_ne (Nat.ne_of_beq_eq_false rfl) ws_eq) rfl ?_
                              refine r_iload C dX6_take_282 rfl ?_
                              refine r_ialdN C dX6_take_284 (Nat.le_of_ble_eq_true rfl) (ws_ne (Nat.ne_of_beq_eq_false rfl) (ws_ne (Nat.ne_of_beq_eq_false rfl) w_36)) (j := k) rfl (by omega) (by decide) ?_
                              refine r_top (y := nI (xs.getD k 0)) (h_xs _ (by omega)) ?_
                              refine r_iastN C dX6_take_285 (Nat.le_of_ble_eq_true rfl) ws_eq (j := k) rfl (by omega) (by decide) ?_
                              refine r_eq rfl rfl ws_same ?_
                              refine r_iinc C dX6_take_286 (v := nI (k + 1)) (L' := [some (.ref 35), some (.int 4), some (.int 1), some (.int 1), some (.int (nI (k + 1)))]) rfl (nI_add k 1) (by decide) rfl ?_
                              refine r_goto C 162 dX6_take_289 (by decide) ?_
                              exact ih_162 (k + 1) _ (by omega) (by omega) (up_lt hp rfl)
                        refine r_eq rfl rfl (ws_self (ws_ne (Nat.ne_of_beq_eq_false rfl) w_42)).symm ?_
                        exact loop_162 _ 0 _ (Nat.lt_succ_self _) (by omega) (fun m hm => absurd hm (Nat.not_lt_zero m))
                      · skip
                        refine r_iload_n C dX6_take_146 rfl ?_
                        refine r_iconst C dX6_take_147 (v := 2) (by decide) ?_
                        refine r_icmp_le C 155 dX6_take_148 (by decide) (fun c_148 => ?_) (fun c_148 => ?_)
                        · skip
                          exact absurd c_148 (by decide)
                        · skip
                          refine r_iconst C dX6_take_151 (v := 1) (by decide) ?_
                          refine r_goto C 156 dX6_take_152 (by decide) ?_
                          refine r_put C dX6_take_156 fpRX6_220 (Nat.le_of_ble_eq_true rfl) ws_eq (by decide) (by decide) (Nat.le_of_ble_eq_true rfl) (fs' := [.int 0, .int (nI xs.length), .ref 36, .int (nI rs.length), .ref 37, .int rv, .int (nI ln), .int pm, .int lo, .ref 38, .ref 39, .int (nI nb.length), .ref 40, .int (nI op.length), .ref 41, .int (nI xs.length), .ref 42, .int 1, .ref 43, .int (nI (([] : List Nat).length)), .ref 44, .ref 45, .ref 46, .ref 47, .ref 48, .ref 49, .int (nI hl.length), .ref 50, .ref 51, .ref 52, .ref 53, .ref 54, .ref 55, .ref 56, .ref 57, .ref 58]) rfl ?_
                          refine r_eq rfl rfl ws_same ?_
                          refine r_iconst C dX6_take_159 (v := 0) (by decide) ?_
                          refine r_istore C dX6_take_160 (L' := [some (.ref 35), some (.int 4), some (.int 1), some (.int 1), some (.int 0)]) (by decide) rfl ?_
                          have loop_162 : ∀ (d9 : Nat) (k : Nat) (f1 : Nat → Int32), xs.length - k < d9 → k ≤ xs.length → (∀ m, m < k → f1 m = nI (xs.getD m 0)) → Az g mX6_take ct 0 0 162 [some (.ref 35), some (.int 4), some (.int 1), some (.int 1), some (.int (nI k))] [] (wset (wset w 35 (mo 0 (nI xs.length) (nI rs.length) rv (nI ln) pm lo (nI nb.length) (nI op.length) (nI xs.length) 1 (nI (([] : List Nat).length)) (nI hl.length))) 42 (ia 64 f1)) := by
                            intro d9
                            induction d9 with
                            | zero => intro k f1 hd9; exact absurd hd9 (Nat.not_lt_zero _)
                            | succ d9 ih_162 =>
                              intro k f1 hd9 hk hp
                              refine r_iload C dX6_take_162 rfl ?_
                              refine r_aload_n C dX6_take_164 rfl ?_
                              refine r_get C dX6_take_165 fgRX6_156 (Nat.le_of_ble_eq_true rfl) (ws_ne (Nat.ne_of_beq_eq_false rfl) ws_eq) rfl ?_
                              refine r_icmp_ge C 292 dX6_take_168 (by decide) (fun c_168 => ?_) (fun c_168 => ?_)
                              · skip
                                have c_168 : xs.length ≤ k := (nI_leI (a := xs.length) (b := k) (by omega) (by omega)).mp c_168
                                refine r_aload_n C dX6_take_292 rfl ?_
                                refine r_get C dX6_take_293 fgRX6_156 (Nat.le_of_ble_eq_true rfl) (ws_ne (Nat.ne_of_beq_eq_false rfl) ws_eq) rfl ?_
                                exact r_ireturn C T_ rfl rfl dX6_take_296 (⟨_, rfl, Or.inr (Or.inr ⟨⟨by decide, by decide⟩, (by unfold tkOk; rw [if_neg (by decide)]; omega), by rw [tkS_4]; exact MW_mk (ws_ne (Nat.ne_of_beq_eq_false rfl) ws_eq) (ws_ne (Nat.ne_of_beq_eq_false rfl) (ws_ne (Nat.ne_of_beq_eq_false rfl) w_36)) h_xs (by first | omega | (simp only [List.length_append, List.length_nil, List.length_cons, List.length_take, List.length_replicate, List.length_range, List.length_map, lof_len, pad_len, padd_len, md5_len, strm_len, strms_len, entOf_len, hif_len] <;> omega)) (ws_ne (Nat.ne_of_beq_eq_false rfl) (ws_ne (Nat.ne_of_beq_eq_false rfl) w_37)) h_rs (by first | omega | (simp only [List.length_append, List.length_nil, List.length_cons, List.length_take, List.length_replicate, List.length_range, List.length_map, lof_len, pad_len, padd_len, md5_len, strm_len, strms_len, entOf_len, hif_len] <;> omega)) (ws_ne (Nat.ne_of_beq_eq_false rfl) (ws_ne (Nat.ne_of_beq_eq_false rfl) w_38)) h_ow (by first | omega | (simp only [List.length_append, List.length_nil, List.length_cons, List.length_take, List.length_replicate, List.length_range, List.length_map, lof_len, pad_len, padd_len, md5_len, strm_len, strms_len, entOf_len, hif_len] <;> omega)) (ws_ne (Nat.ne_of_beq_eq_false rfl) (ws_ne (Nat.ne_of_beq_eq_false rfl) w_39)) h_us (by first | omega | (simp only [List.length_append, List.length_nil, List.length_cons, List.length_take, List.length_replicate, List.length_range, List.length_map, lof_len, pad_len, padd_len, md5_len, strm_len, strms_len, entOf_len, hif_len] <;> omega)) (ws_ne (Nat.ne_of_beq_eq_false rfl) (ws_ne (Nat.ne_of_beq_eq_false rfl) w_40)) h_nb (by first | omega | (simp only [List.length_append, List.length_nil, List.length_cons, List.length_take, List.length_replicate, List.length_range, List.length_map, lof_len, pad_len, padd_len, md5_len, strm_len, strms_len, entOf_len, hif_len] <;> omega)) (ws_ne (Nat.ne_of_beq_eq_false rfl) (ws_ne (Nat.ne_of_beq_eq_false rfl) w_41)) h_op (by first | omega | (simp only [List.length_append, List.length_nil, List.length_cons, List.length_take, List.length_replicate, List.length_range, List.length_map, lof_len, pad_len, padd_len, md5_len, strm_len, strms_len, entOf_len, hif_len] <;> omega)) ws_eq (hs_pre (xs := xs) rfl (fun m hm => hp m (by omega)) (fun m hm => rfl)) (by first | omega | (simp only [List.length_append, List.length_nil, List.length_cons, List.length_take, List.length_replicate, List.length_range, List.length_map, lof_len, pad_len, padd_len, md5_len, strm_len, strms_len, entOf_len, hif_len] <;> omega)) (ws_ne (Nat.ne_of_beq_eq_false rfl) (ws_ne (Nat.ne_of_beq_eq_false rfl) w_43)) h_kn (by first | omega | (simp only [List.length_append, List.length_nil, List.length_cons, List.length_take, List.length_replicate, List.length_range, List.length_map, lof_len, pad_len, padd_len, md5_len, strm_len, strms_len, entOf_len, hif_len] <;> omega)) (ws_ne (Nat.ne_of_beq_eq_false rfl) (ws_ne (Nat.ne_of_beq_eq_false rfl) w_50)) h_hl (by first | omega | (simp only [List.length_append, List.length_nil, List.length_cons, List.length_take, List.length_replicate, List.length_range, List.length_map, lof_len, pad_len, padd_len, md5_len, strm_len, strms_len, entOf_len, hif_len] <;> omega)) (ws_ne (Nat.ne_of_beq_eq_false rfl) (ws_ne (Nat.ne_of_beq_eq_false rfl) w_44)) (ws_ne (Nat.ne_of_beq_eq_false rfl) (ws_ne (Nat.ne_of_beq_eq_false rfl) w_45)) (ws_ne (Nat.ne_of_beq_eq_false rfl) (ws_ne (Nat.ne_of_beq_eq_false rfl) w_46)) (ws_ne (Nat.ne_of_beq_eq_false rfl) (ws_ne (Nat.ne_of_beq_eq_false rfl) w_47)) hsn (ws_ne (Nat.ne_of_beq_eq_false rfl) (ws_ne (Nat.ne_of_beq_eq_false rfl) w_48)) htn (ws_ne (Nat.ne_of_beq_eq_false rfl) (ws_ne (Nat.ne_of_beq_eq_false rfl) w_49)) hpd (ws_ne (Nat.ne_of_beq_eq_false rfl) (ws_ne (Nat.ne_of_beq_eq_false rfl) w_51)) (ws_ne (Nat.ne_of_beq_eq_false rfl) (ws_ne (Nat.ne_of_beq_eq_false rfl) w_52)) (ws_ne (Nat.ne_of_beq_eq_false rfl) (ws_ne (Nat.ne_of_beq_eq_false rfl) w_53)) (ws_ne (Nat.ne_of_beq_eq_false rfl) (ws_ne (Nat.ne_of_beq_eq_false rfl) w_54)) (ws_ne (Nat.ne_of_beq_eq_false rfl) (ws_ne (Nat.ne_of_beq_eq_false rfl) w_55)) (ws_ne (Nat.ne_of_beq_eq_false rfl) (ws_ne (Nat.ne_of_beq_eq_false rfl) w_56)) (ws_ne (Nat.ne_of_beq_eq_false rfl) (ws_ne (Nat.ne_of_beq_eq_false rfl) w_57)) (ws_ne (Nat.ne_of_beq_eq_false rfl) (ws_ne (Nat.ne_of_beq_eq_false rfl) w_58)) (Or.inr ⟨(hik.resolve_left (fun z => c_143 z.2)).1, rfl⟩), rfl⟩), (frm_set (Nat.le_of_ble_eq_true rfl) (Nat.le_of_ble_eq_true rfl) (frm_set (Nat.le_of_ble_eq_true rfl) (Nat.le_of_ble_eq_true rfl) (frm_rf _)))⟩)
                              · skip
                                have c_168 : ¬ (xs.length ≤ k) := fun h9 => c_168 ((nI_leI (a := xs.length) (b := k) (by omega) (by omega)).mpr h9)
                                refine r_iload_n C dX6_take_171 rfl ?_
                                refine r_tabOut C 272 dX6_take_172 (by decide) (by decide) ?_
                                refine r_aload_n C dX6_take_272 rfl ?_
                                refine r_get C dX6_take_273 fgRX6_38 (Nat.le_of_ble_eq_true rfl) (ws_ne (Nat.ne_of_beq_eq_false rfl) ws_eq) rfl ?_
                                refine r_iload C dX6_take_276 rfl ?_
                                refine r_aload_n C dX6_take_278 rfl ?_
                                refine r_get C dX6_take_279 fgRX6_7 (Nat.le_of_ble_eq_true rfl) (ws_ne (Nat.ne_of_beq_eq_false rfl) ws_eq) rfl ?_
                                refine r_iload C dX6_take_282 rfl ?_
                                refine r_ialdN C dX6_take_284 (Nat.le_of_ble_eq_true rfl) (ws_ne (Nat.ne_of_beq_eq_false rfl) (ws_ne (Nat.ne_of_beq_eq_false rfl) w_36)) (j := k) rfl (by omega) (by decide) ?_
                                refine r_top (y := nI (xs.getD k 0)) (h_xs _ (by omega)) ?_
                                refine r_iastN C dX6_take_285 (Nat.le_of_ble_eq_true rfl) ws_eq (j := k) rfl (by omega) (by decide) ?_
                                refine r_eq rfl rfl ws_same ?_
                                refine r_iinc C dX6_take_286 (v := nI (k + 1)) (L' := [some (.ref 35), some (.int 4), some (.int 1), some (.int 1), some (.int (nI (k + 1)))]) rfl (nI_add k 1) (by decide) rfl ?_
                                refine r_goto C 162 dX6_take_289 (by decide) ?_
                                exact ih_162 (k + 1) _ (by omega) (by omega) (up_lt hp rfl)
                          refine r_eq rfl rfl (ws_self (ws_ne (Nat.ne_of_beq_eq_false rfl) w_42)).symm ?_
                          exact loop_162 _ 0 _ (Nat.lt_succ_self _) (by omega) (fun m hm => absurd hm (Nat.not_lt_zero m))
                  · skip
                    exact absurd c_101 (by decide)
                · skip
                  exact absurd c_81 (by decide)
              · skip
                exact absurd c_73 (by decide)
            · skip
              exact absurd c_62 (by decide)
          · skip
            exact absurd c_54 (by decide)
      · skip
        exact absurd c_17 (by decide)
set_option maxHeartbeats 4000000 in
set_option maxRecDepth 100000 in
theorem mX6_take9_x {w : Wo} {fa : Int32} {xs rs : List Nat} {rv : Int32} {ln : Nat} {pm lo : Int32} {ow us nb op up kn : List Nat} (mw : MW fa (xs, rs, rv, ln, pm, lo, ow, us, nb, op, up, kn) w) (ps : PSok (xs, rs, rv, ln, pm, lo, ow, us, nb, op, up, kn)) {p1 : Int32} (hno : ¬ tkIn p1) : Ctr mX6_take [.ref 35, .int p1] w (PI fun r w' => ((¬ tkIn p1 ∧ MW 1 (xs, rs, rv, ln, pm, lo, ow, us, nb, op, up, kn) w' ∧ r = 0) ∨ (tkIn p1 ∧ ¬ tkOk p1 xs ∧ MW 2 (xs, rs, rv, ln, pm, lo, ow, us, nb, op, up, kn) w' ∧ r = 0) ∨ (tkIn p1 ∧ tkOk p1 xs ∧ MW 0 (tkS p1 (xs, rs, rv, ln, pm, lo, ow, us, nb, op, up, kn)) w' ∧ r = nI xs.length)) ∧ frm w w') := by
  refine Ctr_intro okX6_take rfl (Nat.le_of_ble_eq_true rfl) (L := [some (.ref 35), some (.int p1), none, none, none]) rfl (fun g ct C T_ => ?_)
  refine MW_open mw (fun fx fr9 fo fus fn fop fup fk fh hl fm fd vA vB vC vD fsn ftn fpd ft fe fp fot K B SW BK ik w_35 w_36 h_xs k_xs w_37 h_rs k_rs w_38 h_ow k_ow w_39 h_us k_us w_40 h_nb k_nb w_41 h_op k_op w_42 h_up k_up w_43 h_kn k_kn w_50 h_hl k_hl w_44 w_45 w_46 w_47 hsn w_48 htn w_49 hpd w_51 w_52 w_53 w_54 w_55 w_56 w_57 w_58 hik => ?_)
  obtain ⟨bx, br, bo, bu, bn, bp, bq, bk9, lo9, lu9, hkn, hrv, hln, hlo⟩ := ps
  refine r_iload_n C dX6_take_0 rfl ?_
  refine r_if_lt C 13 dX6_take_1 (by decide) (fun c_1 => ?_) (fun c_1 => ?_)
  · skip
    refine r_iconst C dX6_take_13 (v := 0) (by decide) ?_
    refine r_istore_n C dX6_take_14 (L' := [some (.ref 35), some (.int p1), some (.int 0), none, none]) (by decide) rfl ?_
    refine r_iload_n C dX6_take_15 rfl ?_
    refine r_iconst C dX6_take_16 (v := 2) (by decide) ?_
    refine r_icmp_ge C 37 dX6_take_17 (by decide) (fun c_17 => ?_) (fun c_17 => ?_)
    · skip
      refine r_aload_n C dX6_take_37 rfl ?_
      refine r_get C dX6_take_38 fgRX6_156 (Nat.le_of_ble_eq_true rfl) w_35 rfl ?_
      refine r_bipush C dX6_take_41 (v := 64) (by decide) ?_
      refine r_icmp_gt C 50 dX6_take_43 (by decide) (fun c_43 => ?_) (fun c_43 => ?_)
      · skip
        have c_43 : 64 < xs.length := (nI_ltI (a := 64) (b := xs.length) (by omega) (by omega)).mp c_43
        refine r_iconst C dX6_take_50 (v := 0) (by decide) ?_
        refine r_istore_n C dX6_take_51 (L' := [some (.ref 35), some (.int p1), some (.int 0), some (.int 0), none]) (by decide) rfl ?_
        refine r_aload_n C dX6_take_52 rfl ?_
        refine r_iload_n C dX6_take_53 rfl ?_
        refine r_if_ne C 61 dX6_take_54 (by decide) (fun c_54 => ?_) (fun c_54 => ?_)
        · skip
          exact absurd c_54 (by decide)
        · skip
          refine r_iconst C dX6_take_57 (v := 1) (by decide) ?_
          refine r_goto C 70 dX6_take_58 (by decide) ?_
          refine r_callVi C (As := [.int 1]) (rest := []) dX6_take_70 (cX6_refused9 w_35 (p1 := 1)) okX6_refused mlRX6_159 imX6_refused seX6_refused ⟨by decide, by decide⟩ rfl rfl (Nat.le_of_ble_eq_true rfl) w_35 rfl rfl (Nat.le_of_ble_eq_true rfl) (by decide) (by decide) (fun r_1 w9 h9 => ?_)
          obtain ⟨rfl, er_⟩ := h9
          have er_ : r_1 = 1 := er_.trans (if_neg (by decide))
          subst er_
          refine r_if_eq C 78 dX6_take_73 (by decide) (fun c_73 => ?_) (fun c_73 => ?_)
          · skip
            exact absurd c_73 (by decide)
          · skip
            refine r_iconst C dX6_take_76 (v := 0) (by decide) ?_
            exact r_ireturn C T_ rfl rfl dX6_take_77 (⟨_, rfl, Or.inl ⟨hno, MW_mk ws_eq (ws_ne (Nat.ne_of_beq_eq_false rfl) w_36) h_xs (by first | omega | (simp only [List.length_append, List.length_nil, List.length_cons, List.length_take, List.length_replicate, List.length_range, List.length_map, lof_len, pad_len, padd_len, md5_len, strm_len, strms_len, entOf_len, hif_len] <;> omega)) (ws_ne (Nat.ne_of_beq_eq_false rfl) w_37) h_rs (by first | omega | (simp only [List.length_append, List.length_nil, List.length_cons, List.length_take, List.length_replicate, List.length_range, List.length_map, lof_len, pad_len, padd_len, md5_len, strm_len, strms_len, entOf_len, hif_len] <;> omega)) (ws_ne (Nat.ne_of_beq_eq_false rfl) w_38) h_ow (by first | omega | (simp only [List.length_append, List.length_nil, List.length_cons, List.length_take, List.length_replicate, List.length_range, List.length_map, lof_len, pad_len, padd_len, md5_len, strm_len, strms_len, entOf_len, hif_len] <;> omega)) (ws_ne (Nat.ne_of_beq_eq_false rfl) w_39) h_us (by first | omega | (simp only [List.length_append, List.length_nil, List.length_cons, List.length_take, List.length_replicate, List.length_range, List.length_map, lof_len, pad_len, padd_len, md5_len, strm_len, strms_len, entOf_len, hif_len] <;> omega)) (ws_ne (Nat.ne_of_beq_eq_false rfl) w_40) h_nb (by first | omega | (simp only [List.length_append, List.length_nil, List.length_cons, List.length_take, List.length_replicate, List.length_range, List.length_map, lof_len, pad_len, padd_len, md5_len, strm_len, strms_len, entOf_len, hif_len] <;> omega)) (ws_ne (Nat.ne_of_beq_eq_false rfl) w_41) h_op (by first | omega | (simp only [List.length_append, List.length_nil, List.length_cons, List.length_take, List.length_replicate, List.length_range, List.length_map, lof_len, pad_len, padd_len, md5_len, strm_len, strms_len, entOf_len, hif_len] <;> omega)) (ws_ne (Nat.ne_of_beq_eq_false rfl) w_42) h_up (by first | omega | (simp only [List.length_append, List.length_nil, List.length_cons, List.length_take, List.length_replicate, List.length_range, List.length_map, lof_len, pad_len, padd_len, md5_len, strm_len, strms_len, entOf_len, hif_len] <;> omega)) (ws_ne (Nat.ne_of_beq_eq_false rfl) w_43) h_kn (by first | omega | (simp only [List.length_append, List.length_nil, List.length_cons, List.length_take, List.length_replicate, List.length_range, List.length_map, lof_len, pad_len, padd_len, md5_len, strm_len, strms_len, entOf_len, hif_len] <;> omega)) (ws_ne (Nat.ne_of_beq_eq_false rfl) w_50) h_hl (by first | omega | (simp only [List.length_append, List.length_nil, List.length_cons, List.length_take, List.length_replicate, List.length_range, List.length_map, lof_len, pad_len, padd_len, md5_len, strm_len, strms_len, entOf_len, hif_len] <;> omega)) (ws_ne (Nat.ne_of_beq_eq_false rfl) w_44) (ws_ne (Nat.ne_of_beq_eq_false rfl) w_45) (ws_ne (Nat.ne_of_beq_eq_false rfl) w_46) (ws_ne (Nat.ne_of_beq_eq_false rfl) w_47) hsn (ws_ne (Nat.ne_of_beq_eq_false rfl) w_48) htn (ws_ne (Nat.ne_of_beq_eq_false rfl) w_49) hpd (ws_ne (Nat.ne_of_beq_eq_false rfl) w_51) (ws_ne (Nat.ne_of_beq_eq_false rfl) w_52) (ws_ne (Nat.ne_of_beq_eq_false rfl) w_53) (ws_ne (Nat.ne_of_beq_eq_false rfl) w_54) (ws_ne (Nat.ne_of_beq_eq_false rfl) w_55) (ws_ne (Nat.ne_of_beq_eq_false rfl) w_56) (ws_ne (Nat.ne_of_beq_eq_false rfl) w_57) (ws_ne (Nat.ne_of_beq_eq_false rfl) w_58) hik, rfl⟩, (frm_set (Nat.le_of_ble_eq_true rfl) (Nat.le_of_ble_eq_true rfl) (frm_rf _))⟩)
      · skip
        have c_43 : ¬ (64 < xs.length) := fun h9 => c_43 ((nI_ltI (a := 64) (b := xs.length) (by omega) (by omega)).mpr h9)
        refine r_iconst C dX6_take_46 (v := 1) (by decide) ?_
        refine r_goto C 51 dX6_take_47 (by decide) ?_
        refine r_istore_n C dX6_take_51 (L' := [some (.ref 35), some (.int p1), some (.int 0), some (.int 1), none]) (by decide) rfl ?_
        refine r_aload_n C dX6_take_52 rfl ?_
        refine r_iload_n C dX6_take_53 rfl ?_
        refine r_if_ne C 61 dX6_take_54 (by decide) (fun c_54 => ?_) (fun c_54 => ?_)
        · skip
          exact absurd c_54 (by decide)
        · skip
          refine r_iconst C dX6_take_57 (v := 1) (by decide) ?_
          refine r_goto C 70 dX6_take_58 (by decide) ?_
          refine r_callVi C (As := [.int 1]) (rest := []) dX6_take_70 (cX6_refused9 w_35 (p1 := 1)) okX6_refused mlRX6_159 imX6_refused seX6_refused ⟨by decide, by decide⟩ rfl rfl (Nat.le_of_ble_eq_true rfl) w_35 rfl rfl (Nat.le_of_ble_eq_true rfl) (by decide) (by decide) (fun r_2 w9 h9 => ?_)
          obtain ⟨rfl, er_⟩ := h9
          have er_ : r_2 = 1 := er_.trans (if_neg (by decide))
          subst er_
          refine r_if_eq C 78 dX6_take_73 (by decide) (fun c_73 => ?_) (fun c_73 => ?_)
          · skip
            exact absurd c_73 (by decide)
          · skip
            refine r_iconst C dX6_take_76 (v := 0) (by decide) ?_
            exact r_ireturn C T_ rfl rfl dX6_take_77 (⟨_, rfl, Or.inl ⟨hno, MW_mk ws_eq (ws_ne (Nat.ne_of_beq_eq_false rfl) w_36) h_xs (by first | omega | (simp only [List.length_append, List.length_nil, List.length_cons, List.length_take, List.length_replicate, List.length_range, List.length_map, lof_len, pad_len, padd_len, md5_len, strm_len, strms_len, entOf_len, hif_len] <;> omega)) (ws_ne (Nat.ne_of_beq_eq_false rfl) w_37) h_rs (by first | omega | (simp only [List.length_append, List.length_nil, List.length_cons, List.length_take, List.length_replicate, List.length_range, List.length_map, lof_len, pad_len, padd_len, md5_len, strm_len, strms_len, entOf_len, hif_len] <;> omega)) (ws_ne (Nat.ne_of_beq_eq_false rfl) w_38) h_ow (by first | omega | (simp only [List.length_append, List.length_nil, List.length_cons, List.length_take, List.length_replicate, List.length_range, List.length_map, lof_len, pad_len, padd_len, md5_len, strm_len, strms_len, entOf_len, hif_len] <;> omega)) (ws_ne (Nat.ne_of_beq_eq_false rfl) w_39) h_us (by first | omega | (simp only [List.length_append, List.length_nil, List.length_cons, List.length_take, List.length_replicate, List.length_range, List.length_map, lof_len, pad_len, padd_len, md5_len, strm_len, strms_len, entOf_len, hif_len] <;> omega)) (ws_ne (Nat.ne_of_beq_eq_false rfl) w_40) h_nb (by first | omega | (simp only [List.length_append, List.length_nil, List.length_cons, List.length_take, List.length_replicate, List.length_range, List.length_map, lof_len, pad_len, padd_len, md5_len, strm_len, strms_len, entOf_len, hif_len] <;> omega)) (ws_ne (Nat.ne_of_beq_eq_false rfl) w_41) h_op (by first | omega | (simp only [List.length_append, List.length_nil, List.length_cons, List.length_take, List.length_replicate, List.length_range, List.length_map, lof_len, pad_len, padd_len, md5_len, strm_len, strms_len, entOf_len, hif_len] <;> omega)) (ws_ne (Nat.ne_of_beq_eq_false rfl) w_42) h_up (by first | omega | (simp only [List.length_append, List.length_nil, List.length_cons, List.length_take, List.length_replicate, List.length_range, List.length_map, lof_len, pad_len, padd_len, md5_len, strm_len, strms_len, entOf_len, hif_len] <;> omega)) (ws_ne (Nat.ne_of_beq_eq_false rfl) w_43) h_kn (by first | omega | (simp only [List.length_append, List.length_nil, List.length_cons, List.length_take, List.length_replicate, List.length_range, List.length_map, lof_len, pad_len, padd_len, md5_len, strm_len, strms_len, entOf_len, hif_len] <;> omega)) (ws_ne (Nat.ne_of_beq_eq_false rfl) w_50) h_hl (by first | omega | (simp only [List.length_append, List.length_nil, List.length_cons, List.length_take, List.length_replicate, List.length_range, List.length_map, lof_len, pad_len, padd_len, md5_len, strm_len, strms_len, entOf_len, hif_len] <;> omega)) (ws_ne (Nat.ne_of_beq_eq_false rfl) w_44) (ws_ne (Nat.ne_of_beq_eq_false rfl) w_45) (ws_ne (Nat.ne_of_beq_eq_false rfl) w_46) (ws_ne (Nat.ne_of_beq_eq_false rfl) w_47) hsn (ws_ne (Nat.ne_of_beq_eq_false rfl) w_48) htn (ws_ne (Nat.ne_of_beq_eq_false rfl) w_49) hpd (ws_ne (Nat.ne_of_beq_eq_false rfl) w_51) (ws_ne (Nat.ne_of_beq_eq_false rfl) w_52) (ws_ne (Nat.ne_of_beq_eq_false rfl) w_53) (ws_ne (Nat.ne_of_beq_eq_false rfl) w_54) (ws_ne (Nat.ne_of_beq_eq_false rfl) w_55) (ws_ne (Nat.ne_of_beq_eq_false rfl) w_56) (ws_ne (Nat.ne_of_beq_eq_false rfl) w_57) (ws_ne (Nat.ne_of_beq_eq_false rfl) w_58) hik, rfl⟩, (frm_set (Nat.le_of_ble_eq_true rfl) (Nat.le_of_ble_eq_true rfl) (frm_rf _))⟩)
    · skip
      refine r_aload_n C dX6_take_20 rfl ?_
      refine r_get C dX6_take_21 fgRX6_156 (Nat.le_of_ble_eq_true rfl) w_35 rfl ?_
      refine r_bipush C dX6_take_24 (v := 32) (by decide) ?_
      refine r_icmp_ne C 33 dX6_take_26 (by decide) (fun c_26 => ?_) (fun c_26 => ?_)
      · skip
        have c_26 : ¬ (xs.length = 32) := fun h9 => c_26 ((nI_eq (a := xs.length) (b := 32) (by omega) (by omega)).mpr h9)
        refine r_iconst C dX6_take_33 (v := 0) (by decide) ?_
        refine r_goto C 51 dX6_take_34 (by decide) ?_
        refine r_istore_n C dX6_take_51 (L' := [some (.ref 35), some (.int p1), some (.int 0), some (.int 0), none]) (by decide) rfl ?_
        refine r_aload_n C dX6_take_52 rfl ?_
        refine r_iload_n C dX6_take_53 rfl ?_
        refine r_if_ne C 61 dX6_take_54 (by decide) (fun c_54 => ?_) (fun c_54 => ?_)
        · skip
          exact absurd c_54 (by decide)
        · skip
          refine r_iconst C dX6_take_57 (v := 1) (by decide) ?_
          refine r_goto C 70 dX6_take_58 (by decide) ?_
          refine r_callVi C (As := [.int 1]) (rest := []) dX6_take_70 (cX6_refused9 w_35 (p1 := 1)) okX6_refused mlRX6_159 imX6_refused seX6_refused ⟨by decide, by decide⟩ rfl rfl (Nat.le_of_ble_eq_true rfl) w_35 rfl rfl (Nat.le_of_ble_eq_true rfl) (by decide) (by decide) (fun r_3 w9 h9 => ?_)
          obtain ⟨rfl, er_⟩ := h9
          have er_ : r_3 = 1 := er_.trans (if_neg (by decide))
          subst er_
          refine r_if_eq C 78 dX6_take_73 (by decide) (fun c_73 => ?_) (fun c_73 => ?_)
          · skip
            exact absurd c_73 (by decide)
          · skip
            refine r_iconst C dX6_take_76 (v := 0) (by decide) ?_
            exact r_ireturn C T_ rfl rfl dX6_take_77 (⟨_, rfl, Or.inl ⟨hno, MW_mk ws_eq (ws_ne (Nat.ne_of_beq_eq_false rfl) w_36) h_xs (by first | omega | (simp only [List.length_append, List.length_nil, List.length_cons, List.length_take, List.length_replicate, List.length_range, List.length_map, lof_len, pad_len, padd_len, md5_len, strm_len, strms_len, entOf_len, hif_len] <;> omega)) (ws_ne (Nat.ne_of_beq_eq_false rfl) w_37) h_rs (by first | omega | (simp only [List.length_append, List.length_nil, List.length_cons, List.length_take, List.length_replicate, List.length_range, List.length_map, lof_len, pad_len, padd_len, md5_len, strm_len, strms_len, entOf_len, hif_len] <;> omega)) (ws_ne (Nat.ne_of_beq_eq_false rfl) w_38) h_ow (by first | omega | (simp only [List.length_append, List.length_nil, List.length_cons, List.length_take, List.length_replicate, List.length_range, List.length_map, lof_len, pad_len, padd_len, md5_len, strm_len, strms_len, entOf_len, hif_len] <;> omega)) (ws_ne (Nat.ne_of_beq_eq_false rfl) w_39) h_us (by first | omega | (simp only [List.length_append, List.length_nil, List.length_cons, List.length_take, List.length_replicate, List.length_range, List.length_map, lof_len, pad_len, padd_len, md5_len, strm_len, strms_len, entOf_len, hif_len] <;> omega)) (ws_ne (Nat.ne_of_beq_eq_false rfl) w_40) h_nb (by first | omega | (simp only [List.length_append, List.length_nil, List.length_cons, List.length_take, List.length_replicate, List.length_range, List.length_map, lof_len, pad_len, padd_len, md5_len, strm_len, strms_len, entOf_len, hif_len] <;> omega)) (ws_ne (Nat.ne_of_beq_eq_false rfl) w_41) h_op (by first | omega | (simp only [List.length_append, List.length_nil, List.length_cons, List.length_take, List.length_replicate, List.length_range, List.length_map, lof_len, pad_len, padd_len, md5_len, strm_len, strms_len, entOf_len, hif_len] <;> omega)) (ws_ne (Nat.ne_of_beq_eq_false rfl) w_42) h_up (by first | omega | (simp only [List.length_append, List.length_nil, List.length_cons, List.length_take, List.length_replicate, List.length_range, List.length_map, lof_len, pad_len, padd_len, md5_len, strm_len, strms_len, entOf_len, hif_len] <;> omega)) (ws_ne (Nat.ne_of_beq_eq_false rfl) w_43) h_kn (by first | omega | (simp only [List.length_append, List.length_nil, List.length_cons, List.length_take, List.length_replicate, List.length_range, List.length_map, lof_len, pad_len, padd_len, md5_len, strm_len, strms_len, entOf_len, hif_len] <;> omega)) (ws_ne (Nat.ne_of_beq_eq_false rfl) w_50) h_hl (by first | omega | (simp only [List.length_append, List.length_nil, List.length_cons, List.length_take, List.length_replicate, List.length_range, List.length_map, lof_len, pad_len, padd_len, md5_len, strm_len, strms_len, entOf_len, hif_len] <;> omega)) (ws_ne (Nat.ne_of_beq_eq_false rfl) w_44) (ws_ne (Nat.ne_of_beq_eq_false rfl) w_45) (ws_ne (Nat.ne_of_beq_eq_false rfl) w_46) (ws_ne (Nat.ne_of_beq_eq_false rfl) w_47) hsn (ws_ne (Nat.ne_of_beq_eq_false rfl) w_48) htn (ws_ne (Nat.ne_of_beq_eq_false rfl) w_49) hpd (ws_ne (Nat.ne_of_beq_eq_false rfl) w_51) (ws_ne (Nat.ne_of_beq_eq_false rfl) w_52) (ws_ne (Nat.ne_of_beq_eq_false rfl) w_53) (ws_ne (Nat.ne_of_beq_eq_false rfl) w_54) (ws_ne (Nat.ne_of_beq_eq_false rfl) w_55) (ws_ne (Nat.ne_of_beq_eq_false rfl) w_56) (ws_ne (Nat.ne_of_beq_eq_false rfl) w_57) (ws_ne (Nat.ne_of_beq_eq_false rfl) w_58) hik, rfl⟩, (frm_set (Nat.le_of_ble_eq_true rfl) (Nat.le_of_ble_eq_true rfl) (frm_rf _))⟩)
      · skip
        have c_26 : xs.length = 32 := (nI_eq (a := xs.length) (b := 32) (by omega) (by omega)).mp c_26
        refine r_iconst C dX6_take_29 (v := 1) (by decide) ?_
        refine r_goto C 51 dX6_take_30 (by decide) ?_
        refine r_istore_n C dX6_take_51 (L' := [some (.ref 35), some (.int p1), some (.int 0), some (.int 1), none]) (by decide) rfl ?_
        refine r_aload_n C dX6_take_52 rfl ?_
        refine r_iload_n C dX6_take_53 rfl ?_
        refine r_if_ne C 61 dX6_take_54 (by decide) (fun c_54 => ?_) (fun c_54 => ?_)
        · skip
          exact absurd c_54 (by decide)
        · skip
          refine r_iconst C dX6_take_57 (v := 1) (by decide) ?_
          refine r_goto C 70 dX6_take_58 (by decide) ?_
          refine r_callVi C (As := [.int 1]) (rest := []) dX6_take_70 (cX6_refused9 w_35 (p1 := 1)) okX6_refused mlRX6_159 imX6_refused seX6_refused ⟨by decide, by decide⟩ rfl rfl (Nat.le_of_ble_eq_true rfl) w_35 rfl rfl (Nat.le_of_ble_eq_true rfl) (by decide) (by decide) (fun r_4 w9 h9 => ?_)
          obtain ⟨rfl, er_⟩ := h9
          have er_ : r_4 = 1 := er_.trans (if_neg (by decide))
          subst er_
          refine r_if_eq C 78 dX6_take_73 (by decide) (fun c_73 => ?_) (fun c_73 => ?_)
          · skip
            exact absurd c_73 (by decide)
          · skip
            refine r_iconst C dX6_take_76 (v := 0) (by decide) ?_
            exact r_ireturn C T_ rfl rfl dX6_take_77 (⟨_, rfl, Or.inl ⟨hno, MW_mk ws_eq (ws_ne (Nat.ne_of_beq_eq_false rfl) w_36) h_xs (by first | omega | (simp only [List.length_append, List.length_nil, List.length_cons, List.length_take, List.length_replicate, List.length_range, List.length_map, lof_len, pad_len, padd_len, md5_len, strm_len, strms_len, entOf_len, hif_len] <;> omega)) (ws_ne (Nat.ne_of_beq_eq_false rfl) w_37) h_rs (by first | omega | (simp only [List.length_append, List.length_nil, List.length_cons, List.length_take, List.length_replicate, List.length_range, List.length_map, lof_len, pad_len, padd_len, md5_len, strm_len, strms_len, entOf_len, hif_len] <;> omega)) (ws_ne (Nat.ne_of_beq_eq_false rfl) w_38) h_ow (by first | omega | (simp only [List.length_append, List.length_nil, List.length_cons, List.length_take, List.length_replicate, List.length_range, List.length_map, lof_len, pad_len, padd_len, md5_len, strm_len, strms_len, entOf_len, hif_len] <;> omega)) (ws_ne (Nat.ne_of_beq_eq_false rfl) w_39) h_us (by first | omega | (simp only [List.length_append, List.length_nil, List.length_cons, List.length_take, List.length_replicate, List.length_range, List.length_map, lof_len, pad_len, padd_len, md5_len, strm_len, strms_len, entOf_len, hif_len] <;> omega)) (ws_ne (Nat.ne_of_beq_eq_false rfl) w_40) h_nb (by first | omega | (simp only [List.length_append, List.length_nil, List.length_cons, List.length_take, List.length_replicate, List.length_range, List.length_map, lof_len, pad_len, padd_len, md5_len, strm_len, strms_len, entOf_len, hif_len] <;> omega)) (ws_ne (Nat.ne_of_beq_eq_false rfl) w_41) h_op (by first | omega | (simp only [List.length_append, List.length_nil, List.length_cons, List.length_take, List.length_replicate, List.length_range, List.length_map, lof_len, pad_len, padd_len, md5_len, strm_len, strms_len, entOf_len, hif_len] <;> omega)) (ws_ne (Nat.ne_of_beq_eq_false rfl) w_42) h_up (by first | omega | (simp only [List.length_append, List.length_nil, List.length_cons, List.length_take, List.length_replicate, List.length_range, List.length_map, lof_len, pad_len, padd_len, md5_len, strm_len, strms_len, entOf_len, hif_len] <;> omega)) (ws_ne (Nat.ne_of_beq_eq_false rfl) w_43) h_kn (by first | omega | (simp only [List.length_append, List.length_nil, List.length_cons, List.length_take, List.length_replicate, List.length_range, List.length_map, lof_len, pad_len, padd_len, md5_len, strm_len, strms_len, entOf_len, hif_len] <;> omega)) (ws_ne (Nat.ne_of_beq_eq_false rfl) w_50) h_hl (by first | omega | (simp only [List.length_append, List.length_nil, List.length_cons, List.length_take, List.length_replicate, List.length_range, List.length_map, lof_len, pad_len, padd_len, md5_len, strm_len, strms_len, entOf_len, hif_len] <;> omega)) (ws_ne (Nat.ne_of_beq_eq_false rfl) w_44) (ws_ne (Nat.ne_of_beq_eq_false rfl) w_45) (ws_ne (Nat.ne_of_beq_eq_false rfl) w_46) (ws_ne (Nat.ne_of_beq_eq_false rfl) w_47) hsn (ws_ne (Nat.ne_of_beq_eq_false rfl) w_48) htn (ws_ne (Nat.ne_of_beq_eq_false rfl) w_49) hpd (ws_ne (Nat.ne_of_beq_eq_false rfl) w_51) (ws_ne (Nat.ne_of_beq_eq_false rfl) w_52) (ws_ne (Nat.ne_of_beq_eq_false rfl) w_53) (ws_ne (Nat.ne_of_beq_eq_false rfl) w_54) (ws_ne (Nat.ne_of_beq_eq_false rfl) w_55) (ws_ne (Nat.ne_of_beq_eq_false rfl) w_56) (ws_ne (Nat.ne_of_beq_eq_false rfl) w_57) (ws_ne (Nat.ne_of_beq_eq_false rfl) w_58) hik, rfl⟩, (frm_set (Nat.le_of_ble_eq_true rfl) (Nat.le_of_ble_eq_true rfl) (frm_rf _))⟩)
  · skip
    refine r_iload_n C dX6_take_4 rfl ?_
    refine r_iconst C dX6_take_5 (v := 4) (by decide) ?_
    refine r_icmp_gt C 13 dX6_take_6 (by decide) (fun c_6 => ?_) (fun c_6 => ?_)
    · skip
      refine r_iconst C dX6_take_13 (v := 0) (by decide) ?_
      refine r_istore_n C dX6_take_14 (L' := [some (.ref 35), some (.int p1), some (.int 0), none, none]) (by decide) rfl ?_
      refine r_iload_n C dX6_take_15 rfl ?_
      refine r_iconst C dX6_take_16 (v := 2) (by decide) ?_
      refine r_icmp_ge C 37 dX6_take_17 (by decide) (fun c_17 => ?_) (fun c_17 => ?_)
      · skip
        refine r_aload_n C dX6_take_37 rfl ?_
        refine r_get C dX6_take_38 fgRX6_156 (Nat.le_of_ble_eq_true rfl) w_35 rfl ?_
        refine r_bipush C dX6_take_41 (v := 64) (by decide) ?_
        refine r_icmp_gt C 50 dX6_take_43 (by decide) (fun c_43 => ?_) (fun c_43 => ?_)
        · skip
          have c_43 : 64 < xs.length := (nI_ltI (a := 64) (b := xs.length) (by omega) (by omega)).mp c_43
          refine r_iconst C dX6_take_50 (v := 0) (by decide) ?_
          refine r_istore_n C dX6_take_51 (L' := [some (.ref 35), some (.int p1), some (.int 0), some (.int 0), none]) (by decide) rfl ?_
          refine r_aload_n C dX6_take_52 rfl ?_
          refine r_iload_n C dX6_take_53 rfl ?_
          refine r_if_ne C 61 dX6_take_54 (by decide) (fun c_54 => ?_) (fun c_54 => ?_)
          · skip
            exact absurd c_54 (by decide)
          · skip
            refine r_iconst C dX6_take_57 (v := 1) (by decide) ?_
            refine r_goto C 70 dX6_take_58 (by decide) ?_
            refine r_callVi C (As := [.int 1]) (rest := []) dX6_take_70 (cX6_refused9 w_35 (p1 := 1)) okX6_refused mlRX6_159 imX6_refused seX6_refused ⟨by decide, by decide⟩ rfl rfl (Nat.le_of_ble_eq_true rfl) w_35 rfl rfl (Nat.le_of_ble_eq_true rfl) (by decide) (by decide) (fun r_5 w9 h9 => ?_)
            obtain ⟨rfl, er_⟩ := h9
            have er_ : r_5 = 1 := er_.trans (if_neg (by decide))
            subst er_
            refine r_if_eq C 78 dX6_take_73 (by decide) (fun c_73 => ?_) (fun c_73 => ?_)
            · skip
              exact absurd c_73 (by decide)
            · skip
              refine r_iconst C dX6_take_76 (v := 0) (by decide) ?_
              exact r_ireturn C T_ rfl rfl dX6_take_77 (⟨_, rfl, Or.inl ⟨hno, MW_mk ws_eq (ws_ne (Nat.ne_of_beq_eq_false rfl) w_36) h_xs (by first | omega | (simp only [List.length_append, List.length_nil, List.length_cons, List.length_take, List.length_replicate, List.length_range, List.length_map, lof_len, pad_len, padd_len, md5_len, strm_len, strms_len, entOf_len, hif_len] <;> omega)) (ws_ne (Nat.ne_of_beq_eq_false rfl) w_37) h_rs (by first | omega | (simp only [List.length_append, List.length_nil, List.length_cons, List.length_take, List.length_replicate, List.length_range, List.length_map, lof_len, pad_len, padd_len, md5_len, strm_len, strms_len, entOf_len, hif_len] <;> omega)) (ws_ne (Nat.ne_of_beq_eq_false rfl) w_38) h_ow (by first | omega | (simp only [List.length_append, List.length_nil, List.length_cons, List.length_take, List.length_replicate, List.length_range, List.length_map, lof_len, pad_len, padd_len, md5_len, strm_len, strms_len, entOf_len, hif_len] <;> omega)) (ws_ne (Nat.ne_of_beq_eq_false rfl) w_39) h_us (by first | omega | (simp only [List.length_append, List.length_nil, List.length_cons, List.length_take, List.length_replicate, List.length_range, List.length_map, lof_len, pad_len, padd_len, md5_len, strm_len, strms_len, entOf_len, hif_len] <;> omega)) (ws_ne (Nat.ne_of_beq_eq_false rfl) w_40) h_nb (by first | omega | (simp only [List.length_append, List.length_nil, List.length_cons, List.length_take, List.length_replicate, List.length_range, List.length_map, lof_len, pad_len, padd_len, md5_len, strm_len, strms_len, entOf_len, hif_len] <;> omega)) (ws_ne (Nat.ne_of_beq_eq_false rfl) w_41) h_op (by first | omega | (simp only [List.length_append, List.length_nil, List.length_cons, List.length_take, List.length_replicate, List.length_range, List.length_map, lof_len, pad_len, padd_len, md5_len, strm_len, strms_len, entOf_len, hif_len] <;> omega)) (ws_ne (Nat.ne_of_beq_eq_false rfl) w_42) h_up (by first | omega | (simp only [List.length_append, List.length_nil, List.length_cons, List.length_take, List.length_replicate, List.length_range, List.length_map, lof_len, pad_len, padd_len, md5_len, strm_len, strms_len, entOf_len, hif_len] <;> omega)) (ws_ne (Nat.ne_of_beq_eq_false rfl) w_43) h_kn (by first | omega | (simp only [List.length_append, List.length_nil, List.length_cons, List.length_take, List.length_replicate, List.length_range, List.length_map, lof_len, pad_len, padd_len, md5_len, strm_len, strms_len, entOf_len, hif_len] <;> omega)) (ws_ne (Nat.ne_of_beq_eq_false rfl) w_50) h_hl (by first | omega | (simp only [List.length_append, List.length_nil, List.length_cons, List.length_take, List.length_replicate, List.length_range, List.length_map, lof_len, pad_len, padd_len, md5_len, strm_len, strms_len, entOf_len, hif_len] <;> omega)) (ws_ne (Nat.ne_of_beq_eq_false rfl) w_44) (ws_ne (Nat.ne_of_beq_eq_false rfl) w_45) (ws_ne (Nat.ne_of_beq_eq_false rfl) w_46) (ws_ne (Nat.ne_of_beq_eq_false rfl) w_47) hsn (ws_ne (Nat.ne_of_beq_eq_false rfl) w_48) htn (ws_ne (Nat.ne_of_beq_eq_false rfl) w_49) hpd (ws_ne (Nat.ne_of_beq_eq_false rfl) w_51) (ws_ne (Nat.ne_of_beq_eq_false rfl) w_52) (ws_ne (Nat.ne_of_beq_eq_false rfl) w_53) (ws_ne (Nat.ne_of_beq_eq_false rfl) w_54) (ws_ne (Nat.ne_of_beq_eq_false rfl) w_55) (ws_ne (Nat.ne_of_beq_eq_false rfl) w_56) (ws_ne (Nat.ne_of_beq_eq_false rfl) w_57) (ws_ne (Nat.ne_of_beq_eq_false rfl) w_58) hik, rfl⟩, (frm_set (Nat.le_of_ble_eq_true rfl) (Nat.le_of_ble_eq_true rfl) (frm_rf _))⟩)
        · skip
          have c_43 : ¬ (64 < xs.length) := fun h9 => c_43 ((nI_ltI (a := 64) (b := xs.length) (by omega) (by omega)).mpr h9)
          refine r_iconst C dX6_take_46 (v := 1) (by decide) ?_
          refine r_goto C 51 dX6_take_47 (by decide) ?_
          refine r_istore_n C dX6_take_51 (L' := [some (.ref 35), some (.int p1), some (.int 0), some (.int 1), none]) (by decide) rfl ?_
          refine r_aload_n C dX6_take_52 rfl ?_
          refine r_iload_n C dX6_take_53 rfl ?_
          refine r_if_ne C 61 dX6_take_54 (by decide) (fun c_54 => ?_) (fun c_54 => ?_)
          · skip
            exact absurd c_54 (by decide)
          · skip
            refine r_iconst C dX6_take_57 (v := 1) (by decide) ?_
            refine r_goto C 70 dX6_take_58 (by decide) ?_
            refine r_callVi C (As := [.int 1]) (rest := []) dX6_take_70 (cX6_refused9 w_35 (p1 := 1)) okX6_refused mlRX6_159 imX6_refused seX6_refused ⟨by decide, by decide⟩ rfl rfl (Nat.le_of_ble_eq_true rfl) w_35 rfl rfl (Nat.le_of_ble_eq_true rfl) (by decide) (by decide) (fun r_6 w9 h9 => ?_)
            obtain ⟨rfl, er_⟩ := h9
            have er_ : r_6 = 1 := er_.trans (if_neg (by decide))
            subst er_
            refine r_if_eq C 78 dX6_take_73 (by decide) (fun c_73 => ?_) (fun c_73 => ?_)
            · skip
              exact absurd c_73 (by decide)
            · skip
              refine r_iconst C dX6_take_76 (v := 0) (by decide) ?_
              exact r_ireturn C T_ rfl rfl dX6_take_77 (⟨_, rfl, Or.inl ⟨hno, MW_mk ws_eq (ws_ne (Nat.ne_of_beq_eq_false rfl) w_36) h_xs (by first | omega | (simp only [List.length_append, List.length_nil, List.length_cons, List.length_take, List.length_replicate, List.length_range, List.length_map, lof_len, pad_len, padd_len, md5_len, strm_len, strms_len, entOf_len, hif_len] <;> omega)) (ws_ne (Nat.ne_of_beq_eq_false rfl) w_37) h_rs (by first | omega | (simp only [List.length_append, List.length_nil, List.length_cons, List.length_take, List.length_replicate, List.length_range, List.length_map, lof_len, pad_len, padd_len, md5_len, strm_len, strms_len, entOf_len, hif_len] <;> omega)) (ws_ne (Nat.ne_of_beq_eq_false rfl) w_38) h_ow (by first | omega | (simp only [List.length_append, List.length_nil, List.length_cons, List.length_take, List.length_replicate, List.length_range, List.length_map, lof_len, pad_len, padd_len, md5_len, strm_len, strms_len, entOf_len, hif_len] <;> omega)) (ws_ne (Nat.ne_of_beq_eq_false rfl) w_39) h_us (by first | omega | (simp only [List.length_append, List.length_nil, List.length_cons, List.length_take, List.length_replicate, List.length_range, List.length_map, lof_len, pad_len, padd_len, md5_len, strm_len, strms_len, entOf_len, hif_len] <;> omega)) (ws_ne (Nat.ne_of_beq_eq_false rfl) w_40) h_nb (by first | omega | (simp only [List.length_append, List.length_nil, List.length_cons, List.length_take, List.length_replicate, List.length_range, List.length_map, lof_len, pad_len, padd_len, md5_len, strm_len, strms_len, entOf_len, hif_len] <;> omega)) (ws_ne (Nat.ne_of_beq_eq_false rfl) w_41) h_op (by first | omega | (simp only [List.length_append, List.length_nil, List.length_cons, List.length_take, List.length_replicate, List.length_range, List.length_map, lof_len, pad_len, padd_len, md5_len, strm_len, strms_len, entOf_len, hif_len] <;> omega)) (ws_ne (Nat.ne_of_beq_eq_false rfl) w_42) h_up (by first | omega | (simp only [List.length_append, List.length_nil, List.length_cons, List.length_take, List.length_replicate, List.length_range, List.length_map, lof_len, pad_len, padd_len, md5_len, strm_len, strms_len, entOf_len, hif_len] <;> omega)) (ws_ne (Nat.ne_of_beq_eq_false rfl) w_43) h_kn (by first | omega | (simp only [List.length_append, List.length_nil, List.length_cons, List.length_take, List.length_replicate, List.length_range, List.length_map, lof_len, pad_len, padd_len, md5_len, strm_len, strms_len, entOf_len, hif_len] <;> omega)) (ws_ne (Nat.ne_of_beq_eq_false rfl) w_50) h_hl (by first | omega | (simp only [List.length_append, List.length_nil, List.length_cons, List.length_take, List.length_replicate, List.length_range, List.length_map, lof_len, pad_len, padd_len, md5_len, strm_len, strms_len, entOf_len, hif_len] <;> omega)) (ws_ne (Nat.ne_of_beq_eq_false rfl) w_44) (ws_ne (Nat.ne_of_beq_eq_false rfl) w_45) (ws_ne (Nat.ne_of_beq_eq_false rfl) w_46) (ws_ne (Nat.ne_of_beq_eq_false rfl) w_47) hsn (ws_ne (Nat.ne_of_beq_eq_false rfl) w_48) htn (ws_ne (Nat.ne_of_beq_eq_false rfl) w_49) hpd (ws_ne (Nat.ne_of_beq_eq_false rfl) w_51) (ws_ne (Nat.ne_of_beq_eq_false rfl) w_52) (ws_ne (Nat.ne_of_beq_eq_false rfl) w_53) (ws_ne (Nat.ne_of_beq_eq_false rfl) w_54) (ws_ne (Nat.ne_of_beq_eq_false rfl) w_55) (ws_ne (Nat.ne_of_beq_eq_false rfl) w_56) (ws_ne (Nat.ne_of_beq_eq_false rfl) w_57) (ws_ne (Nat.ne_of_beq_eq_false rfl) w_58) hik, rfl⟩, (frm_set (Nat.le_of_ble_eq_true rfl) (Nat.le_of_ble_eq_true rfl) (frm_rf _))⟩)
      · skip
        refine r_aload_n C dX6_take_20 rfl ?_
        refine r_get C dX6_take_21 fgRX6_156 (Nat.le_of_ble_eq_true rfl) w_35 rfl ?_
        refine r_bipush C dX6_take_24 (v := 32) (by decide) ?_
        refine r_icmp_ne C 33 dX6_take_26 (by decide) (fun c_26 => ?_) (fun c_26 => ?_)
        · skip
          have c_26 : ¬ (xs.length = 32) := fun h9 => c_26 ((nI_eq (a := xs.length) (b := 32) (by omega) (by omega)).mpr h9)
          refine r_iconst C dX6_take_33 (v := 0) (by decide) ?_
          refine r_goto C 51 dX6_take_34 (by decide) ?_
          refine r_istore_n C dX6_take_51 (L' := [some (.ref 35), some (.int p1), some (.int 0), some (.int 0), none]) (by decide) rfl ?_
          refine r_aload_n C dX6_take_52 rfl ?_
          refine r_iload_n C dX6_take_53 rfl ?_
          refine r_if_ne C 61 dX6_take_54 (by decide) (fun c_54 => ?_) (fun c_54 => ?_)
          · skip
            exact absurd c_54 (by decide)
          · skip
            refine r_iconst C dX6_take_57 (v := 1) (by decide) ?_
            refine r_goto C 70 dX6_take_58 (by decide) ?_
            refine r_callVi C (As := [.int 1]) (rest := []) dX6_take_70 (cX6_refused9 w_35 (p1 := 1)) okX6_refused mlRX6_159 imX6_refused seX6_refused ⟨by decide, by decide⟩ rfl rfl (Nat.le_of_ble_eq_true rfl) w_35 rfl rfl (Nat.le_of_ble_eq_true rfl) (by decide) (by decide) (fun r_7 w9 h9 => ?_)
            obtain ⟨rfl, er_⟩ := h9
            have er_ : r_7 = 1 := er_.trans (if_neg (by decide))
            subst er_
            refine r_if_eq C 78 dX6_take_73 (by decide) (fun c_73 => ?_) (fun c_73 => ?_)
            · skip
              exact absurd c_73 (by decide)
            · skip
              refine r_iconst C dX6_take_76 (v := 0) (by decide) ?_
              exact r_ireturn C T_ rfl rfl dX6_take_77 (⟨_, rfl, Or.inl ⟨hno, MW_mk ws_eq (ws_ne (Nat.ne_of_beq_eq_false rfl) w_36) h_xs (by first | omega | (simp only [List.length_append, List.length_nil, List.length_cons, List.length_take, List.length_replicate, List.length_range, List.length_map, lof_len, pad_len, padd_len, md5_len, strm_len, strms_len, entOf_len, hif_len] <;> omega)) (ws_ne (Nat.ne_of_beq_eq_false rfl) w_37) h_rs (by first | omega | (simp only [List.length_append, List.length_nil, List.length_cons, List.length_take, List.length_replicate, List.length_range, List.length_map, lof_len, pad_len, padd_len, md5_len, strm_len, strms_len, entOf_len, hif_len] <;> omega)) (ws_ne (Nat.ne_of_beq_eq_false rfl) w_38) h_ow (by first | omega | (simp only [List.length_append, List.length_nil, List.length_cons, List.length_take, List.length_replicate, List.length_range, List.length_map, lof_len, pad_len, padd_len, md5_len, strm_len, strms_len, entOf_len, hif_len] <;> omega)) (ws_ne (Nat.ne_of_beq_eq_false rfl) w_39) h_us (by first | omega | (simp only [List.length_append, List.length_nil, List.length_cons, List.length_take, List.length_replicate, List.length_range, List.length_map, lof_len, pad_len, padd_len, md5_len, strm_len, strms_len, entOf_len, hif_len] <;> omega)) (ws_ne (Nat.ne_of_beq_eq_false rfl) w_40) h_nb (by first | omega | (simp only [List.length_append, List.length_nil, List.length_cons, List.length_take, List.length_replicate, List.length_range, List.length_map, lof_len, pad_len, padd_len, md5_len, strm_len, strms_len, entOf_len, hif_len] <;> omega)) (ws_ne (Nat.ne_of_beq_eq_false rfl) w_41) h_op (by first | omega | (simp only [List.length_append, List.length_nil, List.length_cons, List.length_take, List.length_replicate, List.length_range, List.length_map, lof_len, pad_len, padd_len, md5_len, strm_len, strms_len, entOf_len, hif_len] <;> omega)) (ws_ne (Nat.ne_of_beq_eq_false rfl) w_42) h_up (by first | omega | (simp only [List.length_append, List.length_nil, List.length_cons, List.length_take, List.length_replicate, List.length_range, List.length_map, lof_len, pad_len, padd_len, md5_len, strm_len, strms_len, entOf_len, hif_len] <;> omega)) (ws_ne (Nat.ne_of_beq_eq_false rfl) w_43) h_kn (by first | omega | (simp only [List.length_append, List.length_nil, List.length_cons, List.length_take, List.length_replicate, List.length_range, List.length_map, lof_len, pad_len, padd_len, md5_len, strm_len, strms_len, entOf_len, hif_len] <;> omega)) (ws_ne (Nat.ne_of_beq_eq_false rfl) w_50) h_hl (by first | omega | (simp only [List.length_append, List.length_nil, List.length_cons, List.length_take, List.length_replicate, List.length_range, List.length_map, lof_len, pad_len, padd_len, md5_len, strm_len, strms_len, entOf_len, hif_len] <;> omega)) (ws_ne (Nat.ne_of_beq_eq_false rfl) w_44) (ws_ne (Nat.ne_of_beq_eq_false rfl) w_45) (ws_ne (Nat.ne_of_beq_eq_false rfl) w_46) (ws_ne (Nat.ne_of_beq_eq_false rfl) w_47) hsn (ws_ne (Nat.ne_of_beq_eq_false rfl) w_48) htn (ws_ne (Nat.ne_of_beq_eq_false rfl) w_49) hpd (ws_ne (Nat.ne_of_beq_eq_false rfl) w_51) (ws_ne (Nat.ne_of_beq_eq_false rfl) w_52) (ws_ne (Nat.ne_of_beq_eq_false rfl) w_53) (ws_ne (Nat.ne_of_beq_eq_false rfl) w_54) (ws_ne (Nat.ne_of_beq_eq_false rfl) w_55) (ws_ne (Nat.ne_of_beq_eq_false rfl) w_56) (ws_ne (Nat.ne_of_beq_eq_false rfl) w_57) (ws_ne (Nat.ne_of_beq_eq_false rfl) w_58) hik, rfl⟩, (frm_set (Nat.le_of_ble_eq_true rfl) (Nat.le_of_ble_eq_true rfl) (frm_rf _))⟩)
        · skip
          have c_26 : xs.length = 32 := (nI_eq (a := xs.length) (b := 32) (by omega) (by omega)).mp c_26
          refine r_iconst C dX6_take_29 (v := 1) (by decide) ?_
          refine r_goto C 51 dX6_take_30 (by decide) ?_
          refine r_istore_n C dX6_take_51 (L' := [some (.ref 35), some (.int p1), some (.int 0), some (.int 1), none]) (by decide) rfl ?_
          refine r_aload_n C dX6_take_52 rfl ?_
          refine r_iload_n C dX6_take_53 rfl ?_
          refine r_if_ne C 61 dX6_take_54 (by decide) (fun c_54 => ?_) (fun c_54 => ?_)
          · skip
            exact absurd c_54 (by decide)
          · skip
            refine r_iconst C dX6_take_57 (v := 1) (by decide) ?_
            refine r_goto C 70 dX6_take_58 (by decide) ?_
            refine r_callVi C (As := [.int 1]) (rest := []) dX6_take_70 (cX6_refused9 w_35 (p1 := 1)) okX6_refused mlRX6_159 imX6_refused seX6_refused ⟨by decide, by decide⟩ rfl rfl (Nat.le_of_ble_eq_true rfl) w_35 rfl rfl (Nat.le_of_ble_eq_true rfl) (by decide) (by decide) (fun r_8 w9 h9 => ?_)
            obtain ⟨rfl, er_⟩ := h9
            have er_ : r_8 = 1 := er_.trans (if_neg (by decide))
            subst er_
            refine r_if_eq C 78 dX6_take_73 (by decide) (fun c_73 => ?_) (fun c_73 => ?_)
            · skip
              exact absurd c_73 (by decide)
            · skip
              refine r_iconst C dX6_take_76 (v := 0) (by decide) ?_
              exact r_ireturn C T_ rfl rfl dX6_take_77 (⟨_, rfl, Or.inl ⟨hno, MW_mk ws_eq (ws_ne (Nat.ne_of_beq_eq_false rfl) w_36) h_xs (by first | omega | (simp only [List.length_append, List.length_nil, List.length_cons, List.length_take, List.length_replicate, List.length_range, List.length_map, lof_len, pad_len, padd_len, md5_len, strm_len, strms_len, entOf_len, hif_len] <;> omega)) (ws_ne (Nat.ne_of_beq_eq_false rfl) w_37) h_rs (by first | omega | (simp only [List.length_append, List.length_nil, List.length_cons, List.length_take, List.length_replicate, List.length_range, List.length_map, lof_len, pad_len, padd_len, md5_len, strm_len, strms_len, entOf_len, hif_len] <;> omega)) (ws_ne (Nat.ne_of_beq_eq_false rfl) w_38) h_ow (by first | omega | (simp only [List.length_append, List.length_nil, List.length_cons, List.length_take, List.length_replicate, List.length_range, List.length_map, lof_len, pad_len, padd_len, md5_len, strm_len, strms_len, entOf_len, hif_len] <;> omega)) (ws_ne (Nat.ne_of_beq_eq_false rfl) w_39) h_us (by first | omega | (simp only [List.length_append, List.length_nil, List.length_cons, List.length_take, List.length_replicate, List.length_range, List.length_map, lof_len, pad_len, padd_len, md5_len, strm_len, strms_len, entOf_len, hif_len] <;> omega)) (ws_ne (Nat.ne_of_beq_eq_false rfl) w_40) h_nb (by first | omega | (simp only [List.length_append, List.length_nil, List.length_cons, List.length_take, List.length_replicate, List.length_range, List.length_map, lof_len, pad_len, padd_len, md5_len, strm_len, strms_len, entOf_len, hif_len] <;> omega)) (ws_ne (Nat.ne_of_beq_eq_false rfl) w_41) h_op (by first | omega | (simp only [List.length_append, List.length_nil, List.length_cons, List.length_take, List.length_replicate, List.length_range, List.length_map, lof_len, pad_len, padd_len, md5_len, strm_len, strms_len, entOf_len, hif_len] <;> omega)) (ws_ne (Nat.ne_of_beq_eq_false rfl) w_42) h_up (by first | omega | (simp only [List.length_append, List.length_nil, List.length_cons, List.length_take, List.length_replicate, List.length_range, List.length_map, lof_len, pad_len, padd_len, md5_len, strm_len, strms_len, entOf_len, hif_len] <;> omega)) (ws_ne (Nat.ne_of_beq_eq_false rfl) w_43) h_kn (by first | omega | (simp only [List.length_append, List.length_nil, List.length_cons, List.length_take, List.length_replicate, List.length_range, List.length_map, lof_len, pad_len, padd_len, md5_len, strm_len, strms_len, entOf_len, hif_len] <;> omega)) (ws_ne (Nat.ne_of_beq_eq_false rfl) w_50) h_hl (by first | omega | (simp only [List.length_append, List.length_nil, List.length_cons, List.length_take, List.length_replicate, List.length_range, List.length_map, lof_len, pad_len, padd_len, md5_len, strm_len, strms_len, entOf_len, hif_len] <;> omega)) (ws_ne (Nat.ne_of_beq_eq_false rfl) w_44) (ws_ne (Nat.ne_of_beq_eq_false rfl) w_45) (ws_ne (Nat.ne_of_beq_eq_false rfl) w_46) (ws_ne (Nat.ne_of_beq_eq_false rfl) w_47) hsn (ws_ne (Nat.ne_of_beq_eq_false rfl) w_48) htn (ws_ne (Nat.ne_of_beq_eq_false rfl) w_49) hpd (ws_ne (Nat.ne_of_beq_eq_false rfl) w_51) (ws_ne (Nat.ne_of_beq_eq_false rfl) w_52) (ws_ne (Nat.ne_of_beq_eq_false rfl) w_53) (ws_ne (Nat.ne_of_beq_eq_false rfl) w_54) (ws_ne (Nat.ne_of_beq_eq_false rfl) w_55) (ws_ne (Nat.ne_of_beq_eq_false rfl) w_56) (ws_ne (Nat.ne_of_beq_eq_false rfl) w_57) (ws_ne (Nat.ne_of_beq_eq_false rfl) w_58) hik, rfl⟩, (frm_set (Nat.le_of_ble_eq_true rfl) (Nat.le_of_ble_eq_true rfl) (frm_rf _))⟩)
    · skip
      exact absurd ⟨c_1, c_6⟩ hno
theorem mX6_take9 {w : Wo} {fa : Int32} {xs rs : List Nat} {rv : Int32} {ln : Nat} {pm lo : Int32} {ow us nb op up kn : List Nat} (mw : MW fa (xs, rs, rv, ln, pm, lo, ow, us, nb, op, up, kn) w) (ps : PSok (xs, rs, rv, ln, pm, lo, ow, us, nb, op, up, kn)) {p1 : Int32} : Ctr mX6_take [.ref 35, .int p1] w (PI fun r w' => ((¬ tkIn p1 ∧ MW 1 (xs, rs, rv, ln, pm, lo, ow, us, nb, op, up, kn) w' ∧ r = 0) ∨ (tkIn p1 ∧ ¬ tkOk p1 xs ∧ MW 2 (xs, rs, rv, ln, pm, lo, ow, us, nb, op, up, kn) w' ∧ r = 0) ∨ (tkIn p1 ∧ tkOk p1 xs ∧ MW 0 (tkS p1 (xs, rs, rv, ln, pm, lo, ow, us, nb, op, up, kn)) w' ∧ r = nI xs.length)) ∧ frm w w') := by
  by_cases h : tkIn p1
  · obtain ⟨b, hb, rfl⟩ := nI_of2 (n := 4) (by decide) h.1 (Int32.not_lt.mp h.2)
    rcases (show b = 0 ∨ b = 1 ∨ b = 2 ∨ b = 3 ∨ b = 4 by omega) with rfl | rfl | rfl | rfl | rfl
    · exact mX6_take9_0 mw ps
    · exact mX6_take9_1 mw ps
    · exact mX6_take9_2 mw ps
    · exact mX6_take9_3 mw ps
    · exact mX6_take9_4 mw ps
  · exact mX6_take9_x mw ps h
