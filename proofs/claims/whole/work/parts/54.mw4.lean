set_option maxHeartbeats 4000000 in
set_option maxRecDepth 100000 in
theorem cX6_isSound9 {w : Wo} {nu ge me : Int32} : Ctr mX6_isSound [.ref 35, .int nu, .int ge, .int me] w (PI fun r w' => w' = w ∧ ((sndO nu ge me ∧ r = 1) ∨ (¬ sndO nu ge me ∧ r = 0))) := by
  refine Ctr_intro okX6_isSound rfl (Nat.le_of_ble_eq_true rfl) (L := [some (.ref 35), some (.int nu), some (.int ge), some (.int me)]) rfl (fun g ct C T_ => ?_)
  refine r_iload_n C dX6_isSound_0 rfl ?_
  refine r_if_lt C 35 dX6_isSound_1 (by decide) (fun c_1 => ?_) (fun c_1 => ?_)
  · skip
    refine r_iconst C dX6_isSound_35 (v := 0) (by decide) ?_
    exact r_ireturn C T_ rfl (by decide) dX6_isSound_36 (⟨_, rfl, rfl, Or.inr ⟨fun z => z.1 c_1, rfl⟩⟩)
  · skip
    refine r_iload_n C dX6_isSound_4 rfl ?_
    refine r_ldcw C dX6_isSound_5 cnRX6_270 ?_
    refine r_icmp_gt C 35 dX6_isSound_8 (by decide) (fun c_8 => ?_) (fun c_8 => ?_)
    · skip
      refine r_iconst C dX6_isSound_35 (v := 0) (by decide) ?_
      exact r_ireturn C T_ rfl (by decide) dX6_isSound_36 (⟨_, rfl, rfl, Or.inr ⟨fun z => z.2.1 c_8, rfl⟩⟩)
    · skip
      refine r_iload_n C dX6_isSound_11 rfl ?_
      refine r_if_lt C 35 dX6_isSound_12 (by decide) (fun c_12 => ?_) (fun c_12 => ?_)
      · skip
        refine r_iconst C dX6_isSound_35 (v := 0) (by decide) ?_
        exact r_ireturn C T_ rfl (by decide) dX6_isSound_36 (⟨_, rfl, rfl, Or.inr ⟨fun z => z.2.2.1 c_12, rfl⟩⟩)
      · skip
        refine r_iload_n C dX6_isSound_15 rfl ?_
        refine r_ldcw C dX6_isSound_16 cnRX6_271 ?_
        refine r_icmp_gt C 35 dX6_isSound_19 (by decide) (fun c_19 => ?_) (fun c_19 => ?_)
        · skip
          refine r_iconst C dX6_isSound_35 (v := 0) (by decide) ?_
          exact r_ireturn C T_ rfl (by decide) dX6_isSound_36 (⟨_, rfl, rfl, Or.inr ⟨fun z => z.2.2.2.1 c_19, rfl⟩⟩)
        · skip
          refine r_iload_n C dX6_isSound_22 rfl ?_
          refine r_if_lt C 35 dX6_isSound_23 (by decide) (fun c_23 => ?_) (fun c_23 => ?_)
          · skip
            refine r_iconst C dX6_isSound_35 (v := 0) (by decide) ?_
            exact r_ireturn C T_ rfl (by decide) dX6_isSound_36 (⟨_, rfl, rfl, Or.inr ⟨fun z => z.2.2.2.2.1 c_23, rfl⟩⟩)
          · skip
            refine r_iload_n C dX6_isSound_26 rfl ?_
            refine r_iconst C dX6_isSound_27 (v := 2) (by decide) ?_
            refine r_icmp_gt C 35 dX6_isSound_28 (by decide) (fun c_28 => ?_) (fun c_28 => ?_)
            · skip
              refine r_iconst C dX6_isSound_35 (v := 0) (by decide) ?_
              exact r_ireturn C T_ rfl (by decide) dX6_isSound_36 (⟨_, rfl, rfl, Or.inr ⟨fun z => z.2.2.2.2.2 c_28, rfl⟩⟩)
            · skip
              refine r_iconst C dX6_isSound_31 (v := 1) (by decide) ?_
              refine r_goto C 36 dX6_isSound_32 (by decide) ?_
              exact r_ireturn C T_ rfl (by decide) dX6_isSound_36 (⟨_, rfl, rfl, Or.inl ⟨⟨c_1, c_8, c_12, c_19, c_23, c_28⟩, rfl⟩⟩)
set_option maxHeartbeats 4000000 in
set_option maxRecDepth 100000 in
theorem cX6_copy9 {w : Wo} {xs : List Nat} {fx fr9 : Nat → Int32} {fa rz rv ln pm lo ns os uz ik ms hsz : Int32} (w_35 : w 35 = mo fa (nI xs.length) rz rv ln pm lo ns os uz ik ms hsz) (w_36 : w 36 = ia 16384 fx) (h_xs : hs fx xs) (k_xs : xs.length ≤ 16384) (w_37 : w 37 = ia 16384 fr9) : Ctr mX6_copy [.ref 35] w (PV fun w' => ∃ fr', w' = wset (wset (w) 35 (mo fa (nI xs.length) (nI xs.length) rv ln pm lo ns os uz ik ms hsz)) 37 (ia 16384 fr') ∧ hs fr' xs) := by
  refine Ctr_intro okX6_copy rfl (Nat.le_of_ble_eq_true rfl) (L := [some (.ref 35), none]) rfl (fun g ct C T_ => ?_)
  refine r_aload_n C dX6_copy_0 rfl ?_
  refine r_aload_n C dX6_copy_1 rfl ?_
  refine r_get C dX6_copy_2 fgRX6_156 (Nat.le_of_ble_eq_true rfl) w_35 rfl ?_
  refine r_put C dX6_copy_5 fpRX6_194 (Nat.le_of_ble_eq_true rfl) w_35 rfl rfl (Nat.le_of_ble_eq_true rfl) (fs' := [.int fa, .int (nI xs.length), .ref 36, .int (nI xs.length), .ref 37, .int rv, .int ln, .int pm, .int lo, .ref 38, .ref 39, .int ns, .ref 40, .int os, .ref 41, .int uz, .ref 42, .int ik, .ref 43, .int ms, .ref 44, .ref 45, .ref 46, .ref 47, .ref 48, .ref 49, .int hsz, .ref 50, .ref 51, .ref 52, .ref 53, .ref 54, .ref 55, .ref 56, .ref 57, .ref 58]) rfl ?_
  refine r_iconst C dX6_copy_8 (v := 0) (by decide) ?_
  refine r_istore_n C dX6_copy_9 (L' := [some (.ref 35), some (.int 0)]) (by decide) rfl ?_
  have loop_10 : ∀ (d9 : Nat) (k : Nat) (f1 : Nat → Int32), xs.length - k < d9 → k ≤ xs.length → (∀ m, m < k → f1 m = nI (xs.getD m 0)) → Az g mX6_copy ct 0 0 10 [some (.ref 35), some (.int (nI k))] [] (wset (wset w 35 (mo fa (nI xs.length) (nI xs.length) rv ln pm lo ns os uz ik ms hsz)) 37 (ia 16384 f1)) := by
    intro d9
    induction d9 with
    | zero => intro k f1 hd9; exact absurd hd9 (Nat.not_lt_zero _)
    | succ d9 ih_10 =>
      intro k f1 hd9 hk hp
      refine r_iload_n C dX6_copy_10 rfl ?_
      refine r_aload_n C dX6_copy_11 rfl ?_
      refine r_get C dX6_copy_12 fgRX6_156 (Nat.le_of_ble_eq_true rfl) (ws_ne (Nat.ne_of_beq_eq_false rfl) ws_eq) rfl ?_
      refine r_icmp_ge C 36 dX6_copy_15 (by decide) (fun c_15 => ?_) (fun c_15 => ?_)
      · skip
        have c_15 : xs.length ≤ k := (nI_leI (a := xs.length) (b := k) (by omega) (by omega)).mp c_15
        exact r_return C T_ rfl dX6_copy_36 (⟨rfl, _, rfl, hs_pre (xs := xs) rfl (fun m hm => hp m (by omega)) (fun m hm => rfl)⟩)
      · skip
        have c_15 : ¬ (xs.length ≤ k) := fun h9 => c_15 ((nI_leI (a := xs.length) (b := k) (by omega) (by omega)).mpr h9)
        refine r_aload_n C dX6_copy_18 rfl ?_
        refine r_get C dX6_copy_19 fgRX6_13 (Nat.le_of_ble_eq_true rfl) (ws_ne (Nat.ne_of_beq_eq_false rfl) ws_eq) rfl ?_
        refine r_iload_n C dX6_copy_22 rfl ?_
        refine r_aload_n C dX6_copy_23 rfl ?_
        refine r_get C dX6_copy_24 fgRX6_7 (Nat.le_of_ble_eq_true rfl) (ws_ne (Nat.ne_of_beq_eq_false rfl) ws_eq) rfl ?_
        refine r_iload_n C dX6_copy_27 rfl ?_
        refine r_ialdN C dX6_copy_28 (Nat.le_of_ble_eq_true rfl) (ws_ne (Nat.ne_of_beq_eq_false rfl) (ws_ne (Nat.ne_of_beq_eq_false rfl) w_36)) (j := k) rfl (by omega) (by decide) ?_
        refine r_top (y := nI (xs.getD k 0)) (h_xs _ (by omega)) ?_
        refine r_iastN C dX6_copy_29 (Nat.le_of_ble_eq_true rfl) ws_eq (j := k) rfl (by omega) (by decide) ?_
        refine r_eq rfl rfl ws_same ?_
        refine r_iinc C dX6_copy_30 (v := nI (k + 1)) (L' := [some (.ref 35), some (.int (nI (k + 1)))]) rfl (nI_add k 1) (by decide) rfl ?_
        refine r_goto C 10 dX6_copy_33 (by decide) ?_
        exact ih_10 (k + 1) _ (by omega) (by omega) (up_lt hp rfl)
  refine r_eq rfl rfl (ws_self (ws_ne (Nat.ne_of_beq_eq_false rfl) w_37)).symm ?_
  exact loop_10 _ 0 _ (Nat.lt_succ_self _) (by omega) (fun m hm => absurd hm (Nat.not_lt_zero m))
set_option maxHeartbeats 4000000 in
set_option maxRecDepth 100000 in
theorem mX6_digest9 {w : Wo} {fa : Int32} {xs rs : List Nat} {rv : Int32} {ln : Nat} {pm lo : Int32} {ow us nb op up kn : List Nat} (mw : MW fa (xs, rs, rv, ln, pm, lo, ow, us, nb, op, up, kn) w) (ps : PSok (xs, rs, rv, ln, pm, lo, ow, us, nb, op, up, kn)) : Ctr mX6_digest [.ref 35] w (PV fun w' => MW 0 (xs, md5 xs, rv, ln, pm, lo, ow, us, nb, op, up, kn) w' ∧ frm w w') := by
  refine Ctr_intro okX6_digest rfl (Nat.le_of_ble_eq_true rfl) (L := [some (.ref 35), none]) rfl (fun g ct C T_ => ?_)
  refine MW_open mw (fun fx fr9 fo fus fn fop fup fk fh hl fm fd vA vB vC vD fsn ftn fpd ft fe fp fot K B SW BK ik w_35 w_36 h_xs k_xs w_37 h_rs k_rs w_38 h_ow k_ow w_39 h_us k_us w_40 h_nb k_nb w_41 h_op k_op w_42 h_up k_up w_43 h_kn k_kn w_50 h_hl k_hl w_44 w_45 w_46 w_47 hsn w_48 htn w_49 hpd w_51 w_52 w_53 w_54 w_55 w_56 w_57 w_58 hik => ?_)
  obtain ⟨bx, br, bo, bu, bn, bp, bq, bk9, lo9, lu9, hkn, hrv, hln, hlo⟩ := ps
  refine r_aload_n C dX6_digest_0 rfl ?_
  refine r_iconst C dX6_digest_1 (v := 0) (by decide) ?_
  refine r_put C dX6_digest_2 fpRX6_153 (Nat.le_of_ble_eq_true rfl) w_35 rfl rfl (Nat.le_of_ble_eq_true rfl) (fs' := [.int 0, .int (nI xs.length), .ref 36, .int (nI rs.length), .ref 37, .int rv, .int (nI ln), .int pm, .int lo, .ref 38, .ref 39, .int (nI nb.length), .ref 40, .int (nI op.length), .ref 41, .int (nI up.length), .ref 42, .int ik, .ref 43, .int (nI (([] : List Nat).length)), .ref 44, .ref 45, .ref 46, .ref 47, .ref 48, .ref 49, .int (nI hl.length), .ref 50, .ref 51, .ref 52, .ref 53, .ref 54, .ref 55, .ref 56, .ref 57, .ref 58]) rfl ?_
  refine r_iconst C dX6_digest_5 (v := 0) (by decide) ?_
  refine r_istore_n C dX6_digest_6 (L' := [some (.ref 35), some (.int 0)]) (by decide) rfl ?_
  have loop_7 : ∀ (d9 : Nat) (ka : Nat) (za : List Nat) (fma : Nat → Int32), xs.length - ka < d9 → ka ≤ xs.length → za = xs.take ka → hs fma za → Az g mX6_digest ct 0 0 7 [some (.ref 35), some (.int (nI ka))] [] (wset (wset w 35 (mo 0 (nI xs.length) (nI rs.length) rv (nI ln) pm lo (nI nb.length) (nI op.length) (nI up.length) ik (nI za.length) (nI hl.length))) 44 (ia 16512 fma)) := by
    intro d9
    induction d9 with
    | zero => intro ka za fma hd9; exact absurd hd9 (Nat.not_lt_zero _)
    | succ d9 ih_7 =>
      intro ka za fma hd9 hka hza hfma
      have hla : za.length = ka := by rw [hza, List.length_take]; omega
      refine r_iload_n C dX6_digest_7 rfl ?_
      refine r_aload_n C dX6_digest_8 rfl ?_
      refine r_get C dX6_digest_9 fgRX6_156 (Nat.le_of_ble_eq_true rfl) (ws_ne (Nat.ne_of_beq_eq_false rfl) ws_eq) rfl ?_
      refine r_icmp_ge C 31 dX6_digest_12 (by decide) (fun c_12 => ?_) (fun c_12 => ?_)
      · skip
        have c_12 : xs.length ≤ ka := (nI_leI (a := xs.length) (b := ka) (by omega) (by omega)).mp c_12
        have e9ka : za = xs := by rw [hza, show ka = xs.length by omega]; rw [take_all (Nat.le_refl _)]
        have e9ka := e9ka.symm
        subst e9ka
        refine r_aload_n C dX6_digest_31 rfl ?_
        refine r_callVv C (As := []) (rest := []) dX6_digest_32 (cX6_finish9 (ws_ne (Nat.ne_of_beq_eq_false rfl) ws_eq) ws_eq hfma (by omega) (ws_ne (Nat.ne_of_beq_eq_false rfl) (ws_ne (Nat.ne_of_beq_eq_false rfl) w_46)) (ws_ne (Nat.ne_of_beq_eq_false rfl) (ws_ne (Nat.ne_of_beq_eq_false rfl) w_45)) (ws_ne (Nat.ne_of_beq_eq_false rfl) (ws_ne (Nat.ne_of_beq_eq_false rfl) w_47)) hsn (ws_ne (Nat.ne_of_beq_eq_false rfl) (ws_ne (Nat.ne_of_beq_eq_false rfl) w_48)) htn) okX6_finish mlRX6_185 imX6_finish seX6_finish ⟨by decide, by decide⟩ rfl rfl (Nat.le_of_ble_eq_true rfl) (ws_ne (Nat.ne_of_beq_eq_false rfl) ws_eq) rfl rfl (Nat.le_of_ble_eq_true rfl) (by decide) (by decide) (fun w9 h9 => ?_)
        obtain ⟨fm_1, t_2, t_3, t_4, t_5, fd_6, rfl, h_7⟩ := h9
        refine r_eq rfl rfl ((congrArg (fun z => wset (wset (wset (z) 35 (mo 0 (nI xs.length) (nI rs.length) rv (nI ln) pm lo (nI nb.length) (nI op.length) (nI up.length) ik (nI (([] : List Nat).length)) (nI hl.length))) 46 (ia 4 (q4f t_2 t_3 t_4 t_5))) 45 (ia 16 fd_6)) ws_same).trans (congrArg (fun z => wset (wset (z) 46 (ia 4 (q4f t_2 t_3 t_4 t_5))) 45 (ia 16 fd_6)) ((ws_comm (Nat.ne_of_beq_eq_false rfl)).trans (congrArg (fun z => wset z 44 (ia 16512 fm_1)) ws_same)))) ?_
        have hdg := h_7
        refine r_aload_n C dX6_digest_35 rfl ?_
        refine r_bipush C dX6_digest_36 (v := 16) (by decide) ?_
        refine r_put C dX6_digest_38 fpRX6_194 (Nat.le_of_ble_eq_true rfl) (ws_ne (Nat.ne_of_beq_eq_false rfl) (ws_ne (Nat.ne_of_beq_eq_false rfl) (ws_ne (Nat.ne_of_beq_eq_false rfl) ws_eq))) rfl rfl (Nat.le_of_ble_eq_true rfl) (fs' := [.int 0, .int (nI xs.length), .ref 36, .int 16, .ref 37, .int rv, .int (nI ln), .int pm, .int lo, .ref 38, .ref 39, .int (nI nb.length), .ref 40, .int (nI op.length), .ref 41, .int (nI up.length), .ref 42, .int ik, .ref 43, .int (nI (([] : List Nat).length)), .ref 44, .ref 45, .ref 46, .ref 47, .ref 48, .ref 49, .int (nI hl.length), .ref 50, .ref 51, .ref 52, .ref 53, .ref 54, .ref 55, .ref 56, .ref 57, .ref 58]) rfl ?_
        refine r_eq rfl rfl ((ws_comm (Nat.ne_of_beq_eq_false rfl)).trans (congrArg (fun z => wset z 45 (ia 16 fd_6)) ((ws_comm (Nat.ne_of_beq_eq_false rfl)).trans (congrArg (fun z => wset z 46 (ia 4 (q4f t_2 t_3 t_4 t_5))) ((ws_comm (Nat.ne_of_beq_eq_false rfl)).trans (congrArg (fun z => wset z 44 (ia 16512 fm_1)) ws_same)))))) ?_
        refine r_eq rfl rfl (show _ = _ from by rw [show (16 : Int32) = nI (md5 xs).length from by rw [md5_len]; rfl]) ?_
        refine r_iconst C dX6_digest_41 (v := 0) (by decide) ?_
        refine r_istore_n C dX6_digest_42 (L' := [some (.ref 35), some (.int 0)]) (by decide) rfl ?_
        have loop_43 : ∀ (d9 : Nat) (k : Nat) (f1 : Nat → Int32), 16 - k < d9 → k ≤ 16 → (∀ m, m < k → f1 m = nI ((md5 xs).getD m 0)) → Az g mX6_digest ct 0 0 43 [some (.ref 35), some (.int (nI k))] [] (wset (wset (wset (wset (wset w 35 (mo 0 (nI xs.length) (nI ((md5 xs).length)) rv (nI ln) pm lo (nI nb.length) (nI op.length) (nI up.length) ik (nI (([] : List Nat).length)) (nI hl.length))) 44 (ia 16512 fm_1)) 46 (ia 4 (q4f t_2 t_3 t_4 t_5))) 45 (ia 16 fd_6)) 37 (ia 16384 f1)) := by
          intro d9
          induction d9 with
          | zero => intro k f1 hd9; exact absurd hd9 (Nat.not_lt_zero _)
          | succ d9 ih_43 =>
            intro k f1 hd9 hk hp
            refine r_iload_n C dX6_digest_43 rfl ?_
            refine r_bipush C dX6_digest_44 (v := 16) (by decide) ?_
            refine r_icmp_ge C 67 dX6_digest_46 (by decide) (fun c_46 => ?_) (fun c_46 => ?_)
            · skip
              have c_46 : 16 ≤ k := (nI_leI (a := 16) (b := k) (by omega) (by omega)).mp c_46
              exact r_return C T_ rfl dX6_digest_67 (⟨rfl, MW_mk (ws_ne (Nat.ne_of_beq_eq_false rfl) (ws_ne (Nat.ne_of_beq_eq_false rfl) (ws_ne (Nat.ne_of_beq_eq_false rfl) (ws_ne (Nat.ne_of_beq_eq_false rfl) ws_eq)))) (ws_ne (Nat.ne_of_beq_eq_false rfl) (ws_ne (Nat.ne_of_beq_eq_false rfl) (ws_ne (Nat.ne_of_beq_eq_false rfl) (ws_ne (Nat.ne_of_beq_eq_false rfl) (ws_ne (Nat.ne_of_beq_eq_false rfl) w_36))))) h_xs (by first | omega | (simp only [List.length_append, List.length_nil, List.length_cons, List.length_take, List.length_replicate, List.length_range, List.length_map, lof_len, pad_len, padd_len, md5_len, strm_len, strms_len, entOf_len, hif_len] <;> omega)) ws_eq (hs_pre (xs := md5 xs) rfl (fun m hm => hp m (by rw [md5_len] at hm; omega)) (fun m hm => rfl)) (by rw [md5_len]; decide) (ws_ne (Nat.ne_of_beq_eq_false rfl) (ws_ne (Nat.ne_of_beq_eq_false rfl) (ws_ne (Nat.ne_of_beq_eq_false rfl) (ws_ne (Nat.ne_of_beq_eq_false rfl) (ws_ne (Nat.ne_of_beq_eq_false rfl) w_38))))) h_ow (by first | omega | (simp only [List.length_append, List.length_nil, List.length_cons, List.length_take, List.length_replicate, List.length_range, List.length_map, lof_len, pad_len, padd_len, md5_len, strm_len, strms_len, entOf_len, hif_len] <;> omega)) (ws_ne (Nat.ne_of_beq_eq_false rfl) (ws_ne (Nat.ne_of_beq_eq_false rfl) (ws_ne (Nat.ne_of_beq_eq_false rfl) (ws_ne (Nat.ne_of_beq_eq_false rfl) (ws_ne (Nat.ne_of_beq_eq_false rfl) w_39))))) h_us (by first | omega | (simp only [List.length_append, List.length_nil, List.length_cons, List.length_take, List.length_replicate, List.length_range, List.length_map, lof_len, pad_len, padd_len, md5_len, strm_len, strms_len, entOf_len, hif_len] <;> omega)) (ws_ne (Nat.ne_of_beq_eq_false rfl) (ws_ne (Nat.ne_of_beq_eq_false rfl) (ws_ne (Nat.ne_of_beq_eq_false rfl) (ws_ne (Nat.ne_of_beq_eq_false rfl) (ws_ne (Nat.ne_of_beq_eq_false rfl) w_40))))) h_nb (by first | omega | (simp only [List.length_append, List.length_nil, List.length_cons, List.length_take, List.length_replicate, List.length_range, List.length_map, lof_len, pad_len, padd_len, md5_len, strm_len, strms_len, entOf_len, hif_len] <;> omega)) (ws_ne (Nat.ne_of_beq_eq_false rfl) (ws_ne (Nat.ne_of_beq_eq_false rfl) (ws_ne (Nat.ne_of_beq_eq_false rfl) (ws_ne (Nat.ne_of_beq_eq_false rfl) (ws_ne (Nat.ne_of_beq_eq_false rfl) w_41))))) h_op (by first | omega | (simp only [List.length_append, List.length_nil, List.length_cons, List.length_take, List.length_replicate, List.length_range, List.length_map, lof_len, pad_len, padd_len, md5_len, strm_len, strms_len, entOf_len, hif_len] <;> omega)) (ws_ne (Nat.ne_of_beq_eq_false rfl) (ws_ne (Nat.ne_of_beq_eq_false rfl) (ws_ne (Nat.ne_of_beq_eq_false rfl) (ws_ne (Nat.ne_of_beq_eq_false rfl) (ws_ne (Nat.ne_of_beq_eq_false rfl) w_42))))) h_up (by first | omega | (simp only [List.length_append, List.length_nil, List.length_cons, List.length_take, List.length_replicate, List.length_range, List.length_map, lof_len, pad_len, padd_len, md5_len, strm_len, strms_len, entOf_len, hif_len] <;> omega)) (ws_ne (Nat.ne_of_beq_eq_false rfl) (ws_ne (Nat.ne_of_beq_eq_false rfl) (ws_ne (Nat.ne_of_beq_eq_false rfl) (ws_ne (Nat.ne_of_beq_eq_false rfl) (ws_ne (Nat.ne_of_beq_eq_false rfl) w_43))))) h_kn (by first | omega | (simp only [List.length_append, List.length_nil, List.length_cons, List.length_take, List.length_replicate, List.length_range, List.length_map, lof_len, pad_len, padd_len, md5_len, strm_len, strms_len, entOf_len, hif_len] <;> omega)) (ws_ne (Nat.ne_of_beq_eq_false rfl) (ws_ne (Nat.ne_of_beq_eq_false rfl) (ws_ne (Nat.ne_of_beq_eq_false rfl) (ws_ne (Nat.ne_of_beq_eq_false rfl) (ws_ne (Nat.ne_of_beq_eq_false rfl) w_50))))) h_hl (by first | omega | (simp only [List.length_append, List.length_nil, List.length_cons, List.length_take, List.length_replicate, List.length_range, List.length_map, lof_len, pad_len, padd_len, md5_len, strm_len, strms_len, entOf_len, hif_len] <;> omega)) (ws_ne (Nat.ne_of_beq_eq_false rfl) (ws_ne (Nat.ne_of_beq_eq_false rfl) (ws_ne (Nat.ne_of_beq_eq_false rfl) ws_eq))) (ws_ne (Nat.ne_of_beq_eq_false rfl) ws_eq) (ws_ne (Nat.ne_of_beq_eq_false rfl) (ws_ne (Nat.ne_of_beq_eq_false rfl) ws_eq)) (ws_ne (Nat.ne_of_beq_eq_false rfl) (ws_ne (Nat.ne_of_beq_eq_false rfl) (ws_ne (Nat.ne_of_beq_eq_false rfl) (ws_ne (Nat.ne_of_beq_eq_false rfl) (ws_ne (Nat.ne_of_beq_eq_false rfl) w_47))))) hsn (ws_ne (Nat.ne_of_beq_eq_false rfl) (ws_ne (Nat.ne_of_beq_eq_false rfl) (ws_ne (Nat.ne_of_beq_eq_false rfl) (ws_ne (Nat.ne_of_beq_eq_false rfl) (ws_ne (Nat.ne_of_beq_eq_false rfl) w_48))))) htn (ws_ne (Nat.ne_of_beq_eq_false rfl) (ws_ne (Nat.ne_of_beq_eq_false rfl) (ws_ne (Nat.ne_of_beq_eq_false rfl) (ws_ne (Nat.ne_of_beq_eq_false rfl) (ws_ne (Nat.ne_of_beq_eq_false rfl) w_49))))) hpd (ws_ne (Nat.ne_of_beq_eq_false rfl) (ws_ne (Nat.ne_of_beq_eq_false rfl) (ws_ne (Nat.ne_of_beq_eq_false rfl) (ws_ne (Nat.ne_of_beq_eq_false rfl) (ws_ne (Nat.ne_of_beq_eq_false rfl) w_51))))) (ws_ne (Nat.ne_of_beq_eq_false rfl) (ws_ne (Nat.ne_of_beq_eq_false rfl) (ws_ne (Nat.ne_of_beq_eq_false rfl) (ws_ne (Nat.ne_of_beq_eq_false rfl) (ws_ne (Nat.ne_of_beq_eq_false rfl) w_52))))) (ws_ne (Nat.ne_of_beq_eq_false rfl) (ws_ne (Nat.ne_of_beq_eq_false rfl) (ws_ne (Nat.ne_of_beq_eq_false rfl) (ws_ne (Nat.ne_of_beq_eq_false rfl) (ws_ne (Nat.ne_of_beq_eq_false rfl) w_53))))) (ws_ne (Nat.ne_of_beq_eq_false rfl) (ws_ne (Nat.ne_of_beq_eq_false rfl) (ws_ne (Nat.ne_of_beq_eq_false rfl) (ws_ne (Nat.ne_of_beq_eq_false rfl) (ws_ne (Nat.ne_of_beq_eq_false rfl) w_54))))) (ws_ne (Nat.ne_of_beq_eq_false rfl) (ws_ne (Nat.ne_of_beq_eq_false rfl) (ws_ne (Nat.ne_of_beq_eq_false rfl) (ws_ne (Nat.ne_of_beq_eq_false rfl) (ws_ne (Nat.ne_of_beq_eq_false rfl) w_55))))) (ws_ne (Nat.ne_of_beq_eq_false rfl) (ws_ne (Nat.ne_of_beq_eq_false rfl) (ws_ne (Nat.ne_of_beq_eq_false rfl) (ws_ne (Nat.ne_of_beq_eq_false rfl) (ws_ne (Nat.ne_of_beq_eq_false rfl) w_56))))) (ws_ne (Nat.ne_of_beq_eq_false rfl) (ws_ne (Nat.ne_of_beq_eq_false rfl) (ws_ne (Nat.ne_of_beq_eq_false rfl) (ws_ne (Nat.ne_of_beq_eq_false rfl) (ws_ne (Nat.ne_of_beq_eq_false rfl) w_57))))) (ws_ne (Nat.ne_of_beq_eq_false rfl) (ws_ne (Nat.ne_of_beq_eq_false rfl) (ws_ne (Nat.ne_of_beq_eq_false rfl) (ws_ne (Nat.ne_of_beq_eq_false rfl) (ws_ne (Nat.ne_of_beq_eq_false rfl) w_58))))) hik, (frm_set (Nat.le_of_ble_eq_true rfl) (Nat.le_of_ble_eq_true rfl) (frm_set (Nat.le_of_ble_eq_true rfl) (Nat.le_of_ble_eq_true rfl) (frm_set (Nat.le_of_ble_eq_true rfl) (Nat.le_of_ble_eq_true rfl) (frm_set (Nat.le_of_ble_eq_true rfl) (Nat.le_of_ble_eq_true rfl) (frm_set (Nat.le_of_ble_eq_true rfl) (Nat.le_of_ble_eq_true rfl) (frm_rf _))))))⟩)
            · skip
              have c_46 : ¬ (16 ≤ k) := fun h9 => c_46 ((nI_leI (a := 16) (b := k) (by omega) (by omega)).mpr h9)
              refine r_aload_n C dX6_digest_49 rfl ?_
              refine r_get C dX6_digest_50 fgRX6_13 (Nat.le_of_ble_eq_true rfl) (ws_ne (Nat.ne_of_beq_eq_false rfl) (ws_ne (Nat.ne_of_beq_eq_false rfl) (ws_ne (Nat.ne_of_beq_eq_false rfl) (ws_ne (Nat.ne_of_beq_eq_false rfl) ws_eq)))) rfl ?_
              refine r_iload_n C dX6_digest_53 rfl ?_
              refine r_aload_n C dX6_digest_54 rfl ?_
              refine r_get C dX6_digest_55 fgRX6_47 (Nat.le_of_ble_eq_true rfl) (ws_ne (Nat.ne_of_beq_eq_false rfl) (ws_ne (Nat.ne_of_beq_eq_false rfl) (ws_ne (Nat.ne_of_beq_eq_false rfl) (ws_ne (Nat.ne_of_beq_eq_false rfl) ws_eq)))) rfl ?_
              refine r_iload_n C dX6_digest_58 rfl ?_
              refine r_ialdN C dX6_digest_59 (Nat.le_of_ble_eq_true rfl) (ws_ne (Nat.ne_of_beq_eq_false rfl) ws_eq) (j := k) rfl (by omega) (by decide) ?_
              refine r_top (y := nI ((md5 xs).getD k 0)) (hdg _ (by rw [md5_len]; omega)) ?_
              refine r_iastN C dX6_digest_60 (Nat.le_of_ble_eq_true rfl) ws_eq (j := k) rfl (by omega) (by decide) ?_
              refine r_eq rfl rfl ws_same ?_
              refine r_iinc C dX6_digest_61 (v := nI (k + 1)) (L' := [some (.ref 35), some (.int (nI (k + 1)))]) rfl (nI_add k 1) (by decide) rfl ?_
              refine r_goto C 43 dX6_digest_64 (by decide) ?_
              exact ih_43 (k + 1) _ (by omega) (by omega) (up_lt hp rfl)
        refine r_eq rfl rfl (ws_self (ws_ne (Nat.ne_of_beq_eq_false rfl) (ws_ne (Nat.ne_of_beq_eq_false rfl) (ws_ne (Nat.ne_of_beq_eq_false rfl) (ws_ne (Nat.ne_of_beq_eq_false rfl) w_37))))).symm ?_
        exact loop_43 _ 0 _ (Nat.lt_succ_self _) (by omega) (fun m hm => absurd hm (Nat.not_lt_zero m))
      · skip
        have c_12 : ¬ (xs.length ≤ ka) := fun h9 => c_12 ((nI_leI (a := xs.length) (b := ka) (by omega) (by omega)).mpr h9)
        refine r_aload_n C dX6_digest_15 rfl ?_
        refine r_aload_n C dX6_digest_16 rfl ?_
        refine r_get C dX6_digest_17 fgRX6_7 (Nat.le_of_ble_eq_true rfl) (ws_ne (Nat.ne_of_beq_eq_false rfl) ws_eq) rfl ?_
        refine r_iload_n C dX6_digest_20 rfl ?_
        refine r_ialdN C dX6_digest_21 (Nat.le_of_ble_eq_true rfl) (ws_ne (Nat.ne_of_beq_eq_false rfl) (ws_ne (Nat.ne_of_beq_eq_false rfl) w_36)) (j := ka) rfl (by omega) (by decide) ?_
        refine r_top (y := nI (xs.getD ka 0)) (h_xs _ (by omega)) ?_
        refine r_callVv C (As := [.int (nI (xs.getD ka 0))]) (rest := []) dX6_digest_22 (cX6_say9 (ws_ne (Nat.ne_of_beq_eq_false rfl) ws_eq) ws_eq hfma (x := nI (xs.getD ka 0)) (y := xs.getD ka 0) rfl (by omega)) okX6_say mlRX6_174 imX6_say seX6_say ⟨by decide, by decide⟩ rfl rfl (Nat.le_of_ble_eq_true rfl) (ws_ne (Nat.ne_of_beq_eq_false rfl) ws_eq) rfl rfl (Nat.le_of_ble_eq_true rfl) (by decide) (by decide) (fun w9 h9 => ?_)
        obtain ⟨fm_8, rfl, h_9⟩ := h9
        refine r_eq rfl rfl ((congrArg (fun z => wset (z) 35 (mo 0 (nI xs.length) (nI rs.length) rv (nI ln) pm lo (nI nb.length) (nI op.length) (nI up.length) ik (nI ((za ++ [xs.getD ka 0]).length)) (nI hl.length))) ws_same).trans ((ws_comm (Nat.ne_of_beq_eq_false rfl)).trans (congrArg (fun z => wset z 44 (ia 16512 fm_8)) ws_same))) ?_
        refine r_iinc C dX6_digest_25 (v := nI (ka + 1)) (L' := [some (.ref 35), some (.int (nI (ka + 1)))]) rfl (nI_add ka 1) (by decide) rfl ?_
        refine r_goto C 7 dX6_digest_28 (by decide) ?_
        exact ih_7 (ka + 1) _ _ (by omega) (by omega) (by rw [hza, take_push (by omega)]) h_9
  refine r_eq rfl rfl (ws_self (ws_ne (Nat.ne_of_beq_eq_false rfl) w_44)).symm ?_
  exact loop_7 _ 0 _ _ (Nat.lt_succ_self _) (Nat.zero_le _) (by simp) (hs_nil fm)
set_option maxHeartbeats 4000000 in
set_option maxRecDepth 100000 in
theorem cX6_makeOwnerEntry9 {w : Wo} {fa : Int32} {xs rs : List Nat} {rv : Int32} {ln : Nat} {pm lo : Int32} {nb op up hl : List Nat} {ik : Int32} (hln : 5 ≤ ln ∧ ln ≤ 16) (w_35 : w 35 = mo fa (nI xs.length) (nI rs.length) rv (nI ln) pm lo (nI nb.length) (nI op.length) (nI up.length) ik (nI (([] : List Nat).length)) (nI hl.length)) {fop fup : Nat → Int32} (w_41 : w 41 = ia 64 fop) (h_op : hs fop op) (k_op : op.length ≤ 64) (w_42 : w 42 = ia 64 fup) (h_up : hs fup up) (k_up : up.length ≤ 64) {fm : Nat → Int32} (w_44 : w 44 = ia 16512 fm) {vA vB vC vD : Int32} (w_46 : w 46 = ia 4 (q4f vA vB vC vD)) {fd : Nat → Int32} (w_45 : w 45 = ia 16 fd) {fsn : Nat → Int32} (w_47 : w 47 = ia 64 fsn) (hsn : ∀ k, k < 64 → fsn k = tabf sinL k) {ftn : Nat → Int32} (w_48 : w 48 = ia 16 ftn) (htn : ∀ k, k < 16 → ftn k = tabf turL k) {fpd : Nat → Int32} (w_49 : w 49 = ia 32 fpd) (hpd : ∀ k, k < 32 → fpd k = nI (padN.getD k 0)) {fh : Nat → Int32} (w_50 : w 50 = ia 16 fh) {ft : Nat → Int32} (w_51 : w 51 = ia 256 ft) {fe : Nat → Int32} (w_52 : w 52 = ia 32 fe) {fp : Nat → Int32} (w_53 : w 53 = ia 32 fp) : Ctr mX6_makeOwnerEntry [.ref 35] w (PV fun w' => ∃ fp' fm' tA tB tC tD fd' fh' fe' ft', w' = wset (wset (wset (wset (wset (wset (wset (wset (w) 53 (ia 32 fp')) 44 (ia 16512 fm')) 35 (mo fa (nI xs.length) (nI rs.length) rv (nI ln) pm lo (nI nb.length) (nI op.length) (nI up.length) ik (nI (([] : List Nat).length)) (nI ((ownKey rv ln op).length)))) 46 (ia 4 (q4f tA tB tC tD))) 45 (ia 16 fd')) 50 (ia 16 fh')) 52 (ia 32 fe')) 51 (ia 256 ft') ∧ hs fh' (ownKey rv ln op) ∧ hs fe' (strms (ownKey rv ln op) (turnsOf rv) (padd up))) := by
  refine Ctr_intro okX6_makeOwnerEntry rfl (Nat.le_of_ble_eq_true rfl) (L := [some (.ref 35), none]) rfl (fun g ct C T_ => ?_)
  refine r_aload_n C dX6_makeOwnerEntry_0 rfl ?_
  refine r_iconst C dX6_makeOwnerEntry_1 (v := 1) (by decide) ?_
  refine r_callVv C (As := [.int 1]) (rest := []) dX6_makeOwnerEntry_2 (cX6_padWord9_1 w_41 h_op (by first | omega | (simp only [List.length_append, List.length_nil, List.length_cons, List.length_take, List.length_replicate, List.length_range, List.length_map, lof_len, pad_len, padd_len, md5_len, strm_len, strms_len, entOf_len, hif_len] <;> omega)) w_35 w_49 hpd w_53) okX6_padWord mlRX6_223 imX6_padWord seX6_padWord ⟨by decide, by decide⟩ rfl rfl (Nat.le_of_ble_eq_true rfl) w_35 rfl rfl (Nat.le_of_ble_eq_true rfl) (by decide) (by decide) (fun w9 h9 => ?_)
  obtain ⟨fp_1, rfl, h_2⟩ := h9
  refine r_aload_n C dX6_makeOwnerEntry_5 rfl ?_
  refine r_callVv C (As := []) (rest := []) dX6_makeOwnerEntry_6 (cX6_makeOwnerKey9 hln (ws_ne (Nat.ne_of_beq_eq_false rfl) w_35) ws_eq h_2 (ws_ne (Nat.ne_of_beq_eq_false rfl) w_44) (ws_ne (Nat.ne_of_beq_eq_false rfl) w_46) (ws_ne (Nat.ne_of_beq_eq_false rfl) w_45) (ws_ne (Nat.ne_of_beq_eq_false rfl) w_47) hsn (ws_ne (Nat.ne_of_beq_eq_false rfl) w_48) htn (ws_ne (Nat.ne_of_beq_eq_false rfl) w_50)) okX6_makeOwnerKey mlRX6_226 imX6_makeOwnerKey seX6_makeOwnerKey ⟨by decide, by decide⟩ rfl rfl (Nat.le_of_ble_eq_true rfl) (ws_ne (Nat.ne_of_beq_eq_false rfl) w_35) rfl rfl (Nat.le_of_ble_eq_true rfl) (by decide) (by decide) (fun w9 h9 => ?_)
  obtain ⟨fm_3, t_4, t_5, t_6, t_7, fd_8, fh_9, rfl, h_10⟩ := h9
  have tl_len := ownKey_len rv hln.2 op
  have tl_byt := byt_ownKey rv ln op
  refine r_aload_n C dX6_makeOwnerEntry_9 rfl ?_
  refine r_iconst C dX6_makeOwnerEntry_10 (v := 2) (by decide) ?_
  refine r_callVv C (As := [.int 2]) (rest := []) dX6_makeOwnerEntry_11 (cX6_padWord9_2 (ws_ne (Nat.ne_of_beq_eq_false rfl) (ws_ne (Nat.ne_of_beq_eq_false rfl) (ws_ne (Nat.ne_of_beq_eq_false rfl) (ws_ne (Nat.ne_of_beq_eq_false rfl) (ws_ne (Nat.ne_of_beq_eq_false rfl) (ws_ne (Nat.ne_of_beq_eq_false rfl) w_42)))))) h_up (by first | omega | (simp only [List.length_append, List.length_nil, List.length_cons, List.length_take, List.length_replicate, List.length_range, List.length_map, lof_len, pad_len, padd_len, md5_len, strm_len, strms_len, entOf_len, hif_len] <;> omega)) (ws_ne (Nat.ne_of_beq_eq_false rfl) (ws_ne (Nat.ne_of_beq_eq_false rfl) (ws_ne (Nat.ne_of_beq_eq_false rfl) ws_eq))) (ws_ne (Nat.ne_of_beq_eq_false rfl) (ws_ne (Nat.ne_of_beq_eq_false rfl) (ws_ne (Nat.ne_of_beq_eq_false rfl) (ws_ne (Nat.ne_of_beq_eq_false rfl) (ws_ne (Nat.ne_of_beq_eq_false rfl) (ws_ne (Nat.ne_of_beq_eq_false rfl) w_49)))))) hpd (ws_ne (Nat.ne_of_beq_eq_false rfl) (ws_ne (Nat.ne_of_beq_eq_false rfl) (ws_ne (Nat.ne_of_beq_eq_false rfl) (ws_ne (Nat.ne_of_beq_eq_false rfl) (ws_ne (Nat.ne_of_beq_eq_false rfl) ws_eq)))))) okX6_padWord mlRX6_223 imX6_padWord seX6_padWord ⟨by decide, by decide⟩ rfl rfl (Nat.le_of_ble_eq_true rfl) (ws_ne (Nat.ne_of_beq_eq_false rfl) (ws_ne (Nat.ne_of_beq_eq_false rfl) (ws_ne (Nat.ne_of_beq_eq_false rfl) ws_eq))) rfl rfl (Nat.le_of_ble_eq_true rfl) (by decide) (by decide) (fun w9 h9 => ?_)
  obtain ⟨fp_11, rfl, h_12⟩ := h9
  refine r_eq rfl rfl ((ws_comm (Nat.ne_of_beq_eq_false rfl)).trans (congrArg (fun z => wset z 50 (ia 16 fh_9)) ((ws_comm (Nat.ne_of_beq_eq_false rfl)).trans (congrArg (fun z => wset z 45 (ia 16 fd_8)) ((ws_comm (Nat.ne_of_beq_eq_false rfl)).trans (congrArg (fun z => wset z 46 (ia 4 (q4f t_4 t_5 t_6 t_7))) ((ws_comm (Nat.ne_of_beq_eq_false rfl)).trans (congrArg (fun z => wset z 35 (mo fa (nI xs.length) (nI rs.length) rv (nI ln) pm lo (nI nb.length) (nI op.length) (nI up.length) ik (nI (([] : List Nat).length)) (nI ((ownKey rv ln op).length)))) ((ws_comm (Nat.ne_of_beq_eq_false rfl)).trans (congrArg (fun z => wset z 44 (ia 16512 fm_3)) ws_same)))))))))) ?_
  refine r_iconst C dX6_makeOwnerEntry_14 (v := 0) (by decide) ?_
  refine r_istore_n C dX6_makeOwnerEntry_15 (L' := [some (.ref 35), some (.int 0)]) (by decide) rfl ?_
  have loop_16 : ∀ (d9 : Nat) (k : Nat) (f1 : Nat → Int32), 32 - k < d9 → k ≤ 32 → (∀ m, m < k → f1 m = nI ((padd up).getD m 0)) → Az g mX6_makeOwnerEntry ct 0 0 16 [some (.ref 35), some (.int (nI k))] [] (wset (wset (wset (wset (wset (wset (wset w 53 (ia 32 fp_11)) 44 (ia 16512 fm_3)) 35 (mo fa (nI xs.length) (nI rs.length) rv (nI ln) pm lo (nI nb.length) (nI op.length) (nI up.length) ik (nI (([] : List Nat).length)) (nI ((ownKey rv ln op).length)))) 46 (ia 4 (q4f t_4 t_5 t_6 t_7))) 45 (ia 16 fd_8)) 50 (ia 16 fh_9)) 52 (ia 32 f1)) := by
    intro d9
    induction d9 with
    | zero => intro k f1 hd9; exact absurd hd9 (Nat.not_lt_zero _)
    | succ d9 ih_16 =>
      intro k f1 hd9 hk hp
      refine r_iload_n C dX6_makeOwnerEntry_16 rfl ?_
      refine r_bipush C dX6_makeOwnerEntry_17 (v := 32) (by decide) ?_
      refine r_icmp_ge C 40 dX6_makeOwnerEntry_19 (by decide) (fun c_19 => ?_) (fun c_19 => ?_)
      · skip
        have c_19 : 32 ≤ k := (nI_leI (a := 32) (b := k) (by omega) (by omega)).mp c_19
        refine r_iconst C dX6_makeOwnerEntry_40 (v := 0) (by decide) ?_
        refine r_istore_n C dX6_makeOwnerEntry_41 (L' := [some (.ref 35), some (.int 0)]) (by decide) rfl ?_
        have loop_42 : ∀ (d9 : Nat) (i : Nat) (es : List Nat) (f3 : Nat → Int32) (ft3 : Nat → Int32), turnsOf rv - i < d9 → i ≤ turnsOf rv → es = strms (ownKey rv ln op) i (padd up) → hs f3 (es ++ []) → Az g mX6_makeOwnerEntry ct 0 0 42 [some (.ref 35), some (.int (nI i))] [] (wset (wset (wset (wset (wset (wset (wset (wset w 53 (ia 32 fp_11)) 44 (ia 16512 fm_3)) 35 (mo fa (nI xs.length) (nI rs.length) rv (nI ln) pm lo (nI nb.length) (nI op.length) (nI up.length) ik (nI (([] : List Nat).length)) (nI ((ownKey rv ln op).length)))) 46 (ia 4 (q4f t_4 t_5 t_6 t_7))) 45 (ia 16 fd_8)) 50 (ia 16 fh_9)) 52 (ia 32 f3)) 51 (ia 256 ft3)) := by
          intro d9
          induction d9 with
          | zero => intro i es f3 ft3 hd9; exact absurd hd9 (Nat.not_lt_zero _)
          | succ d9 ih_42 =>
            intro i es f3 ft3 hd9 hi hes hf3
            have hel : es.length = 32 := by rw [hes, strms_len, padd_len]
            have ht20 : turnsOf rv ≤ 20 := by unfold turnsOf; split <;> decide
            refine r_iload_n C dX6_makeOwnerEntry_42 rfl ?_
            refine r_aload_n C dX6_makeOwnerEntry_43 rfl ?_
            refine r_get C dX6_makeOwnerEntry_44 fgRX6_16 (Nat.le_of_ble_eq_true rfl) (ws_ne (Nat.ne_of_beq_eq_false rfl) (ws_ne (Nat.ne_of_beq_eq_false rfl) (ws_ne (Nat.ne_of_beq_eq_false rfl) (ws_ne (Nat.ne_of_beq_eq_false rfl) (ws_ne (Nat.ne_of_beq_eq_false rfl) ws_eq))))) rfl ?_
            refine r_iconst C dX6_makeOwnerEntry_47 (v := 2) (by decide) ?_
            refine r_icmp_le C 56 dX6_makeOwnerEntry_48 (by decide) (fun c_48 => ?_) (fun c_48 => ?_)
            · skip
              have htr : turnsOf rv = 1 := if_neg (fun z => Int32.not_lt.mpr c_48 (gt2.mpr z))
              refine r_iconst C dX6_makeOwnerEntry_56 (v := 1) (by decide) ?_
              refine r_icmp_ge C 73 dX6_makeOwnerEntry_57 (by decide) (fun c_57 => ?_) (fun c_57 => ?_)
              · skip
                have c_57 : 1 ≤ i := (nI_leI (a := 1) (b := i) (by omega) (by omega)).mp c_57
                exact r_return C T_ rfl dX6_makeOwnerEntry_73 (⟨rfl, _, _, _, _, _, _, _, _, _, _, rfl, h_10, by rw [show strms (ownKey rv ln op) (turnsOf rv) (padd up) = es from by rw [hes, show i = turnsOf rv by omega]]; have := hf3; rw [List.append_nil] at this; exact this⟩)
              · skip
                have c_57 : ¬ (1 ≤ i) := fun h9 => c_57 ((nI_leI (a := 1) (b := i) (by omega) (by omega)).mpr h9)
                refine r_aload_n C dX6_makeOwnerEntry_60 rfl ?_
                refine r_iload_n C dX6_makeOwnerEntry_61 rfl ?_
                refine r_bipush C dX6_makeOwnerEntry_62 (v := 32) (by decide) ?_
                refine r_callVv C (As := [.int (nI i), .int 32]) (rest := []) dX6_makeOwnerEntry_64 (cX6_stream9 (ws_ne (Nat.ne_of_beq_eq_false rfl) (ws_ne (Nat.ne_of_beq_eq_false rfl) ws_eq)) h_10 (by omega) (by omega) tl_byt (ch := i) (by omega) (ws_ne (Nat.ne_of_beq_eq_false rfl) (ws_ne (Nat.ne_of_beq_eq_false rfl) (ws_ne (Nat.ne_of_beq_eq_false rfl) (ws_ne (Nat.ne_of_beq_eq_false rfl) (ws_ne (Nat.ne_of_beq_eq_false rfl) ws_eq))))) ws_eq (e1 := es) (e2 := []) (ws_ne (Nat.ne_of_beq_eq_false rfl) ws_eq) hf3 (by rw [hel]; decide) (mm := 32) (by rw [hel])) okX6_stream mlRX6_217 imX6_stream seX6_stream ⟨by decide, by decide⟩ rfl rfl (Nat.le_of_ble_eq_true rfl) (ws_ne (Nat.ne_of_beq_eq_false rfl) (ws_ne (Nat.ne_of_beq_eq_false rfl) (ws_ne (Nat.ne_of_beq_eq_false rfl) (ws_ne (Nat.ne_of_beq_eq_false rfl) (ws_ne (Nat.ne_of_beq_eq_false rfl) ws_eq))))) rfl rfl (Nat.le_of_ble_eq_true rfl) (by decide) (by decide) (fun w9 h9 => ?_)
                obtain ⟨ft_13, fe_14, rfl, h_15⟩ := h9
                refine r_eq rfl rfl ((congrArg (fun z => wset (z) 52 (ia 32 fe_14)) ws_same).trans ((ws_comm (Nat.ne_of_beq_eq_false rfl)).trans (congrArg (fun z => wset z 51 (ia 256 ft_13)) ws_same))) ?_
                refine r_iinc C dX6_makeOwnerEntry_67 (v := nI (i + 1)) (L' := [some (.ref 35), some (.int (nI (i + 1)))]) rfl (nI_add i 1) (by decide) rfl ?_
                refine r_goto C 42 dX6_makeOwnerEntry_70 (by decide) ?_
                exact ih_42 (i + 1) _ _ _ (by omega) (by omega) (by rw [hes]; rfl) h_15
            · skip
              have htr : turnsOf rv = 20 := if_pos (gt2.mp (Int32.not_le.mp c_48))
              refine r_bipush C dX6_makeOwnerEntry_51 (v := 20) (by decide) ?_
              refine r_goto C 57 dX6_makeOwnerEntry_53 (by decide) ?_
              refine r_icmp_ge C 73 dX6_makeOwnerEntry_57 (by decide) (fun c_57 => ?_) (fun c_57 => ?_)
              · skip
                have c_57 : 20 ≤ i := (nI_leI (a := 20) (b := i) (by omega) (by omega)).mp c_57
                exact r_return C T_ rfl dX6_makeOwnerEntry_73 (⟨rfl, _, _, _, _, _, _, _, _, _, _, rfl, h_10, by rw [show strms (ownKey rv ln op) (turnsOf rv) (padd up) = es from by rw [hes, show i = turnsOf rv by omega]]; have := hf3; rw [List.append_nil] at this; exact this⟩)
              · skip
                have c_57 : ¬ (20 ≤ i) := fun h9 => c_57 ((nI_leI (a := 20) (b := i) (by omega) (by omega)).mpr h9)
                refine r_aload_n C dX6_makeOwnerEntry_60 rfl ?_
                refine r_iload_n C dX6_makeOwnerEntry_61 rfl ?_
                refine r_bipush C dX6_makeOwnerEntry_62 (v := 32) (by decide) ?_
                refine r_callVv C (As := [.int (nI i), .int 32]) (rest := []) dX6_makeOwnerEntry_64 (cX6_stream9 (ws_ne (Nat.ne_of_beq_eq_false rfl) (ws_ne (Nat.ne_of_beq_eq_false rfl) ws_eq)) h_10 (by omega) (by omega) tl_byt (ch := i) (by omega) (ws_ne (Nat.ne_of_beq_eq_false rfl) (ws_ne (Nat.ne_of_beq_eq_false rfl) (ws_ne (Nat.ne_of_beq_eq_false rfl) (ws_ne (Nat.ne_of_beq_eq_false rfl) (ws_ne (Nat.ne_of_beq_eq_false rfl) ws_eq))))) ws_eq (e1 := es) (e2 := []) (ws_ne (Nat.ne_of_beq_eq_false rfl) ws_eq) hf3 (by rw [hel]; decide) (mm := 32) (by rw [hel])) okX6_stream mlRX6_217 imX6_stream seX6_stream ⟨by decide, by decide⟩ rfl rfl (Nat.le_of_ble_eq_true rfl) (ws_ne (Nat.ne_of_beq_eq_false rfl) (ws_ne (Nat.ne_of_beq_eq_false rfl) (ws_ne (Nat.ne_of_beq_eq_false rfl) (ws_ne (Nat.ne_of_beq_eq_false rfl) (ws_ne (Nat.ne_of_beq_eq_false rfl) ws_eq))))) rfl rfl (Nat.le_of_ble_eq_true rfl) (by decide) (by decide) (fun w9 h9 => ?_)
                obtain ⟨ft_16, fe_17, rfl, h_18⟩ := h9
                refine r_eq rfl rfl ((congrArg (fun z => wset (z) 52 (ia 32 fe_17)) ws_same).trans ((ws_comm (Nat.ne_of_beq_eq_false rfl)).trans (congrArg (fun z => wset z 51 (ia 256 ft_16)) ws_same))) ?_
                refine r_iinc C dX6_makeOwnerEntry_67 (v := nI (i + 1)) (L' := [some (.ref 35), some (.int (nI (i + 1)))]) rfl (nI_add i 1) (by decide) rfl ?_
                refine r_goto C 42 dX6_makeOwnerEntry_70 (by decide) ?_
                exact ih_42 (i + 1) _ _ _ (by omega) (by omega) (by rw [hes]; rfl) h_18
        refine r_eq rfl rfl (ws_self (ws_ne (Nat.ne_of_beq_eq_false rfl) (ws_ne (Nat.ne_of_beq_eq_false rfl) (ws_ne (Nat.ne_of_beq_eq_false rfl) (ws_ne (Nat.ne_of_beq_eq_false rfl) (ws_ne (Nat.ne_of_beq_eq_false rfl) (ws_ne (Nat.ne_of_beq_eq_false rfl) (ws_ne (Nat.ne_of_beq_eq_false rfl) w_51)))))))).symm ?_
        exact loop_42 _ 0 _ _ _ (Nat.lt_succ_self _) (Nat.zero_le _) rfl (hs_pre (xs := padd up) (by simp [strms]) (fun m hm => hp m (by rw [padd_len] at hm; omega)) (fun m hm => by simp [strms]))
      · skip
        have c_19 : ¬ (32 ≤ k) := fun h9 => c_19 ((nI_leI (a := 32) (b := k) (by omega) (by omega)).mpr h9)
        refine r_aload_n C dX6_makeOwnerEntry_22 rfl ?_
        refine r_get C dX6_makeOwnerEntry_23 fgRX6_132 (Nat.le_of_ble_eq_true rfl) (ws_ne (Nat.ne_of_beq_eq_false rfl) (ws_ne (Nat.ne_of_beq_eq_false rfl) (ws_ne (Nat.ne_of_beq_eq_false rfl) (ws_ne (Nat.ne_of_beq_eq_false rfl) ws_eq)))) rfl ?_
        refine r_iload_n C dX6_makeOwnerEntry_26 rfl ?_
        refine r_aload_n C dX6_makeOwnerEntry_27 rfl ?_
        refine r_get C dX6_makeOwnerEntry_28 fgRX6_135 (Nat.le_of_ble_eq_true rfl) (ws_ne (Nat.ne_of_beq_eq_false rfl) (ws_ne (Nat.ne_of_beq_eq_false rfl) (ws_ne (Nat.ne_of_beq_eq_false rfl) (ws_ne (Nat.ne_of_beq_eq_false rfl) ws_eq)))) rfl ?_
        refine r_iload_n C dX6_makeOwnerEntry_31 rfl ?_
        refine r_ialdN C dX6_makeOwnerEntry_32 (Nat.le_of_ble_eq_true rfl) (ws_ne (Nat.ne_of_beq_eq_false rfl) (ws_ne (Nat.ne_of_beq_eq_false rfl) (ws_ne (Nat.ne_of_beq_eq_false rfl) (ws_ne (Nat.ne_of_beq_eq_false rfl) (ws_ne (Nat.ne_of_beq_eq_false rfl) (ws_ne (Nat.ne_of_beq_eq_false rfl) ws_eq)))))) (j := k) rfl (by omega) (by decide) ?_
        refine r_top (y := nI ((padd up).getD k 0)) (h_12 _ (by rw [padd_len]; omega)) ?_
        refine r_iastN C dX6_makeOwnerEntry_33 (Nat.le_of_ble_eq_true rfl) ws_eq (j := k) rfl (by omega) (by decide) ?_
        refine r_eq rfl rfl ws_same ?_
        refine r_iinc C dX6_makeOwnerEntry_34 (v := nI (k + 1)) (L' := [some (.ref 35), some (.int (nI (k + 1)))]) rfl (nI_add k 1) (by decide) rfl ?_
        refine r_goto C 16 dX6_makeOwnerEntry_37 (by decide) ?_
        exact ih_16 (k + 1) _ (by omega) (by omega) (up_lt hp rfl)
  refine r_eq rfl rfl (ws_self (ws_ne (Nat.ne_of_beq_eq_false rfl) (ws_ne (Nat.ne_of_beq_eq_false rfl) (ws_ne (Nat.ne_of_beq_eq_false rfl) (ws_ne (Nat.ne_of_beq_eq_false rfl) (ws_ne (Nat.ne_of_beq_eq_false rfl) (ws_ne (Nat.ne_of_beq_eq_false rfl) w_52))))))).symm ?_
  exact loop_16 _ 0 _ (Nat.lt_succ_self _) (by omega) (fun m hm => absurd hm (Nat.not_lt_zero m))
