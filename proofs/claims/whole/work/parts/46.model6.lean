theorem up_ex {P : Nat → Prop} {k : Nat} (h : ∃ m, m < k ∧ P m) : ∃ m, m < k + 1 ∧ P m := by
  obtain ⟨m, h1, h2⟩ := h
  exact ⟨m, by omega, h2⟩
theorem take_eq {xs ys : List Nat} {t : Nat} (h1 : t ≤ xs.length) (h2 : t ≤ ys.length) : (∀ m, m < t → xs.getD m 0 = ys.getD m 0) ↔ xs.take t = ys.take t := by
  constructor
  · intro h
    apply List.ext_getElem?
    intro m
    by_cases hm : m < t
    · have e := h m hm
      rw [List.getElem?_take_of_lt hm, List.getElem?_take_of_lt hm, List.getElem?_eq_getElem (by omega), List.getElem?_eq_getElem (by omega)]
      simp only [List.getD, List.getElem?_eq_getElem (show m < xs.length by omega), List.getElem?_eq_getElem (show m < ys.length by omega), Option.getD_some] at e
      rw [e]
    · rw [List.getElem?_eq_none (by rw [List.length_take]; omega), List.getElem?_eq_none (by rw [List.length_take]; omega)]
  · intro h m hm
    have e : (xs.take t)[m]? = (ys.take t)[m]? := by rw [h]
    rw [List.getElem?_take_of_lt hm, List.getElem?_take_of_lt hm] at e
    simp [List.getD, e]
theorem flag_is {P : Prop} [Decidable P] {b : Int32} {xs ys : List Nat} {t : Nat} (hb : (b = 1 ∧ ∀ m, m < t → xs.getD m 0 = ys.getD m 0) ∨ (b = 0 ∧ ∃ m, m < t ∧ ¬ xs.getD m 0 = ys.getD m 0)) (hP : (∀ m, m < t → xs.getD m 0 = ys.getD m 0) ↔ P) : b = if P then 1 else 0 := by
  rcases hb with ⟨h1, h2⟩ | ⟨h1, m, h2, h3⟩
  · rw [if_pos (hP.mp h2), h1]
  · rw [if_neg (fun z => h3 (hP.mpr z m h2)), h1]
set_option maxHeartbeats 4000000 in
set_option maxRecDepth 100000 in
theorem cX6_isUsers9 {w : Wo} {ln : Nat} (hln : 5 ≤ ln ∧ ln ≤ 16) {fo : Nat → Int32} {ow : List Nat} (w_38 : w 38 = ia 32 fo) (h_ow : hs fo ow) (k_ow : ow.length ≤ 32) (lo9 : ow.length = 32) {fn : Nat → Int32} {nb : List Nat} (w_40 : w 40 = ia 64 fn) (h_nb : hs fn nb) (k_nb : nb.length ≤ 64) {fa sz rz rv pm lo os uz ik hsz : Int32} (w_35 : w 35 = mo fa sz rz rv (nI ln) pm lo (nI nb.length) os uz ik (nI (([] : List Nat).length)) hsz) (hrv : rv = 2 ∨ rv = 3 ∨ rv = 4) {fp : Nat → Int32} {ys : List Nat} (w_53 : w 53 = ia 32 fp) (h_ys : hs fp (padd ys)) {fm : Nat → Int32} (w_44 : w 44 = ia 16512 fm) {vA vB vC vD : Int32} (w_46 : w 46 = ia 4 (q4f vA vB vC vD)) {fd : Nat → Int32} (w_45 : w 45 = ia 16 fd) {fsn : Nat → Int32} (w_47 : w 47 = ia 64 fsn) (hsn : ∀ k, k < 64 → fsn k = tabf sinL k) {ftn : Nat → Int32} (w_48 : w 48 = ia 16 ftn) (htn : ∀ k, k < 16 → ftn k = tabf turL k) {fh : Nat → Int32} (w_50 : w 50 = ia 16 fh) {ft : Nat → Int32} (w_51 : w 51 = ia 256 ft) {fe : Nat → Int32} (w_52 : w 52 = ia 32 fe) {fpd : Nat → Int32} (w_49 : w 49 = ia 32 fpd) (hpd : ∀ k, k < 32 → fpd k = nI (padN.getD k 0)) {fus : Nat → Int32} {us : List Nat} (w_39 : w 39 = ia 32 fus) (h_us : hs fus us) (k_us : us.length ≤ 32) (lu9 : us.length = 32) (bu : byt us) : Ctr mX6_isUsers [.ref 35] w (PI fun r w' => (∃ fm' tA tB tC tD fd' fh' fe' ft', w' = wset (wset (wset (wset (wset (wset (wset (w) 44 (ia 16512 fm')) 35 (mo fa sz rz rv (nI ln) pm lo (nI nb.length) os uz ik (nI (([] : List Nat).length)) (nI ((keyOf rv ln pm lo ow nb ys).length)))) 46 (ia 4 (q4f tA tB tC tD))) 45 (ia 16 fd')) 50 (ia 16 fh')) 52 (ia 32 fe')) 51 (ia 256 ft') ∧ hs fh' (keyOf rv ln pm lo ow nb ys)) ∧ r = (if (entOf rv nb (keyOf rv ln pm lo ow nb ys)).take (usT rv) = us.take (usT rv) then 1 else 0)) := by
  refine Ctr_intro okX6_isUsers rfl (Nat.le_of_ble_eq_true rfl) (L := [some (.ref 35), none, none]) rfl (fun g ct C T_ => ?_)
  refine r_aload_n C dX6_isUsers_0 rfl ?_
  refine r_callVv C (As := []) (rest := []) dX6_isUsers_1 (cX6_makeKey9 hln w_38 h_ow (by first | omega | (simp only [List.length_append, List.length_nil, List.length_cons, List.length_take, List.length_replicate, List.length_range, List.length_map, lof_len, pad_len, padd_len, md5_len, strm_len, strms_len, entOf_len, hif_len] <;> omega)) lo9 w_40 h_nb (by first | omega | (simp only [List.length_append, List.length_nil, List.length_cons, List.length_take, List.length_replicate, List.length_range, List.length_map, lof_len, pad_len, padd_len, md5_len, strm_len, strms_len, entOf_len, hif_len] <;> omega)) w_35 w_53 h_ys w_44 w_46 w_45 w_47 hsn w_48 htn w_50) okX6_makeKey mlRX6_232 imX6_makeKey seX6_makeKey ⟨by decide, by decide⟩ rfl rfl (Nat.le_of_ble_eq_true rfl) w_35 rfl rfl (Nat.le_of_ble_eq_true rfl) (by decide) (by decide) (fun w9 h9 => ?_)
  obtain ⟨fm_1, t_2, t_3, t_4, t_5, fd_6, fh_7, rfl, h_8⟩ := h9
  have tl_len := keyOf_len rv hln.2 pm lo ow nb ys
  have tl_byt := byt_keyOf rv ln pm lo ow nb ys
  refine r_aload_n C dX6_isUsers_4 rfl ?_
  refine r_callVv C (As := []) (rest := []) dX6_isUsers_5 (cX6_makeUserEntry9 (ln := ln) ws_eq h_8 (by omega) (by omega) tl_byt (ws_ne (Nat.ne_of_beq_eq_false rfl) (ws_ne (Nat.ne_of_beq_eq_false rfl) (ws_ne (Nat.ne_of_beq_eq_false rfl) (ws_ne (Nat.ne_of_beq_eq_false rfl) (ws_ne (Nat.ne_of_beq_eq_false rfl) w_40))))) h_nb (by first | omega | (simp only [List.length_append, List.length_nil, List.length_cons, List.length_take, List.length_replicate, List.length_range, List.length_map, lof_len, pad_len, padd_len, md5_len, strm_len, strms_len, entOf_len, hif_len] <;> omega)) (ws_ne (Nat.ne_of_beq_eq_false rfl) (ws_ne (Nat.ne_of_beq_eq_false rfl) (ws_ne (Nat.ne_of_beq_eq_false rfl) ws_eq))) hrv (ws_ne (Nat.ne_of_beq_eq_false rfl) (ws_ne (Nat.ne_of_beq_eq_false rfl) (ws_ne (Nat.ne_of_beq_eq_false rfl) (ws_ne (Nat.ne_of_beq_eq_false rfl) ws_eq)))) (ws_ne (Nat.ne_of_beq_eq_false rfl) (ws_ne (Nat.ne_of_beq_eq_false rfl) ws_eq)) (ws_ne (Nat.ne_of_beq_eq_false rfl) ws_eq) (ws_ne (Nat.ne_of_beq_eq_false rfl) (ws_ne (Nat.ne_of_beq_eq_false rfl) (ws_ne (Nat.ne_of_beq_eq_false rfl) (ws_ne (Nat.ne_of_beq_eq_false rfl) (ws_ne (Nat.ne_of_beq_eq_false rfl) w_47))))) hsn (ws_ne (Nat.ne_of_beq_eq_false rfl) (ws_ne (Nat.ne_of_beq_eq_false rfl) (ws_ne (Nat.ne_of_beq_eq_false rfl) (ws_ne (Nat.ne_of_beq_eq_false rfl) (ws_ne (Nat.ne_of_beq_eq_false rfl) w_48))))) htn (ws_ne (Nat.ne_of_beq_eq_false rfl) (ws_ne (Nat.ne_of_beq_eq_false rfl) (ws_ne (Nat.ne_of_beq_eq_false rfl) (ws_ne (Nat.ne_of_beq_eq_false rfl) (ws_ne (Nat.ne_of_beq_eq_false rfl) w_51))))) (ws_ne (Nat.ne_of_beq_eq_false rfl) (ws_ne (Nat.ne_of_beq_eq_false rfl) (ws_ne (Nat.ne_of_beq_eq_false rfl) (ws_ne (Nat.ne_of_beq_eq_false rfl) (ws_ne (Nat.ne_of_beq_eq_false rfl) w_52))))) (ws_ne (Nat.ne_of_beq_eq_false rfl) (ws_ne (Nat.ne_of_beq_eq_false rfl) (ws_ne (Nat.ne_of_beq_eq_false rfl) (ws_ne (Nat.ne_of_beq_eq_false rfl) (ws_ne (Nat.ne_of_beq_eq_false rfl) w_49))))) hpd) okX6_makeUserEntry mlRX6_235 imX6_makeUserEntry seX6_makeUserEntry ⟨by decide, by decide⟩ rfl rfl (Nat.le_of_ble_eq_true rfl) (ws_ne (Nat.ne_of_beq_eq_false rfl) (ws_ne (Nat.ne_of_beq_eq_false rfl) (ws_ne (Nat.ne_of_beq_eq_false rfl) ws_eq))) rfl rfl (Nat.le_of_ble_eq_true rfl) (by decide) (by decide) (fun w9 h9 => ?_)
  obtain ⟨fe_9, fm_10, t_11, t_12, t_13, t_14, fd_15, ft_16, rfl, h_17⟩ := h9
  refine r_eq rfl rfl ((((congrArg (fun z => wset (wset (wset (wset (z) 35 (mo fa sz rz rv (nI ln) pm lo (nI nb.length) os uz ik (nI (([] : List Nat).length)) (nI ((keyOf rv ln pm lo ow nb ys).length)))) 46 (ia 4 (q4f t_11 t_12 t_13 t_14))) 45 (ia 16 fd_15)) 51 (ia 256 ft_16)) ((ws_comm (Nat.ne_of_beq_eq_false rfl)).trans (congrArg (fun z => wset z 52 (ia 32 fe_9)) ((ws_comm (Nat.ne_of_beq_eq_false rfl)).trans (congrArg (fun z => wset z 50 (ia 16 fh_7)) ((ws_comm (Nat.ne_of_beq_eq_false rfl)).trans (congrArg (fun z => wset z 45 (ia 16 fd_6)) ((ws_comm (Nat.ne_of_beq_eq_false rfl)).trans (congrArg (fun z => wset z 46 (ia 4 (q4f t_2 t_3 t_4 t_5))) ((ws_comm (Nat.ne_of_beq_eq_false rfl)).trans (congrArg (fun z => wset z 35 (mo fa sz rz rv (nI ln) pm lo (nI nb.length) os uz ik (nI (([] : List Nat).length)) (nI ((keyOf rv ln pm lo ow nb ys).length)))) ws_same))))))))))).trans (congrArg (fun z => wset (wset (wset (z) 46 (ia 4 (q4f t_11 t_12 t_13 t_14))) 45 (ia 16 fd_15)) 51 (ia 256 ft_16)) ((ws_comm (Nat.ne_of_beq_eq_false rfl)).trans (congrArg (fun z => wset z 52 (ia 32 fe_9)) ((ws_comm (Nat.ne_of_beq_eq_false rfl)).trans (congrArg (fun z => wset z 50 (ia 16 fh_7)) ((ws_comm (Nat.ne_of_beq_eq_false rfl)).trans (congrArg (fun z => wset z 45 (ia 16 fd_6)) ((ws_comm (Nat.ne_of_beq_eq_false rfl)).trans (congrArg (fun z => wset z 46 (ia 4 (q4f t_2 t_3 t_4 t_5))) ws_same)))))))))).trans (congrArg (fun z => wset (wset (z) 45 (ia 16 fd_15)) 51 (ia 256 ft_16)) ((ws_comm (Nat.ne_of_beq_eq_false rfl)).trans (congrArg (fun z => wset z 52 (ia 32 fe_9)) ((ws_comm (Nat.ne_of_beq_eq_false rfl)).trans (congrArg (fun z => wset z 50 (ia 16 fh_7)) ((ws_comm (Nat.ne_of_beq_eq_false rfl)).trans (congrArg (fun z => wset z 45 (ia 16 fd_6)) ws_same)))))))).trans (congrArg (fun z => wset (z) 51 (ia 256 ft_16)) ((ws_comm (Nat.ne_of_beq_eq_false rfl)).trans (congrArg (fun z => wset z 52 (ia 32 fe_9)) ((ws_comm (Nat.ne_of_beq_eq_false rfl)).trans (congrArg (fun z => wset z 50 (ia 16 fh_7)) ws_same)))))) ?_
  refine r_iconst C dX6_isUsers_8 (v := 1) (by decide) ?_
  refine r_istore_n C dX6_isUsers_9 (L' := [some (.ref 35), some (.int 1), none]) (by decide) rfl ?_
  refine r_iconst C dX6_isUsers_10 (v := 0) (by decide) ?_
  refine r_istore_n C dX6_isUsers_11 (L' := [some (.ref 35), some (.int 1), some (.int 0)]) (by decide) rfl ?_
  have loop_12 : ∀ (d9 : Nat) (k : Nat) (b : Int32), usT rv - k < d9 → k ≤ usT rv → ((b = 1 ∧ ∀ m, m < k → (entOf rv nb (keyOf rv ln pm lo ow nb ys)).getD m 0 = us.getD m 0) ∨ (b = 0 ∧ ∃ m, m < k ∧ ¬ (entOf rv nb (keyOf rv ln pm lo ow nb ys)).getD m 0 = us.getD m 0)) → Az g mX6_isUsers ct 0 0 12 [some (.ref 35), some (.int b), some (.int (nI k))] [] (wset (wset (wset (wset (wset (wset (wset w 44 (ia 16512 fm_10)) 35 (mo fa sz rz rv (nI ln) pm lo (nI nb.length) os uz ik (nI (([] : List Nat).length)) (nI ((keyOf rv ln pm lo ow nb ys).length)))) 46 (ia 4 (q4f t_11 t_12 t_13 t_14))) 45 (ia 16 fd_15)) 50 (ia 16 fh_7)) 52 (ia 32 fe_9)) 51 (ia 256 ft_16)) := by
    intro d9
    induction d9 with
    | zero => intro k b hd9; exact absurd hd9 (Nat.not_lt_zero _)
    | succ d9 ih_12 =>
      intro k b hd9 hk hb
      have hu2 : usT rv ≤ 32 := by unfold usT; split <;> decide
      have el9 := entOf_len rv nb (keyOf rv ln pm lo ow nb ys)
      refine r_iload_n C dX6_isUsers_12 rfl ?_
      refine r_aload_n C dX6_isUsers_13 rfl ?_
      refine r_get C dX6_isUsers_14 fgRX6_16 (Nat.le_of_ble_eq_true rfl) (ws_ne (Nat.ne_of_beq_eq_false rfl) (ws_ne (Nat.ne_of_beq_eq_false rfl) (ws_ne (Nat.ne_of_beq_eq_false rfl) (ws_ne (Nat.ne_of_beq_eq_false rfl) (ws_ne (Nat.ne_of_beq_eq_false rfl) ws_eq))))) rfl ?_
      refine r_iconst C dX6_isUsers_17 (v := 2) (by decide) ?_
      refine r_icmp_le C 26 dX6_isUsers_18 (by decide) (fun c_18 => ?_) (fun c_18 => ?_)
      · skip
        have hu : usT rv = 32 := if_neg (fun z => Int32.not_lt.mpr c_18 (gt2.mpr z))
        refine r_bipush C dX6_isUsers_26 (v := 32) (by decide) ?_
        refine r_icmp_ge C 62 dX6_isUsers_28 (by decide) (fun c_28 => ?_) (fun c_28 => ?_)
        · skip
          have c_28 : 32 ≤ k := (nI_leI (a := 32) (b := k) (by omega) (by omega)).mp c_28
          have hkt : k = usT rv := by omega
          refine r_iload_n C dX6_isUsers_62 rfl ?_
          exact r_ireturn C T_ rfl (by rcases hb with ⟨h, -⟩ | ⟨h, -⟩ <;> rw [h] <;> rfl) dX6_isUsers_63 (⟨b, rfl, ⟨_, _, _, _, _, _, _, _, _, rfl, h_8⟩, flag_is (by rw [← hkt]; exact hb) (take_eq (by omega) (by omega))⟩)
        · skip
          have c_28 : ¬ (32 ≤ k) := fun h9 => c_28 ((nI_leI (a := 32) (b := k) (by omega) (by omega)).mpr h9)
          refine r_iload_n C dX6_isUsers_31 rfl ?_
          refine r_if_eq C 54 dX6_isUsers_32 (by decide) (fun c_32 => ?_) (fun c_32 => ?_)
          · skip
            refine r_iconst C dX6_isUsers_54 (v := 0) (by decide) ?_
            refine r_istore_n C dX6_isUsers_55 (L' := [some (.ref 35), some (.int 0), some (.int (nI k))]) (by decide) rfl ?_
            refine r_iinc C dX6_isUsers_56 (v := nI (k + 1)) (L' := [some (.ref 35), some (.int 0), some (.int (nI (k + 1)))]) rfl (nI_add k 1) (by decide) rfl ?_
            refine r_goto C 12 dX6_isUsers_59 (by decide) ?_
            exact ih_12 (k + 1) 0 (by omega) (by omega) (Or.inr ⟨rfl, up_ex (hb.resolve_left (fun z => absurd (z.1.symm.trans c_32) (by decide))).2⟩)
          · skip
            refine r_aload_n C dX6_isUsers_35 rfl ?_
            refine r_get C dX6_isUsers_36 fgRX6_132 (Nat.le_of_ble_eq_true rfl) (ws_ne (Nat.ne_of_beq_eq_false rfl) (ws_ne (Nat.ne_of_beq_eq_false rfl) (ws_ne (Nat.ne_of_beq_eq_false rfl) (ws_ne (Nat.ne_of_beq_eq_false rfl) (ws_ne (Nat.ne_of_beq_eq_false rfl) ws_eq))))) rfl ?_
            refine r_iload_n C dX6_isUsers_39 rfl ?_
            refine r_ialdN C dX6_isUsers_40 (Nat.le_of_ble_eq_true rfl) (ws_ne (Nat.ne_of_beq_eq_false rfl) ws_eq) (j := k) rfl (by omega) (by decide) ?_
            refine r_top (y := nI ((entOf rv nb (keyOf rv ln pm lo ow nb ys)).getD k 0)) (h_17 _ (by omega)) ?_
            refine r_aload_n C dX6_isUsers_41 rfl ?_
            refine r_get C dX6_isUsers_42 fgRX6_29 (Nat.le_of_ble_eq_true rfl) (ws_ne (Nat.ne_of_beq_eq_false rfl) (ws_ne (Nat.ne_of_beq_eq_false rfl) (ws_ne (Nat.ne_of_beq_eq_false rfl) (ws_ne (Nat.ne_of_beq_eq_false rfl) (ws_ne (Nat.ne_of_beq_eq_false rfl) ws_eq))))) rfl ?_
            refine r_iload_n C dX6_isUsers_45 rfl ?_
            refine r_ialdN C dX6_isUsers_46 (Nat.le_of_ble_eq_true rfl) (ws_ne (Nat.ne_of_beq_eq_false rfl) (ws_ne (Nat.ne_of_beq_eq_false rfl) (ws_ne (Nat.ne_of_beq_eq_false rfl) (ws_ne (Nat.ne_of_beq_eq_false rfl) (ws_ne (Nat.ne_of_beq_eq_false rfl) (ws_ne (Nat.ne_of_beq_eq_false rfl) (ws_ne (Nat.ne_of_beq_eq_false rfl) w_39))))))) (j := k) rfl (by omega) (by decide) ?_
            refine r_top (y := nI (us.getD k 0)) (h_us _ (by omega)) ?_
            have b1 := byt_getD (byt_entOf rv nb (keyOf rv ln pm lo ow nb ys)) k
            have b2 := byt_getD bu k
            refine r_icmp_ne C 54 dX6_isUsers_47 (by decide) (fun c_47 => ?_) (fun c_47 => ?_)
            · skip
              have c_47 : ¬ (((entOf rv nb (keyOf rv ln pm lo ow nb ys)).getD k 0) = (us.getD k 0)) := fun h9 => c_47 ((nI_eq (a := (entOf rv nb (keyOf rv ln pm lo ow nb ys)).getD k 0) (b := us.getD k 0) (by omega) (by omega)).mpr h9)
              refine r_iconst C dX6_isUsers_54 (v := 0) (by decide) ?_
              refine r_istore_n C dX6_isUsers_55 (L' := [some (.ref 35), some (.int 0), some (.int (nI k))]) (by decide) rfl ?_
              refine r_iinc C dX6_isUsers_56 (v := nI (k + 1)) (L' := [some (.ref 35), some (.int 0), some (.int (nI (k + 1)))]) rfl (nI_add k 1) (by decide) rfl ?_
              refine r_goto C 12 dX6_isUsers_59 (by decide) ?_
              exact ih_12 (k + 1) 0 (by omega) (by omega) (Or.inr ⟨rfl, k, Nat.lt_succ_self k, c_47⟩)
            · skip
              have c_47 : ((entOf rv nb (keyOf rv ln pm lo ow nb ys)).getD k 0) = (us.getD k 0) := (nI_eq (a := (entOf rv nb (keyOf rv ln pm lo ow nb ys)).getD k 0) (b := us.getD k 0) (by omega) (by omega)).mp c_47
              refine r_iconst C dX6_isUsers_50 (v := 1) (by decide) ?_
              refine r_goto C 55 dX6_isUsers_51 (by decide) ?_
              refine r_istore_n C dX6_isUsers_55 (L' := [some (.ref 35), some (.int 1), some (.int (nI k))]) (by decide) rfl ?_
              refine r_iinc C dX6_isUsers_56 (v := nI (k + 1)) (L' := [some (.ref 35), some (.int 1), some (.int (nI (k + 1)))]) rfl (nI_add k 1) (by decide) rfl ?_
              refine r_goto C 12 dX6_isUsers_59 (by decide) ?_
              exact ih_12 (k + 1) 1 (by omega) (by omega) (Or.inl ⟨rfl, lt_s ((hb.resolve_right (fun z => c_32 z.1)).2) c_47⟩)
      · skip
        have hu : usT rv = 16 := if_pos (gt2.mp (Int32.not_le.mp c_18))
        refine r_bipush C dX6_isUsers_21 (v := 16) (by decide) ?_
        refine r_goto C 28 dX6_isUsers_23 (by decide) ?_
        refine r_icmp_ge C 62 dX6_isUsers_28 (by decide) (fun c_28 => ?_) (fun c_28 => ?_)
        · skip
          have c_28 : 16 ≤ k := (nI_leI (a := 16) (b := k) (by omega) (by omega)).mp c_28
          have hkt : k = usT rv := by omega
          refine r_iload_n C dX6_isUsers_62 rfl ?_
          exact r_ireturn C T_ rfl (by rcases hb with ⟨h, -⟩ | ⟨h, -⟩ <;> rw [h] <;> rfl) dX6_isUsers_63 (⟨b, rfl, ⟨_, _, _, _, _, _, _, _, _, rfl, h_8⟩, flag_is (by rw [← hkt]; exact hb) (take_eq (by omega) (by omega))⟩)
        · skip
          have c_28 : ¬ (16 ≤ k) := fun h9 => c_28 ((nI_leI (a := 16) (b := k) (by omega) (by omega)).mpr h9)
          refine r_iload_n C dX6_isUsers_31 rfl ?_
          refine r_if_eq C 54 dX6_isUsers_32 (by decide) (fun c_32 => ?_) (fun c_32 => ?_)
          · skip
            refine r_iconst C dX6_isUsers_54 (v := 0) (by decide) ?_
            refine r_istore_n C dX6_isUsers_55 (L' := [some (.ref 35), some (.int 0), some (.int (nI k))]) (by decide) rfl ?_
            refine r_iinc C dX6_isUsers_56 (v := nI (k + 1)) (L' := [some (.ref 35), some (.int 0), some (.int (nI (k + 1)))]) rfl (nI_add k 1) (by decide) rfl ?_
            refine r_goto C 12 dX6_isUsers_59 (by decide) ?_
            exact ih_12 (k + 1) 0 (by omega) (by omega) (Or.inr ⟨rfl, up_ex (hb.resolve_left (fun z => absurd (z.1.symm.trans c_32) (by decide))).2⟩)
          · skip
            refine r_aload_n C dX6_isUsers_35 rfl ?_
            refine r_get C dX6_isUsers_36 fgRX6_132 (Nat.le_of_ble_eq_true rfl) (ws_ne (Nat.ne_of_beq_eq_false rfl) (ws_ne (Nat.ne_of_beq_eq_false rfl) (ws_ne (Nat.ne_of_beq_eq_false rfl) (ws_ne (Nat.ne_of_beq_eq_false rfl) (ws_ne (Nat.ne_of_beq_eq_false rfl) ws_eq))))) rfl ?_
            refine r_iload_n C dX6_isUsers_39 rfl ?_
            refine r_ialdN C dX6_isUsers_40 (Nat.le_of_ble_eq_true rfl) (ws_ne (Nat.ne_of_beq_eq_false rfl) ws_eq) (j := k) rfl (by omega) (by decide) ?_
            refine r_top (y := nI ((entOf rv nb (keyOf rv ln pm lo ow nb ys)).getD k 0)) (h_17 _ (by omega)) ?_
            refine r_aload_n C dX6_isUsers_41 rfl ?_
            refine r_get C dX6_isUsers_42 fgRX6_29 (Nat.le_of_ble_eq_true rfl) (ws_ne (Nat.ne_of_beq_eq_false rfl) (ws_ne (Nat.ne_of_beq_eq_false rfl) (ws_ne (Nat.ne_of_beq_eq_false rfl) (ws_ne (Nat.ne_of_beq_eq_false rfl) (ws_ne (Nat.ne_of_beq_eq_false rfl) ws_eq))))) rfl ?_
            refine r_iload_n C dX6_isUsers_45 rfl ?_
            refine r_ialdN C dX6_isUsers_46 (Nat.le_of_ble_eq_true rfl) (ws_ne (Nat.ne_of_beq_eq_false rfl) (ws_ne (Nat.ne_of_beq_eq_false rfl) (ws_ne (Nat.ne_of_beq_eq_false rfl) (ws_ne (Nat.ne_of_beq_eq_false rfl) (ws_ne (Nat.ne_of_beq_eq_false rfl) (ws_ne (Nat.ne_of_beq_eq_false rfl) (ws_ne (Nat.ne_of_beq_eq_false rfl) w_39))))))) (j := k) rfl (by omega) (by decide) ?_
            refine r_top (y := nI (us.getD k 0)) (h_us _ (by omega)) ?_
            have b1 := byt_getD (byt_entOf rv nb (keyOf rv ln pm lo ow nb ys)) k
            have b2 := byt_getD bu k
            refine r_icmp_ne C 54 dX6_isUsers_47 (by decide) (fun c_47 => ?_) (fun c_47 => ?_)
            · skip
              have c_47 : ¬ (((entOf rv nb (keyOf rv ln pm lo ow nb ys)).getD k 0) = (us.getD k 0)) := fun h9 => c_47 ((nI_eq (a := (entOf rv nb (keyOf rv ln pm lo ow nb ys)).getD k 0) (b := us.getD k 0) (by omega) (by omega)).mpr h9)
              refine r_iconst C dX6_isUsers_54 (v := 0) (by decide) ?_
              refine r_istore_n C dX6_isUsers_55 (L' := [some (.ref 35), some (.int 0), some (.int (nI k))]) (by decide) rfl ?_
              refine r_iinc C dX6_isUsers_56 (v := nI (k + 1)) (L' := [some (.ref 35), some (.int 0), some (.int (nI (k + 1)))]) rfl (nI_add k 1) (by decide) rfl ?_
              refine r_goto C 12 dX6_isUsers_59 (by decide) ?_
              exact ih_12 (k + 1) 0 (by omega) (by omega) (Or.inr ⟨rfl, k, Nat.lt_succ_self k, c_47⟩)
            · skip
              have c_47 : ((entOf rv nb (keyOf rv ln pm lo ow nb ys)).getD k 0) = (us.getD k 0) := (nI_eq (a := (entOf rv nb (keyOf rv ln pm lo ow nb ys)).getD k 0) (b := us.getD k 0) (by omega) (by omega)).mp c_47
              refine r_iconst C dX6_isUsers_50 (v := 1) (by decide) ?_
              refine r_goto C 55 dX6_isUsers_51 (by decide) ?_
              refine r_istore_n C dX6_isUsers_55 (L' := [some (.ref 35), some (.int 1), some (.int (nI k))]) (by decide) rfl ?_
              refine r_iinc C dX6_isUsers_56 (v := nI (k + 1)) (L' := [some (.ref 35), some (.int 1), some (.int (nI (k + 1)))]) rfl (nI_add k 1) (by decide) rfl ?_
              refine r_goto C 12 dX6_isUsers_59 (by decide) ?_
              exact ih_12 (k + 1) 1 (by omega) (by omega) (Or.inl ⟨rfl, lt_s ((hb.resolve_right (fun z => c_32 z.1)).2) c_47⟩)
  exact loop_12 _ 0 1 (Nat.lt_succ_self _) (Nat.zero_le _) (Or.inl ⟨rfl, fun m hm => absurd hm (Nat.not_lt_zero m)⟩)
set_option maxHeartbeats 4000000 in
set_option maxRecDepth 100000 in
theorem cX6_makeObjectKey9 {w : Wo} {ln : Nat} (hln : 5 ≤ ln ∧ ln ≤ 16) {fk : Nat → Int32} {kn : List Nat} (w_43 : w 43 = ia 16 fk) (h_kn : hs fk kn) (k_kn : kn.length ≤ 16) (hkl : kn.length = ln) {fa sz rz rv pm lo ns os uz ik hsz : Int32} (w_35 : w 35 = mo fa sz rz rv (nI ln) pm lo ns os uz ik (nI (([] : List Nat).length)) hsz) {fm : Nat → Int32} (w_44 : w 44 = ia 16512 fm) {vA vB vC vD : Int32} (w_46 : w 46 = ia 4 (q4f vA vB vC vD)) {fd : Nat → Int32} (w_45 : w 45 = ia 16 fd) {fsn : Nat → Int32} (w_47 : w 47 = ia 64 fsn) (hsn : ∀ k, k < 64 → fsn k = tabf sinL k) {ftn : Nat → Int32} (w_48 : w 48 = ia 16 ftn) (htn : ∀ k, k < 16 → ftn k = tabf turL k) {fh : Nat → Int32} (w_50 : w 50 = ia 16 fh) {nu ge me : Int32} : Ctr mX6_makeObjectKey [.ref 35, .int nu, .int ge, .int me] w (PV fun w' => ∃ fm' tA tB tC tD fd' fh', w' = wset (wset (wset (wset (wset (w) 44 (ia 16512 fm')) 35 (mo fa sz rz rv (nI ln) pm lo ns os uz ik (nI (([] : List Nat).length)) (nI ((objKey ln kn nu ge (me = 2)).length)))) 46 (ia 4 (q4f tA tB tC tD))) 45 (ia 16 fd')) 50 (ia 16 fh') ∧ hs fh' (objKey ln kn nu ge (me = 2))) := by
  refine Ctr_intro okX6_makeObjectKey rfl (Nat.le_of_ble_eq_true rfl) (L := [some (.ref 35), some (.int nu), some (.int ge), some (.int me), none]) rfl (fun g ct C T_ => ?_)
  refine r_iconst C dX6_makeObjectKey_0 (v := 0) (by decide) ?_
  refine r_istore C dX6_makeObjectKey_1 (L' := [some (.ref 35), some (.int nu), some (.int ge), some (.int me), some (.int 0)]) (by decide) rfl ?_
  have loop_3 : ∀ (d9 : Nat) (ka : Nat) (za : List Nat) (fma : Nat → Int32), ln - ka < d9 → ka ≤ ln → za = kn.take ka → hs fma za → Az g mX6_makeObjectKey ct 0 0 3 [some (.ref 35), some (.int nu), some (.int ge), some (.int me), some (.int (nI ka))] [] (wset (wset w 44 (ia 16512 fma)) 35 (mo fa sz rz rv (nI ln) pm lo ns os uz ik (nI za.length) hsz)) := by
    intro d9
    induction d9 with
    | zero => intro ka za fma hd9; exact absurd hd9 (Nat.not_lt_zero _)
    | succ d9 ih_3 =>
      intro ka za fma hd9 hka hza hfma
      have hla : za.length = ka := by rw [hza, List.length_take]; omega
      refine r_iload C dX6_makeObjectKey_3 rfl ?_
      refine r_aload_n C dX6_makeObjectKey_5 rfl ?_
      refine r_get C dX6_makeObjectKey_6 fgRX6_20 (Nat.le_of_ble_eq_true rfl) ws_eq rfl ?_
      refine r_icmp_ge C 29 dX6_makeObjectKey_9 (by decide) (fun c_9 => ?_) (fun c_9 => ?_)
      · skip
        have c_9 : ln ≤ ka := (nI_leI (a := ln) (b := ka) (by omega) (by omega)).mp c_9
        have e9ka : za = kn := by rw [hza, show ka = ln by omega]; rw [take_all (by omega)]
        have e9ka := e9ka.symm
        subst e9ka
        refine r_iconst C dX6_makeObjectKey_29 (v := 0) (by decide) ?_
        refine r_istore C dX6_makeObjectKey_30 (L' := [some (.ref 35), some (.int nu), some (.int ge), some (.int me), some (.int 0)]) (by decide) rfl ?_
        have loop_32 : ∀ (d9 : Nat) (kb : Nat) (zb : List Nat) (fmb : Nat → Int32), 3 - kb < d9 → kb ≤ 3 → zb = kn ++ (lof nu kb) → hs fmb zb → Az g mX6_makeObjectKey ct 0 0 32 [some (.ref 35), some (.int nu), some (.int ge), some (.int me), some (.int (nI kb))] [] (wset (wset w 44 (ia 16512 fmb)) 35 (mo fa sz rz rv (nI ln) pm lo ns os uz ik (nI zb.length) hsz)) := by
          intro d9
          induction d9 with
          | zero => intro kb zb fmb hd9; exact absurd hd9 (Nat.not_lt_zero _)
          | succ d9 ih_32 =>
            intro kb zb fmb hd9 hkb hzb hfmb
            have hlb : zb.length = kn.length + kb := by rw [hzb, List.length_append, lof_len]
            refine r_iload C dX6_makeObjectKey_32 rfl ?_
            refine r_iconst C dX6_makeObjectKey_34 (v := 3) (by decide) ?_
            refine r_icmp_ge C 59 dX6_makeObjectKey_35 (by decide) (fun c_35 => ?_) (fun c_35 => ?_)
            · skip
              have c_35 : 3 ≤ kb := (nI_leI (a := 3) (b := kb) (by omega) (by omega)).mp c_35
              have e9kb : zb = kn ++ lof nu 3 := by rw [hzb, show kb = 3 by omega]
              have e9kb := e9kb.symm
              subst e9kb
              refine r_aload_n C dX6_makeObjectKey_59 rfl ?_
              refine r_iload_n C dX6_makeObjectKey_60 rfl ?_
              refine r_sipush C dX6_makeObjectKey_61 (v := 255) (by decide) ?_
              refine r_iand C dX6_makeObjectKey_64 ?_
              refine r_top (y := nI (byj ge 0)) (and0 ge) ?_
              refine r_callVv C (As := [.int (nI (byj ge 0))]) (rest := []) dX6_makeObjectKey_65 (cX6_say9 ws_eq (ws_ne (Nat.ne_of_beq_eq_false rfl) ws_eq) hfmb (x := nI (byj ge 0)) (y := byj ge 0) rfl (by simp only [List.length_append, List.length_cons, List.length_nil, lof_len] at *; omega)) okX6_say mlRX6_174 imX6_say seX6_say ⟨by decide, by decide⟩ rfl rfl (Nat.le_of_ble_eq_true rfl) ws_eq rfl rfl (Nat.le_of_ble_eq_true rfl) (by decide) (by decide) (fun w9 h9 => ?_)
              obtain ⟨fm_1, rfl, h_2⟩ := h9
              refine r_eq rfl rfl ((congrArg (fun z => wset (z) 35 (mo fa sz rz rv (nI ln) pm lo ns os uz ik (nI (((kn ++ lof nu 3) ++ [byj ge 0]).length)) hsz)) ((ws_comm (Nat.ne_of_beq_eq_false rfl)).trans (congrArg (fun z => wset z 35 (mo fa sz rz rv (nI ln) pm lo ns os uz ik (nI ((kn ++ lof nu 3).length)) hsz)) ws_same))).trans ws_same) ?_
              refine r_aload_n C dX6_makeObjectKey_68 rfl ?_
              refine r_iload_n C dX6_makeObjectKey_69 rfl ?_
              refine r_bipush C dX6_makeObjectKey_70 (v := 8) (by decide) ?_
              refine r_ishr C dX6_makeObjectKey_72 ?_
              refine r_sipush C dX6_makeObjectKey_73 (v := 255) (by decide) ?_
              refine r_iand C dX6_makeObjectKey_76 ?_
              refine r_top (y := nI (byj ge 1)) (shr_and ge (j := 1) (by decide)) ?_
              refine r_callVv C (As := [.int (nI (byj ge 1))]) (rest := []) dX6_makeObjectKey_77 (cX6_say9 ws_eq (ws_ne (Nat.ne_of_beq_eq_false rfl) ws_eq) h_2 (x := nI (byj ge 1)) (y := byj ge 1) rfl (by simp only [List.length_append, List.length_cons, List.length_nil, lof_len] at *; omega)) okX6_say mlRX6_174 imX6_say seX6_say ⟨by decide, by decide⟩ rfl rfl (Nat.le_of_ble_eq_true rfl) ws_eq rfl rfl (Nat.le_of_ble_eq_true rfl) (by decide) (by decide) (fun w9 h9 => ?_)
              obtain ⟨fm_3, rfl, h_4⟩ := h9
              refine r_eq rfl rfl ((congrArg (fun z => wset (z) 35 (mo fa sz rz rv (nI ln) pm lo ns os uz ik (nI ((((kn ++ lof nu 3) ++ [byj ge 0]) ++ [byj ge 1]).length)) hsz)) ((ws_comm (Nat.ne_of_beq_eq_false rfl)).trans (congrArg (fun z => wset z 35 (mo fa sz rz rv (nI ln) pm lo ns os uz ik (nI (((kn ++ lof nu 3) ++ [byj ge 0]).length)) hsz)) ws_same))).trans ws_same) ?_
              refine r_iload_n C dX6_makeObjectKey_80 rfl ?_
              refine r_iconst C dX6_makeObjectKey_81 (v := 2) (by decide) ?_
              refine r_icmp_ne C 109 dX6_makeObjectKey_82 (by decide) (fun c_82 => ?_) (fun c_82 => ?_)
              · skip
                have e9o : ((kn ++ lof nu 3) ++ [byj ge 0]) ++ [byj ge 1] = objMsg kn nu ge (me = 2) := by unfold objMsg; rw [if_neg c_82]; simp [lof, hif, byj, List.range_succ]
                have h_5 := h_4
                rw [e9o] at h_5
                rw [e9o]
                have hol : (objMsg kn nu ge (me = 2)).length ≤ 25 := by unfold objMsg; rw [List.length_append, List.length_append, List.length_append, lof_len, lof_len]; split <;> simp [hif] <;> omega
                refine r_aload_n C dX6_makeObjectKey_109 rfl ?_
                refine r_callVv C (As := []) (rest := []) dX6_makeObjectKey_110 (cX6_finish9 ws_eq (ws_ne (Nat.ne_of_beq_eq_false rfl) ws_eq) h_5 (by omega) (ws_ne (Nat.ne_of_beq_eq_false rfl) (ws_ne (Nat.ne_of_beq_eq_false rfl) w_46)) (ws_ne (Nat.ne_of_beq_eq_false rfl) (ws_ne (Nat.ne_of_beq_eq_false rfl) w_45)) (ws_ne (Nat.ne_of_beq_eq_false rfl) (ws_ne (Nat.ne_of_beq_eq_false rfl) w_47)) hsn (ws_ne (Nat.ne_of_beq_eq_false rfl) (ws_ne (Nat.ne_of_beq_eq_false rfl) w_48)) htn) okX6_finish mlRX6_185 imX6_finish seX6_finish ⟨by decide, by decide⟩ rfl rfl (Nat.le_of_ble_eq_true rfl) ws_eq rfl rfl (Nat.le_of_ble_eq_true rfl) (by decide) (by decide) (fun w9 h9 => ?_)
                obtain ⟨fm_6, t_7, t_8, t_9, t_10, fd_11, rfl, h_12⟩ := h9
                refine r_eq rfl rfl ((congrArg (fun z => wset (wset (wset (z) 35 (mo fa sz rz rv (nI ln) pm lo ns os uz ik (nI (([] : List Nat).length)) hsz)) 46 (ia 4 (q4f t_7 t_8 t_9 t_10))) 45 (ia 16 fd_11)) ((ws_comm (Nat.ne_of_beq_eq_false rfl)).trans (congrArg (fun z => wset z 35 (mo fa sz rz rv (nI ln) pm lo ns os uz ik (nI ((objMsg kn nu ge (me = 2)).length)) hsz)) ws_same))).trans (congrArg (fun z => wset (wset (z) 46 (ia 4 (q4f t_7 t_8 t_9 t_10))) 45 (ia 16 fd_11)) ws_same)) ?_
                refine r_aload_n C dX6_makeObjectKey_113 rfl ?_
                refine r_aload_n C dX6_makeObjectKey_114 rfl ?_
                refine r_get C dX6_makeObjectKey_115 fgRX6_20 (Nat.le_of_ble_eq_true rfl) (ws_ne (Nat.ne_of_beq_eq_false rfl) (ws_ne (Nat.ne_of_beq_eq_false rfl) ws_eq)) rfl ?_
                refine r_iconst C dX6_makeObjectKey_118 (v := 5) (by decide) ?_
                refine r_iadd C dX6_makeObjectKey_119 ?_
                refine r_top (y := nI (ln + 5)) (nI_add ln 5) ?_
                refine r_bipush C dX6_makeObjectKey_120 (v := 16) (by decide) ?_
                refine r_icmp_le C 130 dX6_makeObjectKey_122 (by decide) (fun c_122 => ?_) (fun c_122 => ?_)
                · skip
                  have c_122 : (ln + 5) ≤ 16 := (nI_leI (a := ln + 5) (b := 16) (by omega) (by omega)).mp c_122
                  refine r_aload_n C dX6_makeObjectKey_130 rfl ?_
                  refine r_get C dX6_makeObjectKey_131 fgRX6_20 (Nat.le_of_ble_eq_true rfl) (ws_ne (Nat.ne_of_beq_eq_false rfl) (ws_ne (Nat.ne_of_beq_eq_false rfl) ws_eq)) rfl ?_
                  refine r_iconst C dX6_makeObjectKey_134 (v := 5) (by decide) ?_
                  refine r_iadd C dX6_makeObjectKey_135 ?_
                  refine r_top (y := nI (ln + 5)) (nI_add ln 5) ?_
                  refine r_callVv C (As := [.int (nI (ln + 5))]) (rest := []) dX6_makeObjectKey_136 (cX6_takeHand9 (ws_ne (Nat.ne_of_beq_eq_false rfl) (ws_ne (Nat.ne_of_beq_eq_false rfl) ws_eq)) ws_eq h_12 (ws_ne (Nat.ne_of_beq_eq_false rfl) (ws_ne (Nat.ne_of_beq_eq_false rfl) (ws_ne (Nat.ne_of_beq_eq_false rfl) (ws_ne (Nat.ne_of_beq_eq_false rfl) w_50)))) (mm := ln + 5) (by omega) (by rw [md5_len]; omega)) okX6_takeHand mlRX6_214 imX6_takeHand seX6_takeHand ⟨by decide, by decide⟩ rfl rfl (Nat.le_of_ble_eq_true rfl) (ws_ne (Nat.ne_of_beq_eq_false rfl) (ws_ne (Nat.ne_of_beq_eq_false rfl) ws_eq)) rfl rfl (Nat.le_of_ble_eq_true rfl) (by decide) (by decide) (fun w9 h9 => ?_)
                  obtain ⟨fh_13, rfl, h_14⟩ := h9
                  refine r_eq rfl rfl (congrArg (fun z => wset (z) 50 (ia 16 fh_13)) ((ws_comm (Nat.ne_of_beq_eq_false rfl)).trans (congrArg (fun z => wset z 45 (ia 16 fd_11)) ((ws_comm (Nat.ne_of_beq_eq_false rfl)).trans (congrArg (fun z => wset z 46 (ia 4 (q4f t_7 t_8 t_9 t_10))) ws_same))))) ?_
                  exact r_return C T_ rfl dX6_makeObjectKey_139 (⟨rfl, _, _, _, _, _, _, _, by rw [show objKey ln kn nu ge (me = 2) = (md5 (objMsg kn nu ge (me = 2))).take (ln + 5) from rfl], by rw [show objKey ln kn nu ge (me = 2) = (md5 (objMsg kn nu ge (me = 2))).take (ln + 5) from rfl]; exact h_14⟩)
                · skip
                  have c_122 : ¬ ((ln + 5) ≤ 16) := fun h9 => c_122 ((nI_leI (a := ln + 5) (b := 16) (by omega) (by omega)).mpr h9)
                  refine r_bipush C dX6_makeObjectKey_125 (v := 16) (by decide) ?_
                  refine r_goto C 136 dX6_makeObjectKey_127 (by decide) ?_
                  refine r_callVv C (As := [.int 16]) (rest := []) dX6_makeObjectKey_136 (cX6_takeHand9 (ws_ne (Nat.ne_of_beq_eq_false rfl) (ws_ne (Nat.ne_of_beq_eq_false rfl) ws_eq)) ws_eq h_12 (ws_ne (Nat.ne_of_beq_eq_false rfl) (ws_ne (Nat.ne_of_beq_eq_false rfl) (ws_ne (Nat.ne_of_beq_eq_false rfl) (ws_ne (Nat.ne_of_beq_eq_false rfl) w_50)))) (mm := 16) (by omega) (by rw [md5_len]; omega)) okX6_takeHand mlRX6_214 imX6_takeHand seX6_takeHand ⟨by decide, by decide⟩ rfl rfl (Nat.le_of_ble_eq_true rfl) (ws_ne (Nat.ne_of_beq_eq_false rfl) (ws_ne (Nat.ne_of_beq_eq_false rfl) ws_eq)) rfl rfl (Nat.le_of_ble_eq_true rfl) (by decide) (by decide) (fun w9 h9 => ?_)
                  obtain ⟨fh_15, rfl, h_16⟩ := h9
                  refine r_eq rfl rfl (congrArg (fun z => wset (z) 50 (ia 16 fh_15)) ((ws_comm (Nat.ne_of_beq_eq_false rfl)).trans (congrArg (fun z => wset z 45 (ia 16 fd_11)) ((ws_comm (Nat.ne_of_beq_eq_false rfl)).trans (congrArg (fun z => wset z 46 (ia 4 (q4f t_7 t_8 t_9 t_10))) ws_same))))) ?_
                  exact r_return C T_ rfl dX6_makeObjectKey_139 (⟨rfl, _, _, _, _, _, _, _, by rw [show objKey ln kn nu ge (me = 2) = (md5 (objMsg kn nu ge (me = 2))).take 16 from by unfold objKey; rw [take_all (by rw [md5_len]; omega), take_all (by rw [md5_len]; decide)]], by rw [show objKey ln kn nu ge (me = 2) = (md5 (objMsg kn nu ge (me = 2))).take 16 from by unfold objKey; rw [take_all (by rw [md5_len]; omega), take_all (by rw [md5_len]; decide)]]; exact h_16⟩)
              · skip
                refine r_aload_n C dX6_makeObjectKey_85 rfl ?_
                refine r_bipush C dX6_makeObjectKey_86 (v := 115) (by decide) ?_
                refine r_callVv C (As := [.int 115]) (rest := []) dX6_makeObjectKey_88 (cX6_say9 ws_eq (ws_ne (Nat.ne_of_beq_eq_false rfl) ws_eq) h_4 (x := 115) (y := 115) rfl (by simp only [List.length_append, List.length_cons, List.length_nil, lof_len] at *; omega)) okX6_say mlRX6_174 imX6_say seX6_say ⟨by decide, by decide⟩ rfl rfl (Nat.le_of_ble_eq_true rfl) ws_eq rfl rfl (Nat.le_of_ble_eq_true rfl) (by decide) (by decide) (fun w9 h9 => ?_)
                obtain ⟨fm_17, rfl, h_18⟩ := h9
                refine r_eq rfl rfl ((congrArg (fun z => wset (z) 35 (mo fa sz rz rv (nI ln) pm lo ns os uz ik (nI (((((kn ++ lof nu 3) ++ [byj ge 0]) ++ [byj ge 1]) ++ [115]).length)) hsz)) ((ws_comm (Nat.ne_of_beq_eq_false rfl)).trans (congrArg (fun z => wset z 35 (mo fa sz rz rv (nI ln) pm lo ns os uz ik (nI ((((kn ++ lof nu 3) ++ [byj ge 0]) ++ [byj ge 1]).length)) hsz)) ws_same))).trans ws_same) ?_
                refine r_aload_n C dX6_makeObjectKey_91 rfl ?_
                refine r_bipush C dX6_makeObjectKey_92 (v := 65) (by decide) ?_
                refine r_callVv C (As := [.int 65]) (rest := []) dX6_makeObjectKey_94 (cX6_say9 ws_eq (ws_ne (Nat.ne_of_beq_eq_false rfl) ws_eq) h_18 (x := 65) (y := 65) rfl (by simp only [List.length_append, List.length_cons, List.length_nil, lof_len] at *; omega)) okX6_say mlRX6_174 imX6_say seX6_say ⟨by decide, by decide⟩ rfl rfl (Nat.le_of_ble_eq_true rfl) ws_eq rfl rfl (Nat.le_of_ble_eq_true rfl) (by decide) (by decide) (fun w9 h9 => ?_)
                obtain ⟨fm_19, rfl, h_20⟩ := h9
                refine r_eq rfl rfl ((congrArg (fun z => wset (z) 35 (mo fa sz rz rv (nI ln) pm lo ns os uz ik (nI ((((((kn ++ lof nu 3) ++ [byj ge 0]) ++ [byj ge 1]) ++ [115]) ++ [65]).length)) hsz)) ((ws_comm (Nat.ne_of_beq_eq_false rfl)).trans (congrArg (fun z => wset z 35 (mo fa sz rz rv (nI ln) pm lo ns os uz ik (nI (((((kn ++ lof nu 3) ++ [byj ge 0]) ++ [byj ge 1]) ++ [115]).length)) hsz)) ws_same))).trans ws_same) ?_
                refine r_aload_n C dX6_makeObjectKey_97 rfl ?_
                refine r_bipush C dX6_makeObjectKey_98 (v := 108) (by decide) ?_
                refine r_callVv C (As := [.int 108]) (rest := []) dX6_makeObjectKey_100 (cX6_say9 ws_eq (ws_ne (Nat.ne_of_beq_eq_false rfl) ws_eq) h_20 (x := 108) (y := 108) rfl (by simp only [List.length_append, List.length_cons, List.length_nil, lof_len] at *; omega)) okX6_say mlRX6_174 imX6_say seX6_say ⟨by decide, by decide⟩ rfl rfl (Nat.le_of_ble_eq_true rfl) ws_eq rfl rfl (Nat.le_of_ble_eq_true rfl) (by decide) (by decide) (fun w9 h9 => ?_)
                obtain ⟨fm_21, rfl, h_22⟩ := h9
                refine r_eq rfl rfl ((congrArg (fun z => wset (z) 35 (mo fa sz rz rv (nI ln) pm lo ns os uz ik (nI (((((((kn ++ lof nu 3) ++ [byj ge 0]) ++ [byj ge 1]) ++ [115]) ++ [65]) ++ [108]).length)) hsz)) ((ws_comm (Nat.ne_of_beq_eq_false rfl)).trans (congrArg (fun z => wset z 35 (mo fa sz rz rv (nI ln) pm lo ns os uz ik (nI ((((((kn ++ lof nu 3) ++ [byj ge 0]) ++ [byj ge 1]) ++ [115]) ++ [65]).length)) hsz)) ws_same))).trans ws_same) ?_
                refine r_aload_n C dX6_makeObjectKey_103 rfl ?_
                refine r_bipush C dX6_makeObjectKey_104 (v := 84) (by decide) ?_
                refine r_callVv C (As := [.int 84]) (rest := []) dX6_makeObjectKey_106 (cX6_say9 ws_eq (ws_ne (Nat.ne_of_beq_eq_false rfl) ws_eq) h_22 (x := 84) (y := 84) rfl (by simp only [List.length_append, List.length_cons, List.length_nil, lof_len] at *; omega)) okX6_say mlRX6_174 imX6_say seX6_say ⟨by decide, by decide⟩ rfl rfl (Nat.le_of_ble_eq_true rfl) ws_eq rfl rfl (Nat.le_of_ble_eq_true rfl) (by decide) (by decide) (fun w9 h9 => ?_)
                obtain ⟨fm_23, rfl, h_24⟩ := h9
                refine r_eq rfl rfl ((congrArg (fun z => wset (z) 35 (mo fa sz rz rv (nI ln) pm lo ns os uz ik (nI ((((((((kn ++ lof nu 3) ++ [byj ge 0]) ++ [byj ge 1]) ++ [115]) ++ [65]) ++ [108]) ++ [84]).length)) hsz)) ((ws_comm (Nat.ne_of_beq_eq_false rfl)).trans (congrArg (fun z => wset z 35 (mo fa sz rz rv (nI ln) pm lo ns os uz ik (nI (((((((kn ++ lof nu 3) ++ [byj ge 0]) ++ [byj ge 1]) ++ [115]) ++ [65]) ++ [108]).length)) hsz)) ws_same))).trans ws_same) ?_
                have e9o : ((((((kn ++ lof nu 3) ++ [byj ge 0]) ++ [byj ge 1]) ++ [115]) ++ [65]) ++ [108]) ++ [84] = objMsg kn nu ge (me = 2) := by unfold objMsg; rw [if_pos c_82]; simp [lof, hif, byj, List.range_succ]
                have h_25 := h_24
                rw [e9o] at h_25
                rw [e9o]
                have hol : (objMsg kn nu ge (me = 2)).length ≤ 25 := by unfold objMsg; rw [List.length_append, List.length_append, List.length_append, lof_len, lof_len]; split <;> simp [hif] <;> omega
                refine r_aload_n C dX6_makeObjectKey_109 rfl ?_
                refine r_callVv C (As := []) (rest := []) dX6_makeObjectKey_110 (cX6_finish9 ws_eq (ws_ne (Nat.ne_of_beq_eq_false rfl) ws_eq) h_25 (by omega) (ws_ne (Nat.ne_of_beq_eq_false rfl) (ws_ne (Nat.ne_of_beq_eq_false rfl) w_46)) (ws_ne (Nat.ne_of_beq_eq_false rfl) (ws_ne (Nat.ne_of_beq_eq_false rfl) w_45)) (ws_ne (Nat.ne_of_beq_eq_false rfl) (ws_ne (Nat.ne_of_beq_eq_false rfl) w_47)) hsn (ws_ne (Nat.ne_of_beq_eq_false rfl) (ws_ne (Nat.ne_of_beq_eq_false rfl) w_48)) htn) okX6_finish mlRX6_185 imX6_finish seX6_finish ⟨by decide, by decide⟩ rfl rfl (Nat.le_of_ble_eq_true rfl) ws_eq rfl rfl (Nat.le_of_ble_eq_true rfl) (by decide) (by decide) (fun w9 h9 => ?_)
                obtain ⟨fm_26, t_27, t_28, t_29, t_30, fd_31, rfl, h_32⟩ := h9
                refine r_eq rfl rfl ((congrArg (fun z => wset (wset (wset (z) 35 (mo fa sz rz rv (nI ln) pm lo ns os uz ik (nI (([] : List Nat).length)) hsz)) 46 (ia 4 (q4f t_27 t_28 t_29 t_30))) 45 (ia 16 fd_31)) ((ws_comm (Nat.ne_of_beq_eq_false rfl)).trans (congrArg (fun z => wset z 35 (mo fa sz rz rv (nI ln) pm lo ns os uz ik (nI ((objMsg kn nu ge (me = 2)).length)) hsz)) ws_same))).trans (congrArg (fun z => wset (wset (z) 46 (ia 4 (q4f t_27 t_28 t_29 t_30))) 45 (ia 16 fd_31)) ws_same)) ?_
                refine r_aload_n C dX6_makeObjectKey_113 rfl ?_
                refine r_aload_n C dX6_makeObjectKey_114 rfl ?_
                refine r_get C dX6_makeObjectKey_115 fgRX6_20 (Nat.le_of_ble_eq_true rfl) (ws_ne (Nat.ne_of_beq_eq_false rfl) (ws_ne (Nat.ne_of_beq_eq_false rfl) ws_eq)) rfl ?_
                refine r_iconst C dX6_makeObjectKey_118 (v := 5) (by decide) ?_
                refine r_iadd C dX6_makeObjectKey_119 ?_
                refine r_top (y := nI (ln + 5)) (nI_add ln 5) ?_
                refine r_bipush C dX6_makeObjectKey_120 (v := 16) (by decide) ?_
                refine r_icmp_le C 130 dX6_makeObjectKey_122 (by decide) (fun c_122 => ?_) (fun c_122 => ?_)
                · skip
                  have c_122 : (ln + 5) ≤ 16 := (nI_leI (a := ln + 5) (b := 16) (by omega) (by omega)).mp c_122
                  refine r_aload_n C dX6_makeObjectKey_130 rfl ?_
                  refine r_get C dX6_makeObjectKey_131 fgRX6_20 (Nat.le_of_ble_eq_true rfl) (ws_ne (Nat.ne_of_beq_eq_false rfl) (ws_ne (Nat.ne_of_beq_eq_false rfl) ws_eq)) rfl ?_
                  refine r_iconst C dX6_makeObjectKey_134 (v := 5) (by decide) ?_
                  refine r_iadd C dX6_makeObjectKey_135 ?_
                  refine r_top (y := nI (ln + 5)) (nI_add ln 5) ?_
                  refine r_callVv C (As := [.int (nI (ln + 5))]) (rest := []) dX6_makeObjectKey_136 (cX6_takeHand9 (ws_ne (Nat.ne_of_beq_eq_false rfl) (ws_ne (Nat.ne_of_beq_eq_false rfl) ws_eq)) ws_eq h_32 (ws_ne (Nat.ne_of_beq_eq_false rfl) (ws_ne (Nat.ne_of_beq_eq_false rfl) (ws_ne (Nat.ne_of_beq_eq_false rfl) (ws_ne (Nat.ne_of_beq_eq_false rfl) w_50)))) (mm := ln + 5) (by omega) (by rw [md5_len]; omega)) okX6_takeHand mlRX6_214 imX6_takeHand seX6_takeHand ⟨by decide, by decide⟩ rfl rfl (Nat.le_of_ble_eq_true rfl) (ws_ne (Nat.ne_of_beq_eq_false rfl) (ws_ne (Nat.ne_of_beq_eq_false rfl) ws_eq)) rfl rfl (Nat.le_of_ble_eq_true rfl) (by decide) (by decide) (fun w9 h9 => ?_)
                  obtain ⟨fh_33, rfl, h_34⟩ := h9
                  refine r_eq rfl rfl (congrArg (fun z => wset (z) 50 (ia 16 fh_33)) ((ws_comm (Nat.ne_of_beq_eq_false rfl)).trans (congrArg (fun z => wset z 45 (ia 16 fd_31)) ((ws_comm (Nat.ne_of_beq_eq_false rfl)).trans (congrArg (fun z => wset z 46 (ia 4 (q4f t_27 t_28 t_29 t_30))) ws_same))))) ?_
                  exact r_return C T_ rfl dX6_makeObjectKey_139 (⟨rfl, _, _, _, _, _, _, _, by rw [show objKey ln kn nu ge (me = 2) = (md5 (objMsg kn nu ge (me = 2))).take (ln + 5) from rfl], by rw [show objKey ln kn nu ge (me = 2) = (md5 (objMsg kn nu ge (me = 2))).take (ln + 5) from rfl]; exact h_34⟩)
                · skip
                  have c_122 : ¬ ((ln + 5) ≤ 16) := fun h9 => c_122 ((nI_leI (a := ln + 5) (b := 16) (by omega) (by omega)).mpr h9)
                  refine r_bipush C dX6_makeObjectKey_125 (v := 16) (by decide) ?_
                  refine r_goto C 136 dX6_makeObjectKey_127 (by decide) ?_
                  refine r_callVv C (As := [.int 16]) (rest := []) dX6_makeObjectKey_136 (cX6_takeHand9 (ws_ne (Nat.ne_of_beq_eq_false rfl) (ws_ne (Nat.ne_of_beq_eq_false rfl) ws_eq)) ws_eq h_32 (ws_ne (Nat.ne_of_beq_eq_false rfl) (ws_ne (Nat.ne_of_beq_eq_false rfl) (ws_ne (Nat.ne_of_beq_eq_false rfl) (ws_ne (Nat.ne_of_beq_eq_false rfl) w_50)))) (mm := 16) (by omega) (by rw [md5_len]; omega)) okX6_takeHand mlRX6_214 imX6_takeHand seX6_takeHand ⟨by decide, by decide⟩ rfl rfl (Nat.le_of_ble_eq_true rfl) (ws_ne (Nat.ne_of_beq_eq_false rfl) (ws_ne (Nat.ne_of_beq_eq_false rfl) ws_eq)) rfl rfl (Nat.le_of_ble_eq_true rfl) (by decide) (by decide) (fun w9 h9 => ?_)
                  obtain ⟨fh_35, rfl, h_36⟩ := h9
                  refine r_eq rfl rfl (congrArg (fun z => wset (z) 50 (ia 16 fh_35)) ((ws_comm (Nat.ne_of_beq_eq_false rfl)).trans (congrArg (fun z => wset z 45 (ia 16 fd_31)) ((ws_comm (Nat.ne_of_beq_eq_false rfl)).trans (congrArg (fun z => wset z 46 (ia 4 (q4f t_27 t_28 t_29 t_30))) ws_same))))) ?_
                  exact r_return C T_ rfl dX6_makeObjectKey_139 (⟨rfl, _, _, _, _, _, _, _, by rw [show objKey ln kn nu ge (me = 2) = (md5 (objMsg kn nu ge (me = 2))).take 16 from by unfold objKey; rw [take_all (by rw [md5_len]; omega), take_all (by rw [md5_len]; decide)]], by rw [show objKey ln kn nu ge (me = 2) = (md5 (objMsg kn nu ge (me = 2))).take 16 from by unfold objKey; rw [take_all (by rw [md5_len]; omega), take_all (by rw [md5_len]; decide)]]; exact h_36⟩)
            · skip
              have c_35 : ¬ (3 ≤ kb) := fun h9 => c_35 ((nI_leI (a := 3) (b := kb) (by omega) (by omega)).mpr h9)
              refine r_aload_n C dX6_makeObjectKey_38 rfl ?_
              refine r_iload_n C dX6_makeObjectKey_39 rfl ?_
              refine r_bipush C dX6_makeObjectKey_40 (v := 8) (by decide) ?_
              refine r_iload C dX6_makeObjectKey_42 rfl ?_
              refine r_imul C dX6_makeObjectKey_44 ?_
              refine r_top (y := nI (8 * kb)) (pk_mul 8 kb) ?_
              refine r_ishr C dX6_makeObjectKey_45 ?_
              refine r_sipush C dX6_makeObjectKey_46 (v := 255) (by decide) ?_
              refine r_iand C dX6_makeObjectKey_49 ?_
              refine r_top (y := nI (byj nu kb)) (shr_and nu (by omega)) ?_
              refine r_callVv C (As := [.int (nI (byj nu kb))]) (rest := []) dX6_makeObjectKey_50 (cX6_say9 ws_eq (ws_ne (Nat.ne_of_beq_eq_false rfl) ws_eq) hfmb (x := nI (byj nu kb)) (y := byj nu kb) rfl (by omega)) okX6_say mlRX6_174 imX6_say seX6_say ⟨by decide, by decide⟩ rfl rfl (Nat.le_of_ble_eq_true rfl) ws_eq rfl rfl (Nat.le_of_ble_eq_true rfl) (by decide) (by decide) (fun w9 h9 => ?_)
              obtain ⟨fm_37, rfl, h_38⟩ := h9
              refine r_eq rfl rfl ((congrArg (fun z => wset (z) 35 (mo fa sz rz rv (nI ln) pm lo ns os uz ik (nI ((zb ++ [byj nu kb]).length)) hsz)) ((ws_comm (Nat.ne_of_beq_eq_false rfl)).trans (congrArg (fun z => wset z 35 (mo fa sz rz rv (nI ln) pm lo ns os uz ik (nI zb.length) hsz)) ws_same))).trans ws_same) ?_
              refine r_iinc C dX6_makeObjectKey_53 (v := nI (kb + 1)) (L' := [some (.ref 35), some (.int nu), some (.int ge), some (.int me), some (.int (nI (kb + 1)))]) rfl (nI_add kb 1) (by decide) rfl ?_
              refine r_goto C 32 dX6_makeObjectKey_56 (by decide) ?_
              exact ih_32 (kb + 1) _ _ (by omega) (by omega) (by rw [hzb, lof_succ, List.append_assoc]) h_38
        exact loop_32 _ 0 _ _ (Nat.lt_succ_self _) (Nat.zero_le _) (by simp [lof]) hfma
      · skip
        have c_9 : ¬ (ln ≤ ka) := fun h9 => c_9 ((nI_leI (a := ln) (b := ka) (by omega) (by omega)).mpr h9)
        refine r_aload_n C dX6_makeObjectKey_12 rfl ?_
        refine r_aload_n C dX6_makeObjectKey_13 rfl ?_
        refine r_get C dX6_makeObjectKey_14 fgRX6_41 (Nat.le_of_ble_eq_true rfl) ws_eq rfl ?_
        refine r_iload C dX6_makeObjectKey_17 rfl ?_
        refine r_ialdN C dX6_makeObjectKey_19 (Nat.le_of_ble_eq_true rfl) (ws_ne (Nat.ne_of_beq_eq_false rfl) (ws_ne (Nat.ne_of_beq_eq_false rfl) w_43)) (j := ka) rfl (by omega) (by decide) ?_
        refine r_top (y := nI (kn.getD ka 0)) (h_kn _ (by omega)) ?_
        refine r_callVv C (As := [.int (nI (kn.getD ka 0))]) (rest := []) dX6_makeObjectKey_20 (cX6_say9 ws_eq (ws_ne (Nat.ne_of_beq_eq_false rfl) ws_eq) hfma (x := nI (kn.getD ka 0)) (y := kn.getD ka 0) rfl (by omega)) okX6_say mlRX6_174 imX6_say seX6_say ⟨by decide, by decide⟩ rfl rfl (Nat.le_of_ble_eq_true rfl) ws_eq rfl rfl (Nat.le_of_ble_eq_true rfl) (by decide) (by decide) (fun w9 h9 => ?_)
        obtain ⟨fm_39, rfl, h_40⟩ := h9
        refine r_eq rfl rfl ((congrArg (fun z => wset (z) 35 (mo fa sz rz rv (nI ln) pm lo ns os uz ik (nI ((za ++ [kn.getD ka 0]).length)) hsz)) ((ws_comm (Nat.ne_of_beq_eq_false rfl)).trans (congrArg (fun z => wset z 35 (mo fa sz rz rv (nI ln) pm lo ns os uz ik (nI za.length) hsz)) ws_same))).trans ws_same) ?_
        refine r_iinc C dX6_makeObjectKey_23 (v := nI (ka + 1)) (L' := [some (.ref 35), some (.int nu), some (.int ge), some (.int me), some (.int (nI (ka + 1)))]) rfl (nI_add ka 1) (by decide) rfl ?_
        refine r_goto C 3 dX6_makeObjectKey_26 (by decide) ?_
        exact ih_3 (ka + 1) _ _ (by omega) (by omega) (by rw [hza, take_push (by omega)]) h_40
  refine r_eq rfl rfl (ws_self w_44).symm ?_
  refine r_eq rfl rfl (ws_self (ws_ne (Nat.ne_of_beq_eq_false rfl) w_35)).symm ?_
  exact loop_3 _ 0 _ _ (Nat.lt_succ_self _) (Nat.zero_le _) (by simp) (hs_nil fm)
