theorem gt2 {x : Int32} : 2 < x ↔ 3 ≤ x := by
  rw [Int32.lt_iff_toInt_lt, Int32.le_iff_toInt_le]
  show (2 : Int) < x.toInt ↔ (3 : Int) ≤ x.toInt
  omega
set_option maxHeartbeats 4000000 in
set_option maxRecDepth 100000 in
theorem cX6_makeOwnerKey9 {w : Wo} {ln : Nat} (hln : 5 ≤ ln ∧ ln ≤ 16) {fa sz rz rv pm lo ns os uz ik hsz : Int32} (w_35 : w 35 = mo fa sz rz rv (nI ln) pm lo ns os uz ik (nI (([] : List Nat).length)) hsz) {fp : Nat → Int32} {ys : List Nat} (w_53 : w 53 = ia 32 fp) (h_ys : hs fp (padd ys)) {fm : Nat → Int32} (w_44 : w 44 = ia 16512 fm) {vA vB vC vD : Int32} (w_46 : w 46 = ia 4 (q4f vA vB vC vD)) {fd : Nat → Int32} (w_45 : w 45 = ia 16 fd) {fsn : Nat → Int32} (w_47 : w 47 = ia 64 fsn) (hsn : ∀ k, k < 64 → fsn k = tabf sinL k) {ftn : Nat → Int32} (w_48 : w 48 = ia 16 ftn) (htn : ∀ k, k < 16 → ftn k = tabf turL k) {fh : Nat → Int32} (w_50 : w 50 = ia 16 fh) : Ctr mX6_makeOwnerKey [.ref 35] w (PV fun w' => ∃ fm' tA tB tC tD fd' fh', w' = wset (wset (wset (wset (wset (w) 44 (ia 16512 fm')) 35 (mo fa sz rz rv (nI ln) pm lo ns os uz ik (nI (([] : List Nat).length)) (nI ((ownKey rv ln ys).length)))) 46 (ia 4 (q4f tA tB tC tD))) 45 (ia 16 fd')) 50 (ia 16 fh') ∧ hs fh' (ownKey rv ln ys)) := by
  refine Ctr_intro okX6_makeOwnerKey rfl (Nat.le_of_ble_eq_true rfl) (L := [some (.ref 35), none]) rfl (fun g ct C T_ => ?_)
  refine r_iconst C dX6_makeOwnerKey_0 (v := 0) (by decide) ?_
  refine r_istore_n C dX6_makeOwnerKey_1 (L' := [some (.ref 35), some (.int 0)]) (by decide) rfl ?_
  have loop_2 : ∀ (d9 : Nat) (ka : Nat) (za : List Nat) (fma : Nat → Int32), 32 - ka < d9 → ka ≤ 32 → za = (padd ys).take ka → hs fma za → Az g mX6_makeOwnerKey ct 0 0 2 [some (.ref 35), some (.int (nI ka))] [] (wset (wset w 44 (ia 16512 fma)) 35 (mo fa sz rz rv (nI ln) pm lo ns os uz ik (nI za.length) hsz)) := by
    intro d9
    induction d9 with
    | zero => intro ka za fma hd9; exact absurd hd9 (Nat.not_lt_zero _)
    | succ d9 ih_2 =>
      intro ka za fma hd9 hka hza hfma
      have hla : za.length = ka := by rw [hza, List.length_take, padd_len]; omega
      refine r_iload_n C dX6_makeOwnerKey_2 rfl ?_
      refine r_bipush C dX6_makeOwnerKey_3 (v := 32) (by decide) ?_
      refine r_icmp_ge C 24 dX6_makeOwnerKey_5 (by decide) (fun c_5 => ?_) (fun c_5 => ?_)
      · skip
        have c_5 : 32 ≤ ka := (nI_leI (a := 32) (b := ka) (by omega) (by omega)).mp c_5
        have e9ka : za = padd ys := by rw [hza, show ka = 32 by omega]; rw [take_all (by rw [padd_len]; omega)]
        subst e9ka
        refine r_aload_n C dX6_makeOwnerKey_24 rfl ?_
        refine r_callVv C (As := []) (rest := []) dX6_makeOwnerKey_25 (cX6_finish9 ws_eq (ws_ne (Nat.ne_of_beq_eq_false rfl) ws_eq) hfma (by rw [padd_len]; omega) (ws_ne (Nat.ne_of_beq_eq_false rfl) (ws_ne (Nat.ne_of_beq_eq_false rfl) w_46)) (ws_ne (Nat.ne_of_beq_eq_false rfl) (ws_ne (Nat.ne_of_beq_eq_false rfl) w_45)) (ws_ne (Nat.ne_of_beq_eq_false rfl) (ws_ne (Nat.ne_of_beq_eq_false rfl) w_47)) hsn (ws_ne (Nat.ne_of_beq_eq_false rfl) (ws_ne (Nat.ne_of_beq_eq_false rfl) w_48)) htn) okX6_finish mlRX6_185 imX6_finish seX6_finish ⟨by decide, by decide⟩ rfl rfl (Nat.le_of_ble_eq_true rfl) ws_eq rfl rfl (Nat.le_of_ble_eq_true rfl) (by decide) (by decide) (fun w9 h9 => ?_)
        obtain ⟨fm_1, t_2, t_3, t_4, t_5, fd_6, rfl, h_7⟩ := h9
        refine r_eq rfl rfl ((congrArg (fun z => wset (wset (wset (z) 35 (mo fa sz rz rv (nI ln) pm lo ns os uz ik (nI (([] : List Nat).length)) hsz)) 46 (ia 4 (q4f t_2 t_3 t_4 t_5))) 45 (ia 16 fd_6)) ((ws_comm (Nat.ne_of_beq_eq_false rfl)).trans (congrArg (fun z => wset z 35 (mo fa sz rz rv (nI ln) pm lo ns os uz ik (nI ((padd ys).length)) hsz)) ws_same))).trans (congrArg (fun z => wset (wset (z) 46 (ia 4 (q4f t_2 t_3 t_4 t_5))) 45 (ia 16 fd_6)) ws_same)) ?_
        refine r_aload_n C dX6_makeOwnerKey_28 rfl ?_
        refine r_aload_n C dX6_makeOwnerKey_29 rfl ?_
        refine r_get C dX6_makeOwnerKey_30 fgRX6_16 (Nat.le_of_ble_eq_true rfl) (ws_ne (Nat.ne_of_beq_eq_false rfl) (ws_ne (Nat.ne_of_beq_eq_false rfl) ws_eq)) rfl ?_
        refine r_iconst C dX6_makeOwnerKey_33 (v := 2) (by decide) ?_
        refine r_icmp_le C 42 dX6_makeOwnerKey_34 (by decide) (fun c_34 => ?_) (fun c_34 => ?_)
        · skip
          refine r_iconst C dX6_makeOwnerKey_42 (v := 0) (by decide) ?_
          refine r_bipush C dX6_makeOwnerKey_43 (v := 16) (by decide) ?_
          refine r_callVv C (As := [.int 0, .int 16]) (rest := []) dX6_makeOwnerKey_45 (cX6_again9 (ws_ne (Nat.ne_of_beq_eq_false rfl) (ws_ne (Nat.ne_of_beq_eq_false rfl) ws_eq)) (ws_ne (Nat.ne_of_beq_eq_false rfl) (ws_ne (Nat.ne_of_beq_eq_false rfl) (ws_ne (Nat.ne_of_beq_eq_false rfl) ws_eq))) (ws_ne (Nat.ne_of_beq_eq_false rfl) ws_eq) ws_eq (ws_ne (Nat.ne_of_beq_eq_false rfl) (ws_ne (Nat.ne_of_beq_eq_false rfl) (ws_ne (Nat.ne_of_beq_eq_false rfl) (ws_ne (Nat.ne_of_beq_eq_false rfl) w_47)))) hsn (ws_ne (Nat.ne_of_beq_eq_false rfl) (ws_ne (Nat.ne_of_beq_eq_false rfl) (ws_ne (Nat.ne_of_beq_eq_false rfl) (ws_ne (Nat.ne_of_beq_eq_false rfl) w_48)))) htn h_7 (md5_len _) (byt_md5 _) (tt := 0) (mm := 16) (by omega) (by omega)) okX6_again mlRX6_210 imX6_again seX6_again ⟨by decide, by decide⟩ rfl rfl (Nat.le_of_ble_eq_true rfl) (ws_ne (Nat.ne_of_beq_eq_false rfl) (ws_ne (Nat.ne_of_beq_eq_false rfl) ws_eq)) rfl rfl (Nat.le_of_ble_eq_true rfl) (by decide) (by decide) (fun w9 h9 => ?_)
          obtain ⟨fm_8, t_9, t_10, t_11, t_12, fd_13, rfl, h_14⟩ := h9
          refine r_eq rfl rfl ((((congrArg (fun z => wset (wset (wset (z) 35 (mo fa sz rz rv (nI ln) pm lo ns os uz ik (nI (([] : List Nat).length)) hsz)) 46 (ia 4 (q4f t_9 t_10 t_11 t_12))) 45 (ia 16 fd_13)) ((ws_comm (Nat.ne_of_beq_eq_false rfl)).trans (congrArg (fun z => wset z 45 (ia 16 fd_6)) ((ws_comm (Nat.ne_of_beq_eq_false rfl)).trans (congrArg (fun z => wset z 46 (ia 4 (q4f t_2 t_3 t_4 t_5))) ((ws_comm (Nat.ne_of_beq_eq_false rfl)).trans (congrArg (fun z => wset z 35 (mo fa sz rz rv (nI ln) pm lo ns os uz ik (nI (([] : List Nat).length)) hsz)) ws_same))))))).trans (congrArg (fun z => wset (wset (z) 46 (ia 4 (q4f t_9 t_10 t_11 t_12))) 45 (ia 16 fd_13)) ((ws_comm (Nat.ne_of_beq_eq_false rfl)).trans (congrArg (fun z => wset z 45 (ia 16 fd_6)) ((ws_comm (Nat.ne_of_beq_eq_false rfl)).trans (congrArg (fun z => wset z 46 (ia 4 (q4f t_2 t_3 t_4 t_5))) ws_same)))))).trans (congrArg (fun z => wset (z) 45 (ia 16 fd_13)) ((ws_comm (Nat.ne_of_beq_eq_false rfl)).trans (congrArg (fun z => wset z 45 (ia 16 fd_6)) ws_same)))).trans ws_same) ?_
          refine r_aload_n C dX6_makeOwnerKey_48 rfl ?_
          refine r_aload_n C dX6_makeOwnerKey_49 rfl ?_
          refine r_get C dX6_makeOwnerKey_50 fgRX6_20 (Nat.le_of_ble_eq_true rfl) (ws_ne (Nat.ne_of_beq_eq_false rfl) (ws_ne (Nat.ne_of_beq_eq_false rfl) ws_eq)) rfl ?_
          refine r_callVv C (As := [.int (nI ln)]) (rest := []) dX6_makeOwnerKey_53 (cX6_takeHand9 (ws_ne (Nat.ne_of_beq_eq_false rfl) (ws_ne (Nat.ne_of_beq_eq_false rfl) ws_eq)) ws_eq h_14 (ws_ne (Nat.ne_of_beq_eq_false rfl) (ws_ne (Nat.ne_of_beq_eq_false rfl) (ws_ne (Nat.ne_of_beq_eq_false rfl) (ws_ne (Nat.ne_of_beq_eq_false rfl) w_50)))) (mm := ln) (by omega) (by rw [again_len (md5_len _)]; omega)) okX6_takeHand mlRX6_214 imX6_takeHand seX6_takeHand ⟨by decide, by decide⟩ rfl rfl (Nat.le_of_ble_eq_true rfl) (ws_ne (Nat.ne_of_beq_eq_false rfl) (ws_ne (Nat.ne_of_beq_eq_false rfl) ws_eq)) rfl rfl (Nat.le_of_ble_eq_true rfl) (by decide) (by decide) (fun w9 h9 => ?_)
          obtain ⟨fh_15, rfl, h_16⟩ := h9
          refine r_eq rfl rfl (congrArg (fun z => wset (z) 50 (ia 16 fh_15)) ((ws_comm (Nat.ne_of_beq_eq_false rfl)).trans (congrArg (fun z => wset z 45 (ia 16 fd_13)) ((ws_comm (Nat.ne_of_beq_eq_false rfl)).trans (congrArg (fun z => wset z 46 (ia 4 (q4f t_9 t_10 t_11 t_12))) ws_same))))) ?_
          exact r_return C T_ rfl dX6_makeOwnerKey_56 (⟨rfl, _, _, _, _, _, _, _, by rw [show ownKey rv ln ys = (again 16 0 (md5 (padd ys))).take ln by unfold ownKey; rw [if_neg (fun z => Int32.not_lt.mpr c_34 (gt2.mpr z))]; rfl], by rw [show ownKey rv ln ys = (again 16 0 (md5 (padd ys))).take ln by unfold ownKey; rw [if_neg (fun z => Int32.not_lt.mpr c_34 (gt2.mpr z))]; rfl]; exact h_16⟩)
        · skip
          refine r_bipush C dX6_makeOwnerKey_37 (v := 50) (by decide) ?_
          refine r_goto C 43 dX6_makeOwnerKey_39 (by decide) ?_
          refine r_bipush C dX6_makeOwnerKey_43 (v := 16) (by decide) ?_
          refine r_callVv C (As := [.int 50, .int 16]) (rest := []) dX6_makeOwnerKey_45 (cX6_again9 (ws_ne (Nat.ne_of_beq_eq_false rfl) (ws_ne (Nat.ne_of_beq_eq_false rfl) ws_eq)) (ws_ne (Nat.ne_of_beq_eq_false rfl) (ws_ne (Nat.ne_of_beq_eq_false rfl) (ws_ne (Nat.ne_of_beq_eq_false rfl) ws_eq))) (ws_ne (Nat.ne_of_beq_eq_false rfl) ws_eq) ws_eq (ws_ne (Nat.ne_of_beq_eq_false rfl) (ws_ne (Nat.ne_of_beq_eq_false rfl) (ws_ne (Nat.ne_of_beq_eq_false rfl) (ws_ne (Nat.ne_of_beq_eq_false rfl) w_47)))) hsn (ws_ne (Nat.ne_of_beq_eq_false rfl) (ws_ne (Nat.ne_of_beq_eq_false rfl) (ws_ne (Nat.ne_of_beq_eq_false rfl) (ws_ne (Nat.ne_of_beq_eq_false rfl) w_48)))) htn h_7 (md5_len _) (byt_md5 _) (tt := 50) (mm := 16) (by omega) (by omega)) okX6_again mlRX6_210 imX6_again seX6_again ⟨by decide, by decide⟩ rfl rfl (Nat.le_of_ble_eq_true rfl) (ws_ne (Nat.ne_of_beq_eq_false rfl) (ws_ne (Nat.ne_of_beq_eq_false rfl) ws_eq)) rfl rfl (Nat.le_of_ble_eq_true rfl) (by decide) (by decide) (fun w9 h9 => ?_)
          obtain ⟨fm_17, t_18, t_19, t_20, t_21, fd_22, rfl, h_23⟩ := h9
          refine r_eq rfl rfl ((((congrArg (fun z => wset (wset (wset (z) 35 (mo fa sz rz rv (nI ln) pm lo ns os uz ik (nI (([] : List Nat).length)) hsz)) 46 (ia 4 (q4f t_18 t_19 t_20 t_21))) 45 (ia 16 fd_22)) ((ws_comm (Nat.ne_of_beq_eq_false rfl)).trans (congrArg (fun z => wset z 45 (ia 16 fd_6)) ((ws_comm (Nat.ne_of_beq_eq_false rfl)).trans (congrArg (fun z => wset z 46 (ia 4 (q4f t_2 t_3 t_4 t_5))) ((ws_comm (Nat.ne_of_beq_eq_false rfl)).trans (congrArg (fun z => wset z 35 (mo fa sz rz rv (nI ln) pm lo ns os uz ik (nI (([] : List Nat).length)) hsz)) ws_same))))))).trans (congrArg (fun z => wset (wset (z) 46 (ia 4 (q4f t_18 t_19 t_20 t_21))) 45 (ia 16 fd_22)) ((ws_comm (Nat.ne_of_beq_eq_false rfl)).trans (congrArg (fun z => wset z 45 (ia 16 fd_6)) ((ws_comm (Nat.ne_of_beq_eq_false rfl)).trans (congrArg (fun z => wset z 46 (ia 4 (q4f t_2 t_3 t_4 t_5))) ws_same)))))).trans (congrArg (fun z => wset (z) 45 (ia 16 fd_22)) ((ws_comm (Nat.ne_of_beq_eq_false rfl)).trans (congrArg (fun z => wset z 45 (ia 16 fd_6)) ws_same)))).trans ws_same) ?_
          refine r_aload_n C dX6_makeOwnerKey_48 rfl ?_
          refine r_aload_n C dX6_makeOwnerKey_49 rfl ?_
          refine r_get C dX6_makeOwnerKey_50 fgRX6_20 (Nat.le_of_ble_eq_true rfl) (ws_ne (Nat.ne_of_beq_eq_false rfl) (ws_ne (Nat.ne_of_beq_eq_false rfl) ws_eq)) rfl ?_
          refine r_callVv C (As := [.int (nI ln)]) (rest := []) dX6_makeOwnerKey_53 (cX6_takeHand9 (ws_ne (Nat.ne_of_beq_eq_false rfl) (ws_ne (Nat.ne_of_beq_eq_false rfl) ws_eq)) ws_eq h_23 (ws_ne (Nat.ne_of_beq_eq_false rfl) (ws_ne (Nat.ne_of_beq_eq_false rfl) (ws_ne (Nat.ne_of_beq_eq_false rfl) (ws_ne (Nat.ne_of_beq_eq_false rfl) w_50)))) (mm := ln) (by omega) (by rw [again_len (md5_len _)]; omega)) okX6_takeHand mlRX6_214 imX6_takeHand seX6_takeHand ⟨by decide, by decide⟩ rfl rfl (Nat.le_of_ble_eq_true rfl) (ws_ne (Nat.ne_of_beq_eq_false rfl) (ws_ne (Nat.ne_of_beq_eq_false rfl) ws_eq)) rfl rfl (Nat.le_of_ble_eq_true rfl) (by decide) (by decide) (fun w9 h9 => ?_)
          obtain ⟨fh_24, rfl, h_25⟩ := h9
          refine r_eq rfl rfl (congrArg (fun z => wset (z) 50 (ia 16 fh_24)) ((ws_comm (Nat.ne_of_beq_eq_false rfl)).trans (congrArg (fun z => wset z 45 (ia 16 fd_22)) ((ws_comm (Nat.ne_of_beq_eq_false rfl)).trans (congrArg (fun z => wset z 46 (ia 4 (q4f t_18 t_19 t_20 t_21))) ws_same))))) ?_
          exact r_return C T_ rfl dX6_makeOwnerKey_56 (⟨rfl, _, _, _, _, _, _, _, by rw [show ownKey rv ln ys = (again 16 50 (md5 (padd ys))).take ln by unfold ownKey; rw [if_pos (gt2.mp (Int32.not_le.mp c_34))]], by rw [show ownKey rv ln ys = (again 16 50 (md5 (padd ys))).take ln by unfold ownKey; rw [if_pos (gt2.mp (Int32.not_le.mp c_34))]]; exact h_25⟩)
      · skip
        have c_5 : ¬ (32 ≤ ka) := fun h9 => c_5 ((nI_leI (a := 32) (b := ka) (by omega) (by omega)).mpr h9)
        refine r_aload_n C dX6_makeOwnerKey_8 rfl ?_
        refine r_aload_n C dX6_makeOwnerKey_9 rfl ?_
        refine r_get C dX6_makeOwnerKey_10 fgRX6_135 (Nat.le_of_ble_eq_true rfl) ws_eq rfl ?_
        refine r_iload_n C dX6_makeOwnerKey_13 rfl ?_
        refine r_ialdN C dX6_makeOwnerKey_14 (Nat.le_of_ble_eq_true rfl) (ws_ne (Nat.ne_of_beq_eq_false rfl) (ws_ne (Nat.ne_of_beq_eq_false rfl) w_53)) (j := ka) rfl (by omega) (by decide) ?_
        refine r_top (y := nI ((padd ys).getD ka 0)) (h_ys _ (by rw [padd_len]; omega)) ?_
        refine r_callVv C (As := [.int (nI ((padd ys).getD ka 0))]) (rest := []) dX6_makeOwnerKey_15 (cX6_say9 ws_eq (ws_ne (Nat.ne_of_beq_eq_false rfl) ws_eq) hfma (x := nI ((padd ys).getD ka 0)) (y := (padd ys).getD ka 0) rfl (by omega)) okX6_say mlRX6_174 imX6_say seX6_say ⟨by decide, by decide⟩ rfl rfl (Nat.le_of_ble_eq_true rfl) ws_eq rfl rfl (Nat.le_of_ble_eq_true rfl) (by decide) (by decide) (fun w9 h9 => ?_)
        obtain ⟨fm_26, rfl, h_27⟩ := h9
        refine r_eq rfl rfl ((congrArg (fun z => wset (z) 35 (mo fa sz rz rv (nI ln) pm lo ns os uz ik (nI ((za ++ [(padd ys).getD ka 0]).length)) hsz)) ((ws_comm (Nat.ne_of_beq_eq_false rfl)).trans (congrArg (fun z => wset z 35 (mo fa sz rz rv (nI ln) pm lo ns os uz ik (nI za.length) hsz)) ws_same))).trans ws_same) ?_
        refine r_iinc C dX6_makeOwnerKey_18 (v := nI (ka + 1)) (L' := [some (.ref 35), some (.int (nI (ka + 1)))]) rfl (nI_add ka 1) (by decide) rfl ?_
        refine r_goto C 2 dX6_makeOwnerKey_21 (by decide) ?_
        exact ih_2 (ka + 1) _ _ (by omega) (by omega) (by rw [hza, take_push (by rw [padd_len]; omega)]) h_27
  refine r_eq rfl rfl (ws_self w_44).symm ?_
  refine r_eq rfl rfl (ws_self (ws_ne (Nat.ne_of_beq_eq_false rfl) w_35)).symm ?_
  exact loop_2 _ 0 _ _ (Nat.lt_succ_self _) (Nat.zero_le _) (by simp) (hs_nil fm)
set_option maxHeartbeats 4000000 in
set_option maxRecDepth 100000 in
theorem cX6_makeKey9 {w : Wo} {ln : Nat} (hln : 5 ≤ ln ∧ ln ≤ 16) {fo : Nat → Int32} {ow : List Nat} (w_38 : w 38 = ia 32 fo) (h_ow : hs fo ow) (k_ow : ow.length ≤ 32) (how : ow.length = 32) {fn : Nat → Int32} {nb : List Nat} (w_40 : w 40 = ia 64 fn) (h_nb : hs fn nb) (k_nb : nb.length ≤ 64) {fa sz rz rv pm lo os uz ik hsz : Int32} (w_35 : w 35 = mo fa sz rz rv (nI ln) pm lo (nI nb.length) os uz ik (nI (([] : List Nat).length)) hsz) {fp : Nat → Int32} {ys : List Nat} (w_53 : w 53 = ia 32 fp) (h_ys : hs fp (padd ys)) {fm : Nat → Int32} (w_44 : w 44 = ia 16512 fm) {vA vB vC vD : Int32} (w_46 : w 46 = ia 4 (q4f vA vB vC vD)) {fd : Nat → Int32} (w_45 : w 45 = ia 16 fd) {fsn : Nat → Int32} (w_47 : w 47 = ia 64 fsn) (hsn : ∀ k, k < 64 → fsn k = tabf sinL k) {ftn : Nat → Int32} (w_48 : w 48 = ia 16 ftn) (htn : ∀ k, k < 16 → ftn k = tabf turL k) {fh : Nat → Int32} (w_50 : w 50 = ia 16 fh) : Ctr mX6_makeKey [.ref 35] w (PV fun w' => ∃ fm' tA tB tC tD fd' fh', w' = wset (wset (wset (wset (wset (w) 44 (ia 16512 fm')) 35 (mo fa sz rz rv (nI ln) pm lo (nI nb.length) os uz ik (nI (([] : List Nat).length)) (nI ((keyOf rv ln pm lo ow nb ys).length)))) 46 (ia 4 (q4f tA tB tC tD))) 45 (ia 16 fd')) 50 (ia 16 fh') ∧ hs fh' (keyOf rv ln pm lo ow nb ys)) := by
  refine Ctr_intro okX6_makeKey rfl (Nat.le_of_ble_eq_true rfl) (L := [some (.ref 35), none]) rfl (fun g ct C T_ => ?_)
  refine r_iconst C dX6_makeKey_0 (v := 0) (by decide) ?_
  refine r_istore_n C dX6_makeKey_1 (L' := [some (.ref 35), some (.int 0)]) (by decide) rfl ?_
  have loop_2 : ∀ (d9 : Nat) (ka : Nat) (za : List Nat) (fma : Nat → Int32), 32 - ka < d9 → ka ≤ 32 → za = (padd ys).take ka → hs fma za → Az g mX6_makeKey ct 0 0 2 [some (.ref 35), some (.int (nI ka))] [] (wset (wset w 44 (ia 16512 fma)) 35 (mo fa sz rz rv (nI ln) pm lo (nI nb.length) os uz ik (nI za.length) hsz)) := by
    intro d9
    induction d9 with
    | zero => intro ka za fma hd9; exact absurd hd9 (Nat.not_lt_zero _)
    | succ d9 ih_2 =>
      intro ka za fma hd9 hka hza hfma
      have hla : za.length = ka := by rw [hza]; simp only [List.length_append, List.length_take, padd_len, lof_len, List.length_replicate]; omega
      refine r_iload_n C dX6_makeKey_2 rfl ?_
      refine r_bipush C dX6_makeKey_3 (v := 32) (by decide) ?_
      refine r_icmp_ge C 24 dX6_makeKey_5 (by decide) (fun c_5 => ?_) (fun c_5 => ?_)
      · skip
        have c_5 : 32 ≤ ka := (nI_leI (a := 32) (b := ka) (by omega) (by omega)).mp c_5
        have e9ka : za = padd ys := by rw [hza, show ka = 32 by omega]; rw [take_all (by rw [padd_len]; omega)]
        subst e9ka
        refine r_iconst C dX6_makeKey_24 (v := 0) (by decide) ?_
        refine r_istore_n C dX6_makeKey_25 (L' := [some (.ref 35), some (.int 0)]) (by decide) rfl ?_
        have loop_26 : ∀ (d9 : Nat) (kb : Nat) (zb : List Nat) (fmb : Nat → Int32), 32 - kb < d9 → kb ≤ 32 → zb = (padd ys) ++ (ow.take kb) → hs fmb zb → Az g mX6_makeKey ct 0 0 26 [some (.ref 35), some (.int (nI kb))] [] (wset (wset w 44 (ia 16512 fmb)) 35 (mo fa sz rz rv (nI ln) pm lo (nI nb.length) os uz ik (nI zb.length) hsz)) := by
          intro d9
          induction d9 with
          | zero => intro kb zb fmb hd9; exact absurd hd9 (Nat.not_lt_zero _)
          | succ d9 ih_26 =>
            intro kb zb fmb hd9 hkb hzb hfmb
            have hlb : zb.length = 32 + kb := by rw [hzb]; simp only [List.length_append, List.length_take, padd_len, lof_len, List.length_replicate]; omega
            refine r_iload_n C dX6_makeKey_26 rfl ?_
            refine r_bipush C dX6_makeKey_27 (v := 32) (by decide) ?_
            refine r_icmp_ge C 48 dX6_makeKey_29 (by decide) (fun c_29 => ?_) (fun c_29 => ?_)
            · skip
              have c_29 : 32 ≤ kb := (nI_leI (a := 32) (b := kb) (by omega) (by omega)).mp c_29
              have e9kb : zb = padd ys ++ ow := by rw [hzb, show kb = 32 by omega]; rw [take_all (by omega)]
              subst e9kb
              refine r_iconst C dX6_makeKey_48 (v := 0) (by decide) ?_
              refine r_istore_n C dX6_makeKey_49 (L' := [some (.ref 35), some (.int 0)]) (by decide) rfl ?_
              have loop_50 : ∀ (d9 : Nat) (kc : Nat) (zc : List Nat) (fmc : Nat → Int32), 4 - kc < d9 → kc ≤ 4 → zc = (padd ys ++ ow) ++ (lof pm kc) → hs fmc zc → Az g mX6_makeKey ct 0 0 50 [some (.ref 35), some (.int (nI kc))] [] (wset (wset w 44 (ia 16512 fmc)) 35 (mo fa sz rz rv (nI ln) pm lo (nI nb.length) os uz ik (nI zc.length) hsz)) := by
                intro d9
                induction d9 with
                | zero => intro kc zc fmc hd9; exact absurd hd9 (Nat.not_lt_zero _)
                | succ d9 ih_50 =>
                  intro kc zc fmc hd9 hkc hzc hfmc
                  have hlc : zc.length = 64 + kc := by rw [hzc]; simp only [List.length_append, List.length_take, padd_len, lof_len, List.length_replicate]; omega
                  refine r_iload_n C dX6_makeKey_50 rfl ?_
                  refine r_iconst C dX6_makeKey_51 (v := 4) (by decide) ?_
                  refine r_icmp_ge C 78 dX6_makeKey_52 (by decide) (fun c_52 => ?_) (fun c_52 => ?_)
                  · skip
                    have c_52 : 4 ≤ kc := (nI_leI (a := 4) (b := kc) (by omega) (by omega)).mp c_52
                    have e9kc : zc = (padd ys ++ ow) ++ lof pm 4 := by rw [hzc, show kc = 4 by omega]
                    subst e9kc
                    refine r_iconst C dX6_makeKey_78 (v := 0) (by decide) ?_
                    refine r_istore_n C dX6_makeKey_79 (L' := [some (.ref 35), some (.int 0)]) (by decide) rfl ?_
                    have loop_80 : ∀ (d9 : Nat) (kd : Nat) (zd : List Nat) (fmd : Nat → Int32), nb.length - kd < d9 → kd ≤ nb.length → zd = ((padd ys ++ ow) ++ lof pm 4) ++ (nb.take kd) → hs fmd zd → Az g mX6_makeKey ct 0 0 80 [some (.ref 35), some (.int (nI kd))] [] (wset (wset w 44 (ia 16512 fmd)) 35 (mo fa sz rz rv (nI ln) pm lo (nI nb.length) os uz ik (nI zd.length) hsz)) := by
                      intro d9
                      induction d9 with
                      | zero => intro kd zd fmd hd9; exact absurd hd9 (Nat.not_lt_zero _)
                      | succ d9 ih_80 =>
                        intro kd zd fmd hd9 hkd hzd hfmd
                        have hld : zd.length = 68 + kd := by rw [hzd]; simp only [List.length_append, List.length_take, padd_len, lof_len, List.length_replicate]; omega
                        refine r_iload_n C dX6_makeKey_80 rfl ?_
                        refine r_aload_n C dX6_makeKey_81 rfl ?_
                        refine r_get C dX6_makeKey_82 fgRX6_203 (Nat.le_of_ble_eq_true rfl) ws_eq rfl ?_
                        refine r_icmp_ge C 104 dX6_makeKey_85 (by decide) (fun c_85 => ?_) (fun c_85 => ?_)
                        · skip
                          have c_85 : nb.length ≤ kd := (nI_leI (a := nb.length) (b := kd) (by omega) (by omega)).mp c_85
                          have e9kd : zd = ((padd ys ++ ow) ++ lof pm 4) ++ nb := by rw [hzd, show kd = nb.length by omega]; rw [take_all (Nat.le_refl _)]
                          subst e9kd
                          refine r_iconst C dX6_makeKey_104 (v := 0) (by decide) ?_
                          refine r_istore_n C dX6_makeKey_105 (L' := [some (.ref 35), some (.int 0)]) (by decide) rfl ?_
                          have loop_106 : ∀ (d9 : Nat) (ke : Nat) (ze : List Nat) (fme : Nat → Int32), 4 - ke < d9 → ke ≤ 4 → ze = (((padd ys ++ ow) ++ lof pm 4) ++ nb) ++ (List.replicate ke 255) → hs fme ze → (ke = 0 ∨ (rv = 4 ∧ ¬ lo = 0)) → Az g mX6_makeKey ct 0 0 106 [some (.ref 35), some (.int (nI ke))] [] (wset (wset w 44 (ia 16512 fme)) 35 (mo fa sz rz rv (nI ln) pm lo (nI nb.length) os uz ik (nI ze.length) hsz)) := by
                            intro d9
                            induction d9 with
                            | zero => intro ke ze fme hd9; exact absurd hd9 (Nat.not_lt_zero _)
                            | succ d9 ih_106 =>
                              intro ke ze fme hd9 hke hze hfme hcond
                              have hle : ze.length = 68 + nb.length + ke := by rw [hze]; simp only [List.length_append, List.length_take, padd_len, lof_len, List.length_replicate]; omega
                              refine r_iload_n C dX6_makeKey_106 rfl ?_
                              refine r_iconst C dX6_makeKey_107 (v := 4) (by decide) ?_
                              refine r_icmp_ge C 139 dX6_makeKey_108 (by decide) (fun c_108 => ?_) (fun c_108 => ?_)
                              · skip
                                have c_108 : 4 ≤ ke := (nI_leI (a := 4) (b := ke) (by omega) (by omega)).mp c_108
                                have e9k : ze = keyMsg rv pm lo ow nb ys := by rw [hze, show ke = 4 by omega, keyMsg_yes (hcond.resolve_left (by omega))]
                                subst e9k
                                have hml := keyMsg_le rv pm lo ys how k_nb
                                refine r_aload_n C dX6_makeKey_139 rfl ?_
                                refine r_callVv C (As := []) (rest := []) dX6_makeKey_140 (cX6_finish9 ws_eq (ws_ne (Nat.ne_of_beq_eq_false rfl) ws_eq) hfme (by omega) (ws_ne (Nat.ne_of_beq_eq_false rfl) (ws_ne (Nat.ne_of_beq_eq_false rfl) w_46)) (ws_ne (Nat.ne_of_beq_eq_false rfl) (ws_ne (Nat.ne_of_beq_eq_false rfl) w_45)) (ws_ne (Nat.ne_of_beq_eq_false rfl) (ws_ne (Nat.ne_of_beq_eq_false rfl) w_47)) hsn (ws_ne (Nat.ne_of_beq_eq_false rfl) (ws_ne (Nat.ne_of_beq_eq_false rfl) w_48)) htn) okX6_finish mlRX6_185 imX6_finish seX6_finish ⟨by decide, by decide⟩ rfl rfl (Nat.le_of_ble_eq_true rfl) ws_eq rfl rfl (Nat.le_of_ble_eq_true rfl) (by decide) (by decide) (fun w9 h9 => ?_)
                                obtain ⟨fm_1, t_2, t_3, t_4, t_5, fd_6, rfl, h_7⟩ := h9
                                refine r_eq rfl rfl ((congrArg (fun z => wset (wset (wset (z) 35 (mo fa sz rz rv (nI ln) pm lo (nI nb.length) os uz ik (nI (([] : List Nat).length)) hsz)) 46 (ia 4 (q4f t_2 t_3 t_4 t_5))) 45 (ia 16 fd_6)) ((ws_comm (Nat.ne_of_beq_eq_false rfl)).trans (congrArg (fun z => wset z 35 (mo fa sz rz rv (nI ln) pm lo (nI nb.length) os uz ik (nI ((keyMsg rv pm lo ow nb ys).length)) hsz)) ws_same))).trans (congrArg (fun z => wset (wset (z) 46 (ia 4 (q4f t_2 t_3 t_4 t_5))) 45 (ia 16 fd_6)) ws_same)) ?_
                                refine r_aload_n C dX6_makeKey_143 rfl ?_
                                refine r_aload_n C dX6_makeKey_144 rfl ?_
                                refine r_get C dX6_makeKey_145 fgRX6_16 (Nat.le_of_ble_eq_true rfl) (ws_ne (Nat.ne_of_beq_eq_false rfl) (ws_ne (Nat.ne_of_beq_eq_false rfl) ws_eq)) rfl ?_
                                refine r_iconst C dX6_makeKey_148 (v := 2) (by decide) ?_
                                refine r_icmp_le C 157 dX6_makeKey_149 (by decide) (fun c_149 => ?_) (fun c_149 => ?_)
                                · skip
                                  refine r_iconst C dX6_makeKey_157 (v := 0) (by decide) ?_
                                  refine r_aload_n C dX6_makeKey_158 rfl ?_
                                  refine r_get C dX6_makeKey_159 fgRX6_20 (Nat.le_of_ble_eq_true rfl) (ws_ne (Nat.ne_of_beq_eq_false rfl) (ws_ne (Nat.ne_of_beq_eq_false rfl) ws_eq)) rfl ?_
                                  refine r_callVv C (As := [.int 0, .int (nI ln)]) (rest := []) dX6_makeKey_162 (cX6_again9 (ws_ne (Nat.ne_of_beq_eq_false rfl) (ws_ne (Nat.ne_of_beq_eq_false rfl) ws_eq)) (ws_ne (Nat.ne_of_beq_eq_false rfl) (ws_ne (Nat.ne_of_beq_eq_false rfl) (ws_ne (Nat.ne_of_beq_eq_false rfl) ws_eq))) (ws_ne (Nat.ne_of_beq_eq_false rfl) ws_eq) ws_eq (ws_ne (Nat.ne_of_beq_eq_false rfl) (ws_ne (Nat.ne_of_beq_eq_false rfl) (ws_ne (Nat.ne_of_beq_eq_false rfl) (ws_ne (Nat.ne_of_beq_eq_false rfl) w_47)))) hsn (ws_ne (Nat.ne_of_beq_eq_false rfl) (ws_ne (Nat.ne_of_beq_eq_false rfl) (ws_ne (Nat.ne_of_beq_eq_false rfl) (ws_ne (Nat.ne_of_beq_eq_false rfl) w_48)))) htn h_7 (md5_len _) (byt_md5 _) (tt := 0) (mm := ln) (by omega) (by omega)) okX6_again mlRX6_210 imX6_again seX6_again ⟨by decide, by decide⟩ rfl rfl (Nat.le_of_ble_eq_true rfl) (ws_ne (Nat.ne_of_beq_eq_false rfl) (ws_ne (Nat.ne_of_beq_eq_false rfl) ws_eq)) rfl rfl (Nat.le_of_ble_eq_true rfl) (by decide) (by decide) (fun w9 h9 => ?_)
                                  obtain ⟨fm_8, t_9, t_10, t_11, t_12, fd_13, rfl, h_14⟩ := h9
                                  refine r_eq rfl rfl ((((congrArg (fun z => wset (wset (wset (z) 35 (mo fa sz rz rv (nI ln) pm lo (nI nb.length) os uz ik (nI (([] : List Nat).length)) hsz)) 46 (ia 4 (q4f t_9 t_10 t_11 t_12))) 45 (ia 16 fd_13)) ((ws_comm (Nat.ne_of_beq_eq_false rfl)).trans (congrArg (fun z => wset z 45 (ia 16 fd_6)) ((ws_comm (Nat.ne_of_beq_eq_false rfl)).trans (congrArg (fun z => wset z 46 (ia 4 (q4f t_2 t_3 t_4 t_5))) ((ws_comm (Nat.ne_of_beq_eq_false rfl)).trans (congrArg (fun z => wset z 35 (mo fa sz rz rv (nI ln) pm lo (nI nb.length) os uz ik (nI (([] : List Nat).length)) hsz)) ws_same))))))).trans (congrArg (fun z => wset (wset (z) 46 (ia 4 (q4f t_9 t_10 t_11 t_12))) 45 (ia 16 fd_13)) ((ws_comm (Nat.ne_of_beq_eq_false rfl)).trans (congrArg (fun z => wset z 45 (ia 16 fd_6)) ((ws_comm (Nat.ne_of_beq_eq_false rfl)).trans (congrArg (fun z => wset z 46 (ia 4 (q4f t_2 t_3 t_4 t_5))) ws_same)))))).trans (congrArg (fun z => wset (z) 45 (ia 16 fd_13)) ((ws_comm (Nat.ne_of_beq_eq_false rfl)).trans (congrArg (fun z => wset z 45 (ia 16 fd_6)) ws_same)))).trans ws_same) ?_
                                  refine r_aload_n C dX6_makeKey_165 rfl ?_
                                  refine r_aload_n C dX6_makeKey_166 rfl ?_
                                  refine r_get C dX6_makeKey_167 fgRX6_20 (Nat.le_of_ble_eq_true rfl) (ws_ne (Nat.ne_of_beq_eq_false rfl) (ws_ne (Nat.ne_of_beq_eq_false rfl) ws_eq)) rfl ?_
                                  refine r_callVv C (As := [.int (nI ln)]) (rest := []) dX6_makeKey_170 (cX6_takeHand9 (ws_ne (Nat.ne_of_beq_eq_false rfl) (ws_ne (Nat.ne_of_beq_eq_false rfl) ws_eq)) ws_eq h_14 (ws_ne (Nat.ne_of_beq_eq_false rfl) (ws_ne (Nat.ne_of_beq_eq_false rfl) (ws_ne (Nat.ne_of_beq_eq_false rfl) (ws_ne (Nat.ne_of_beq_eq_false rfl) w_50)))) (mm := ln) (by omega) (by rw [again_len (md5_len _)]; omega)) okX6_takeHand mlRX6_214 imX6_takeHand seX6_takeHand ⟨by decide, by decide⟩ rfl rfl (Nat.le_of_ble_eq_true rfl) (ws_ne (Nat.ne_of_beq_eq_false rfl) (ws_ne (Nat.ne_of_beq_eq_false rfl) ws_eq)) rfl rfl (Nat.le_of_ble_eq_true rfl) (by decide) (by decide) (fun w9 h9 => ?_)
                                  obtain ⟨fh_15, rfl, h_16⟩ := h9
                                  refine r_eq rfl rfl (congrArg (fun z => wset (z) 50 (ia 16 fh_15)) ((ws_comm (Nat.ne_of_beq_eq_false rfl)).trans (congrArg (fun z => wset z 45 (ia 16 fd_13)) ((ws_comm (Nat.ne_of_beq_eq_false rfl)).trans (congrArg (fun z => wset z 46 (ia 4 (q4f t_9 t_10 t_11 t_12))) ws_same))))) ?_
                                  exact r_return C T_ rfl dX6_makeKey_173 (⟨rfl, _, _, _, _, _, _, _, by rw [show keyOf rv ln pm lo ow nb ys = (again ln 0 (md5 (keyMsg rv pm lo ow nb ys))).take ln by unfold keyOf; rw [if_neg (fun z => Int32.not_lt.mpr c_149 (gt2.mpr z))]; rfl], by rw [show keyOf rv ln pm lo ow nb ys = (again ln 0 (md5 (keyMsg rv pm lo ow nb ys))).take ln by unfold keyOf; rw [if_neg (fun z => Int32.not_lt.mpr c_149 (gt2.mpr z))]; rfl]; exact h_16⟩)
                                · skip
                                  refine r_bipush C dX6_makeKey_152 (v := 50) (by decide) ?_
                                  refine r_goto C 158 dX6_makeKey_154 (by decide) ?_
                                  refine r_aload_n C dX6_makeKey_158 rfl ?_
                                  refine r_get C dX6_makeKey_159 fgRX6_20 (Nat.le_of_ble_eq_true rfl) (ws_ne (Nat.ne_of_beq_eq_false rfl) (ws_ne (Nat.ne_of_beq_eq_false rfl) ws_eq)) rfl ?_
                                  refine r_callVv C (As := [.int 50, .int (nI ln)]) (rest := []) dX6_makeKey_162 (cX6_again9 (ws_ne (Nat.ne_of_beq_eq_false rfl) (ws_ne (Nat.ne_of_beq_eq_false rfl) ws_eq)) (ws_ne (Nat.ne_of_beq_eq_false rfl) (ws_ne (Nat.ne_of_beq_eq_false rfl) (ws_ne (Nat.ne_of_beq_eq_false rfl) ws_eq))) (ws_ne (Nat.ne_of_beq_eq_false rfl) ws_eq) ws_eq (ws_ne (Nat.ne_of_beq_eq_false rfl) (ws_ne (Nat.ne_of_beq_eq_false rfl) (ws_ne (Nat.ne_of_beq_eq_false rfl) (ws_ne (Nat.ne_of_beq_eq_false rfl) w_47)))) hsn (ws_ne (Nat.ne_of_beq_eq_false rfl) (ws_ne (Nat.ne_of_beq_eq_false rfl) (ws_ne (Nat.ne_of_beq_eq_false rfl) (ws_ne (Nat.ne_of_beq_eq_false rfl) w_48)))) htn h_7 (md5_len _) (byt_md5 _) (tt := 50) (mm := ln) (by omega) (by omega)) okX6_again mlRX6_210 imX6_again seX6_again ⟨by decide, by decide⟩ rfl rfl (Nat.le_of_ble_eq_true rfl) (ws_ne (Nat.ne_of_beq_eq_false rfl) (ws_ne (Nat.ne_of_beq_eq_false rfl) ws_eq)) rfl rfl (Nat.le_of_ble_eq_true rfl) (by decide) (by decide) (fun w9 h9 => ?_)
                                  obtain ⟨fm_17, t_18, t_19, t_20, t_21, fd_22, rfl, h_23⟩ := h9
                                  refine r_eq rfl rfl ((((congrArg (fun z => wset (wset (wset (z) 35 (mo fa sz rz rv (nI ln) pm lo (nI nb.length) os uz ik (nI (([] : List Nat).length)) hsz)) 46 (ia 4 (q4f t_18 t_19 t_20 t_21))) 45 (ia 16 fd_22)) ((ws_comm (Nat.ne_of_beq_eq_false rfl)).trans (congrArg (fun z => wset z 45 (ia 16 fd_6)) ((ws_comm (Nat.ne_of_beq_eq_false rfl)).trans (congrArg (fun z => wset z 46 (ia 4 (q4f t_2 t_3 t_4 t_5))) ((ws_comm (Nat.ne_of_beq_eq_false rfl)).trans (congrArg (fun z => wset z 35 (mo fa sz rz rv (nI ln) pm lo (nI nb.length) os uz ik (nI (([] : List Nat).length)) hsz)) ws_same))))))).trans (congrArg (fun z => wset (wset (z) 46 (ia 4 (q4f t_18 t_19 t_20 t_21))) 45 (ia 16 fd_22)) ((ws_comm (Nat.ne_of_beq_eq_false rfl)).trans (congrArg (fun z => wset z 45 (ia 16 fd_6)) ((ws_comm (Nat.ne_of_beq_eq_false rfl)).trans (congrArg (fun z => wset z 46 (ia 4 (q4f t_2 t_3 t_4 t_5))) ws_same)))))).trans (congrArg (fun z => wset (z) 45 (ia 16 fd_22)) ((ws_comm (Nat.ne_of_beq_eq_false rfl)).trans (congrArg (fun z => wset z 45 (ia 16 fd_6)) ws_same)))).trans ws_same) ?_
                                  refine r_aload_n C dX6_makeKey_165 rfl ?_
                                  refine r_aload_n C dX6_makeKey_166 rfl ?_
                                  refine r_get C dX6_makeKey_167 fgRX6_20 (Nat.le_of_ble_eq_true rfl) (ws_ne (Nat.ne_of_beq_eq_false rfl) (ws_ne (Nat.ne_of_beq_eq_false rfl) ws_eq)) rfl ?_
                                  refine r_callVv C (As := [.int (nI ln)]) (rest := []) dX6_makeKey_170 (cX6_takeHand9 (ws_ne (Nat.ne_of_beq_eq_false rfl) (ws_ne (Nat.ne_of_beq_eq_false rfl) ws_eq)) ws_eq h_23 (ws_ne (Nat.ne_of_beq_eq_false rfl) (ws_ne (Nat.ne_of_beq_eq_false rfl) (ws_ne (Nat.ne_of_beq_eq_false rfl) (ws_ne (Nat.ne_of_beq_eq_false rfl) w_50)))) (mm := ln) (by omega) (by rw [again_len (md5_len _)]; omega)) okX6_takeHand mlRX6_214 imX6_takeHand seX6_takeHand ⟨by decide, by decide⟩ rfl rfl (Nat.le_of_ble_eq_true rfl) (ws_ne (Nat.ne_of_beq_eq_false rfl) (ws_ne (Nat.ne_of_beq_eq_false rfl) ws_eq)) rfl rfl (Nat.le_of_ble_eq_true rfl) (by decide) (by decide) (fun w9 h9 => ?_)
                                  obtain ⟨fh_24, rfl, h_25⟩ := h9
                                  refine r_eq rfl rfl (congrArg (fun z => wset (z) 50 (ia 16 fh_24)) ((ws_comm (Nat.ne_of_beq_eq_false rfl)).trans (congrArg (fun z => wset z 45 (ia 16 fd_22)) ((ws_comm (Nat.ne_of_beq_eq_false rfl)).trans (congrArg (fun z => wset z 46 (ia 4 (q4f t_18 t_19 t_20 t_21))) ws_same))))) ?_
                                  exact r_return C T_ rfl dX6_makeKey_173 (⟨rfl, _, _, _, _, _, _, _, by rw [show keyOf rv ln pm lo ow nb ys = (again ln 50 (md5 (keyMsg rv pm lo ow nb ys))).take ln by unfold keyOf; rw [if_pos (gt2.mp (Int32.not_le.mp c_149))]], by rw [show keyOf rv ln pm lo ow nb ys = (again ln 50 (md5 (keyMsg rv pm lo ow nb ys))).take ln by unfold keyOf; rw [if_pos (gt2.mp (Int32.not_le.mp c_149))]]; exact h_25⟩)
                              · skip
                                have c_108 : ¬ (4 ≤ ke) := fun h9 => c_108 ((nI_leI (a := 4) (b := ke) (by omega) (by omega)).mpr h9)
                                refine r_aload_n C dX6_makeKey_111 rfl ?_
                                refine r_get C dX6_makeKey_112 fgRX6_16 (Nat.le_of_ble_eq_true rfl) ws_eq rfl ?_
                                refine r_iconst C dX6_makeKey_115 (v := 4) (by decide) ?_
                                refine r_icmp_ne C 139 dX6_makeKey_116 (by decide) (fun c_116 => ?_) (fun c_116 => ?_)
                                · skip
                                  have e9k : ze = keyMsg rv pm lo ow nb ys := by rw [hze, hcond.resolve_right (fun z => c_116 z.1), keyMsg_no (fun z => c_116 z.1)]; simp
                                  subst e9k
                                  have hml := keyMsg_le rv pm lo ys how k_nb
                                  refine r_aload_n C dX6_makeKey_139 rfl ?_
                                  refine r_callVv C (As := []) (rest := []) dX6_makeKey_140 (cX6_finish9 ws_eq (ws_ne (Nat.ne_of_beq_eq_false rfl) ws_eq) hfme (by omega) (ws_ne (Nat.ne_of_beq_eq_false rfl) (ws_ne (Nat.ne_of_beq_eq_false rfl) w_46)) (ws_ne (Nat.ne_of_beq_eq_false rfl) (ws_ne (Nat.ne_of_beq_eq_false rfl) w_45)) (ws_ne (Nat.ne_of_beq_eq_false rfl) (ws_ne (Nat.ne_of_beq_eq_false rfl) w_47)) hsn (ws_ne (Nat.ne_of_beq_eq_false rfl) (ws_ne (Nat.ne_of_beq_eq_false rfl) w_48)) htn) okX6_finish mlRX6_185 imX6_finish seX6_finish ⟨by decide, by decide⟩ rfl rfl (Nat.le_of_ble_eq_true rfl) ws_eq rfl rfl (Nat.le_of_ble_eq_true rfl) (by decide) (by decide) (fun w9 h9 => ?_)
                                  obtain ⟨fm_26, t_27, t_28, t_29, t_30, fd_31, rfl, h_32⟩ := h9
                                  refine r_eq rfl rfl ((congrArg (fun z => wset (wset (wset (z) 35 (mo fa sz rz rv (nI ln) pm lo (nI nb.length) os uz ik (nI (([] : List Nat).length)) hsz)) 46 (ia 4 (q4f t_27 t_28 t_29 t_30))) 45 (ia 16 fd_31)) ((ws_comm (Nat.ne_of_beq_eq_false rfl)).trans (congrArg (fun z => wset z 35 (mo fa sz rz rv (nI ln) pm lo (nI nb.length) os uz ik (nI ((keyMsg rv pm lo ow nb ys).length)) hsz)) ws_same))).trans (congrArg (fun z => wset (wset (z) 46 (ia 4 (q4f t_27 t_28 t_29 t_30))) 45 (ia 16 fd_31)) ws_same)) ?_
                                  refine r_aload_n C dX6_makeKey_143 rfl ?_
                                  refine r_aload_n C dX6_makeKey_144 rfl ?_
                                  refine r_get C dX6_makeKey_145 fgRX6_16 (Nat.le_of_ble_eq_true rfl) (ws_ne (Nat.ne_of_beq_eq_false rfl) (ws_ne (Nat.ne_of_beq_eq_false rfl) ws_eq)) rfl ?_
                                  refine r_iconst C dX6_makeKey_148 (v := 2) (by decide) ?_
                                  refine r_icmp_le C 157 dX6_makeKey_149 (by decide) (fun c_149 => ?_) (fun c_149 => ?_)
                                  · skip
                                    refine r_iconst C dX6_makeKey_157 (v := 0) (by decide) ?_
                                    refine r_aload_n C dX6_makeKey_158 rfl ?_
                                    refine r_get C dX6_makeKey_159 fgRX6_20 (Nat.le_of_ble_eq_true rfl) (ws_ne (Nat.ne_of_beq_eq_false rfl) (ws_ne (Nat.ne_of_beq_eq_false rfl) ws_eq)) rfl ?_
                                    refine r_callVv C (As := [.int 0, .int (nI ln)]) (rest := []) dX6_makeKey_162 (cX6_again9 (ws_ne (Nat.ne_of_beq_eq_false rfl) (ws_ne (Nat.ne_of_beq_eq_false rfl) ws_eq)) (ws_ne (Nat.ne_of_beq_eq_false rfl) (ws_ne (Nat.ne_of_beq_eq_false rfl) (ws_ne (Nat.ne_of_beq_eq_false rfl) ws_eq))) (ws_ne (Nat.ne_of_beq_eq_false rfl) ws_eq) ws_eq (ws_ne (Nat.ne_of_beq_eq_false rfl) (ws_ne (Nat.ne_of_beq_eq_false rfl) (ws_ne (Nat.ne_of_beq_eq_false rfl) (ws_ne (Nat.ne_of_beq_eq_false rfl) w_47)))) hsn (ws_ne (Nat.ne_of_beq_eq_false rfl) (ws_ne (Nat.ne_of_beq_eq_false rfl) (ws_ne (Nat.ne_of_beq_eq_false rfl) (ws_ne (Nat.ne_of_beq_eq_false rfl) w_48)))) htn h_32 (md5_len _) (byt_md5 _) (tt := 0) (mm := ln) (by omega) (by omega)) okX6_again mlRX6_210 imX6_again seX6_again ⟨by decide, by decide⟩ rfl rfl (Nat.le_of_ble_eq_true rfl) (ws_ne (Nat.ne_of_beq_eq_false rfl) (ws_ne (Nat.ne_of_beq_eq_false rfl) ws_eq)) rfl rfl (Nat.le_of_ble_eq_true rfl) (by decide) (by decide) (fun w9 h9 => ?_)
                                    obtain ⟨fm_33, t_34, t_35, t_36, t_37, fd_38, rfl, h_39⟩ := h9
                                    refine r_eq rfl rfl ((((congrArg (fun z => wset (wset (wset (z) 35 (mo fa sz rz rv (nI ln) pm lo (nI nb.length) os uz ik (nI (([] : List Nat).length)) hsz)) 46 (ia 4 (q4f t_34 t_35 t_36 t_37))) 45 (ia 16 fd_38)) ((ws_comm (Nat.ne_of_beq_eq_false rfl)).trans (congrArg (fun z => wset z 45 (ia 16 fd_31)) ((ws_comm (Nat.ne_of_beq_eq_false rfl)).trans (congrArg (fun z => wset z 46 (ia 4 (q4f t_27 t_28 t_29 t_30))) ((ws_comm (Nat.ne_of_beq_eq_false rfl)).trans (congrArg (fun z => wset z 35 (mo fa sz rz rv (nI ln) pm lo (nI nb.length) os uz ik (nI (([] : List Nat).length)) hsz)) ws_same))))))).trans (congrArg (fun z => wset (wset (z) 46 (ia 4 (q4f t_34 t_35 t_36 t_37))) 45 (ia 16 fd_38)) ((ws_comm (Nat.ne_of_beq_eq_false rfl)).trans (congrArg (fun z => wset z 45 (ia 16 fd_31)) ((ws_comm (Nat.ne_of_beq_eq_false rfl)).trans (congrArg (fun z => wset z 46 (ia 4 (q4f t_27 t_28 t_29 t_30))) ws_same)))))).trans (congrArg (fun z => wset (z) 45 (ia 16 fd_38)) ((ws_comm (Nat.ne_of_beq_eq_false rfl)).trans (congrArg (fun z => wset z 45 (ia 16 fd_31)) ws_same)))).trans ws_same) ?_
                                    refine r_aload_n C dX6_makeKey_165 rfl ?_
                                    refine r_aload_n C dX6_makeKey_166 rfl ?_
                                    refine r_get C dX6_makeKey_167 fgRX6_20 (Nat.le_of_ble_eq_true rfl) (ws_ne (Nat.ne_of_beq_eq_false rfl) (ws_ne (Nat.ne_of_beq_eq_false rfl) ws_eq)) rfl ?_
                                    refine r_callVv C (As := [.int (nI ln)]) (rest := []) dX6_makeKey_170 (cX6_takeHand9 (ws_ne (Nat.ne_of_beq_eq_false rfl) (ws_ne (Nat.ne_of_beq_eq_false rfl) ws_eq)) ws_eq h_39 (ws_ne (Nat.ne_of_beq_eq_false rfl) (ws_ne (Nat.ne_of_beq_eq_false rfl) (ws_ne (Nat.ne_of_beq_eq_false rfl) (ws_ne (Nat.ne_of_beq_eq_false rfl) w_50)))) (mm := ln) (by omega) (by rw [again_len (md5_len _)]; omega)) okX6_takeHand mlRX6_214 imX6_takeHand seX6_takeHand ⟨by decide, by decide⟩ rfl rfl (Nat.le_of_ble_eq_true rfl) (ws_ne (Nat.ne_of_beq_eq_false rfl) (ws_ne (Nat.ne_of_beq_eq_false rfl) ws_eq)) rfl rfl (Nat.le_of_ble_eq_true rfl) (by decide) (by decide) (fun w9 h9 => ?_)
                                    obtain ⟨fh_40, rfl, h_41⟩ := h9
                                    refine r_eq rfl rfl (congrArg (fun z => wset (z) 50 (ia 16 fh_40)) ((ws_comm (Nat.ne_of_beq_eq_false rfl)).trans (congrArg (fun z => wset z 45 (ia 16 fd_38)) ((ws_comm (Nat.ne_of_beq_eq_false rfl)).trans (congrArg (fun z => wset z 46 (ia 4 (q4f t_34 t_35 t_36 t_37))) ws_same))))) ?_
                                    exact r_return C T_ rfl dX6_makeKey_173 (⟨rfl, _, _, _, _, _, _, _, by rw [show keyOf rv ln pm lo ow nb ys = (again ln 0 (md5 (keyMsg rv pm lo ow nb ys))).take ln by unfold keyOf; rw [if_neg (fun z => Int32.not_lt.mpr c_149 (gt2.mpr z))]; rfl], by rw [show keyOf rv ln pm lo ow nb ys = (again ln 0 (md5 (keyMsg rv pm lo ow nb ys))).take ln by unfold keyOf; rw [if_neg (fun z => Int32.not_lt.mpr c_149 (gt2.mpr z))]; rfl]; exact h_41⟩)
                                  · skip
                                    refine r_bipush C dX6_makeKey_152 (v := 50) (by decide) ?_
                                    refine r_goto C 158 dX6_makeKey_154 (by decide) ?_
                                    refine r_aload_n C dX6_makeKey_158 rfl ?_
                                    refine r_get C dX6_makeKey_159 fgRX6_20 (Nat.le_of_ble_eq_true rfl) (ws_ne (Nat.ne_of_beq_eq_false rfl) (ws_ne (Nat.ne_of_beq_eq_false rfl) ws_eq)) rfl ?_
                                    refine r_callVv C (As := [.int 50, .int (nI ln)]) (rest := []) dX6_makeKey_162 (cX6_again9 (ws_ne (Nat.ne_of_beq_eq_false rfl) (ws_ne (Nat.ne_of_beq_eq_false rfl) ws_eq)) (ws_ne (Nat.ne_of_beq_eq_false rfl) (ws_ne (Nat.ne_of_beq_eq_false rfl) (ws_ne (Nat.ne_of_beq_eq_false rfl) ws_eq))) (ws_ne (Nat.ne_of_beq_eq_false rfl) ws_eq) ws_eq (ws_ne (Nat.ne_of_beq_eq_false rfl) (ws_ne (Nat.ne_of_beq_eq_false rfl) (ws_ne (Nat.ne_of_beq_eq_false rfl) (ws_ne (Nat.ne_of_beq_eq_false rfl) w_47)))) hsn (ws_ne (Nat.ne_of_beq_eq_false rfl) (ws_ne (Nat.ne_of_beq_eq_false rfl) (ws_ne (Nat.ne_of_beq_eq_false rfl) (ws_ne (Nat.ne_of_beq_eq_false rfl) w_48)))) htn h_32 (md5_len _) (byt_md5 _) (tt := 50) (mm := ln) (by omega) (by omega)) okX6_again mlRX6_210 imX6_again seX6_again ⟨by decide, by decide⟩ rfl rfl (Nat.le_of_ble_eq_true rfl) (ws_ne (Nat.ne_of_beq_eq_false rfl) (ws_ne (Nat.ne_of_beq_eq_false rfl) ws_eq)) rfl rfl (Nat.le_of_ble_eq_true rfl) (by decide) (by decide) (fun w9 h9 => ?_)
                                    obtain ⟨fm_42, t_43, t_44, t_45, t_46, fd_47, rfl, h_48⟩ := h9
                                    refine r_eq rfl rfl ((((congrArg (fun z => wset (wset (wset (z) 35 (mo fa sz rz rv (nI ln) pm lo (nI nb.length) os uz ik (nI (([] : List Nat).length)) hsz)) 46 (ia 4 (q4f t_43 t_44 t_45 t_46))) 45 (ia 16 fd_47)) ((ws_comm (Nat.ne_of_beq_eq_false rfl)).trans (congrArg (fun z => wset z 45 (ia 16 fd_31)) ((ws_comm (Nat.ne_of_beq_eq_false rfl)).trans (congrArg (fun z => wset z 46 (ia 4 (q4f t_27 t_28 t_29 t_30))) ((ws_comm (Nat.ne_of_beq_eq_false rfl)).trans (congrArg (fun z => wset z 35 (mo fa sz rz rv (nI ln) pm lo (nI nb.length) os uz ik (nI (([] : List Nat).length)) hsz)) ws_same))))))).trans (congrArg (fun z => wset (wset (z) 46 (ia 4 (q4f t_43 t_44 t_45 t_46))) 45 (ia 16 fd_47)) ((ws_comm (Nat.ne_of_beq_eq_false rfl)).trans (congrArg (fun z => wset z 45 (ia 16 fd_31)) ((ws_comm (Nat.ne_of_beq_eq_false rfl)).trans (congrArg (fun z => wset z 46 (ia 4 (q4f t_27 t_28 t_29 t_30))) ws_same)))))).trans (congrArg (fun z => wset (z) 45 (ia 16 fd_47)) ((ws_comm (Nat.ne_of_beq_eq_false rfl)).trans (congrArg (fun z => wset z 45 (ia 16 fd_31)) ws_same)))).trans ws_same) ?_
                                    refine r_aload_n C dX6_makeKey_165 rfl ?_
                                    refine r_aload_n C dX6_makeKey_166 rfl ?_
                                    refine r_get C dX6_makeKey_167 fgRX6_20 (Nat.le_of_ble_eq_true rfl) (ws_ne (Nat.ne_of_beq_eq_false rfl) (ws_ne (Nat.ne_of_beq_eq_false rfl) ws_eq)) rfl ?_
                                    refine r_callVv C (As := [.int (nI ln)]) (rest := []) dX6_makeKey_170 (cX6_takeHand9 (ws_ne (Nat.ne_of_beq_eq_false rfl) (ws_ne (Nat.ne_of_beq_eq_false rfl) ws_eq)) ws_eq h_48 (ws_ne (Nat.ne_of_beq_eq_false rfl) (ws_ne (Nat.ne_of_beq_eq_false rfl) (ws_ne (Nat.ne_of_beq_eq_false rfl) (ws_ne (Nat.ne_of_beq_eq_false rfl) w_50)))) (mm := ln) (by omega) (by rw [again_len (md5_len _)]; omega)) okX6_takeHand mlRX6_214 imX6_takeHand seX6_takeHand ⟨by decide, by decide⟩ rfl rfl (Nat.le_of_ble_eq_true rfl) (ws_ne (Nat.ne_of_beq_eq_false rfl) (ws_ne (Nat.ne_of_beq_eq_false rfl) ws_eq)) rfl rfl (Nat.le_of_ble_eq_true rfl) (by decide) (by decide) (fun w9 h9 => ?_)
                                    obtain ⟨fh_49, rfl, h_50⟩ := h9
                                    refine r_eq rfl rfl (congrArg (fun z => wset (z) 50 (ia 16 fh_49)) ((ws_comm (Nat.ne_of_beq_eq_false rfl)).trans (congrArg (fun z => wset z 45 (ia 16 fd_47)) ((ws_comm (Nat.ne_of_beq_eq_false rfl)).trans (congrArg (fun z => wset z 46 (ia 4 (q4f t_43 t_44 t_45 t_46))) ws_same))))) ?_
                                    exact r_return C T_ rfl dX6_makeKey_173 (⟨rfl, _, _, _, _, _, _, _, by rw [show keyOf rv ln pm lo ow nb ys = (again ln 50 (md5 (keyMsg rv pm lo ow nb ys))).take ln by unfold keyOf; rw [if_pos (gt2.mp (Int32.not_le.mp c_149))]], by rw [show keyOf rv ln pm lo ow nb ys = (again ln 50 (md5 (keyMsg rv pm lo ow nb ys))).take ln by unfold keyOf; rw [if_pos (gt2.mp (Int32.not_le.mp c_149))]]; exact h_50⟩)
                                · skip
                                  refine r_aload_n C dX6_makeKey_119 rfl ?_
                                  refine r_get C dX6_makeKey_120 fgRX6_206 (Nat.le_of_ble_eq_true rfl) ws_eq rfl ?_
                                  refine r_if_eq C 139 dX6_makeKey_123 (by decide) (fun c_123 => ?_) (fun c_123 => ?_)
                                  · skip
                                    have e9k : ze = keyMsg rv pm lo ow nb ys := by rw [hze, hcond.resolve_right (fun z => z.2 c_123), keyMsg_no (fun z => z.2 c_123)]; simp
                                    subst e9k
                                    have hml := keyMsg_le rv pm lo ys how k_nb
                                    refine r_aload_n C dX6_makeKey_139 rfl ?_
                                    refine r_callVv C (As := []) (rest := []) dX6_makeKey_140 (cX6_finish9 ws_eq (ws_ne (Nat.ne_of_beq_eq_false rfl) ws_eq) hfme (by omega) (ws_ne (Nat.ne_of_beq_eq_false rfl) (ws_ne (Nat.ne_of_beq_eq_false rfl) w_46)) (ws_ne (Nat.ne_of_beq_eq_false rfl) (ws_ne (Nat.ne_of_beq_eq_false rfl) w_45)) (ws_ne (Nat.ne_of_beq_eq_false rfl) (ws_ne (Nat.ne_of_beq_eq_false rfl) w_47)) hsn (ws_ne (Nat.ne_of_beq_eq_false rfl) (ws_ne (Nat.ne_of_beq_eq_false rfl) w_48)) htn) okX6_finish mlRX6_185 imX6_finish seX6_finish ⟨by decide, by decide⟩ rfl rfl (Nat.le_of_ble_eq_true rfl) ws_eq rfl rfl (Nat.le_of_ble_eq_true rfl) (by decide) (by decide) (fun w9 h9 => ?_)
                                    obtain ⟨fm_51, t_52, t_53, t_54, t_55, fd_56, rfl, h_57⟩ := h9
                                    refine r_eq rfl rfl ((congrArg (fun z => wset (wset (wset (z) 35 (mo fa sz rz rv (nI ln) pm lo (nI nb.length) os uz ik (nI (([] : List Nat).length)) hsz)) 46 (ia 4 (q4f t_52 t_53 t_54 t_55))) 45 (ia 16 fd_56)) ((ws_comm (Nat.ne_of_beq_eq_false rfl)).trans (congrArg (fun z => wset z 35 (mo fa sz rz rv (nI ln) pm lo (nI nb.length) os uz ik (nI ((keyMsg rv pm lo ow nb ys).length)) hsz)) ws_same))).trans (congrArg (fun z => wset (wset (z) 46 (ia 4 (q4f t_52 t_53 t_54 t_55))) 45 (ia 16 fd_56)) ws_same)) ?_
                                    refine r_aload_n C dX6_makeKey_143 rfl ?_
                                    refine r_aload_n C dX6_makeKey_144 rfl ?_
                                    refine r_get C dX6_makeKey_145 fgRX6_16 (Nat.le_of_ble_eq_true rfl) (ws_ne (Nat.ne_of_beq_eq_false rfl) (ws_ne (Nat.ne_of_beq_eq_false rfl) ws_eq)) rfl ?_
                                    refine r_iconst C dX6_makeKey_148 (v := 2) (by decide) ?_
                                    refine r_icmp_le C 157 dX6_makeKey_149 (by decide) (fun c_149 => ?_) (fun c_149 => ?_)
                                    · skip
                                      refine r_iconst C dX6_makeKey_157 (v := 0) (by decide) ?_
                                      refine r_aload_n C dX6_makeKey_158 rfl ?_
                                      refine r_get C dX6_makeKey_159 fgRX6_20 (Nat.le_of_ble_eq_true rfl) (ws_ne (Nat.ne_of_beq_eq_false rfl) (ws_ne (Nat.ne_of_beq_eq_false rfl) ws_eq)) rfl ?_
                                      refine r_callVv C (As := [.int 0, .int (nI ln)]) (rest := []) dX6_makeKey_162 (cX6_again9 (ws_ne (Nat.ne_of_beq_eq_false rfl) (ws_ne (Nat.ne_of_beq_eq_false rfl) ws_eq)) (ws_ne (Nat.ne_of_beq_eq_false rfl) (ws_ne (Nat.ne_of_beq_eq_false rfl) (ws_ne (Nat.ne_of_beq_eq_false rfl) ws_eq))) (ws_ne (Nat.ne_of_beq_eq_false rfl) ws_eq) ws_eq (ws_ne (Nat.ne_of_beq_eq_false rfl) (ws_ne (Nat.ne_of_beq_eq_false rfl) (ws_ne (Nat.ne_of_beq_eq_false rfl) (ws_ne (Nat.ne_of_beq_eq_false rfl) w_47)))) hsn (ws_ne (Nat.ne_of_beq_eq_false rfl) (ws_ne (Nat.ne_of_beq_eq_false rfl) (ws_ne (Nat.ne_of_beq_eq_false rfl) (ws_ne (Nat.ne_of_beq_eq_false rfl) w_48)))) htn h_57 (md5_len _) (byt_md5 _) (tt := 0) (mm := ln) (by omega) (by omega)) okX6_again mlRX6_210 imX6_again seX6_again ⟨by decide, by decide⟩ rfl rfl (Nat.le_of_ble_eq_true rfl) (ws_ne (Nat.ne_of_beq_eq_false rfl) (ws_ne (Nat.ne_of_beq_eq_false rfl) ws_eq)) rfl rfl (Nat.le_of_ble_eq_true rfl) (by decide) (by decide) (fun w9 h9 => ?_)
                                      obtain ⟨fm_58, t_59, t_60, t_61, t_62, fd_63, rfl, h_64⟩ := h9
                                      refine r_eq rfl rfl ((((congrArg (fun z => wset (wset (wset (z) 35 (mo fa sz rz rv (nI ln) pm lo (nI nb.length) os uz ik (nI (([] : List Nat).length)) hsz)) 46 (ia 4 (q4f t_59 t_60 t_61 t_62))) 45 (ia 16 fd_63)) ((ws_comm (Nat.ne_of_beq_eq_false rfl)).trans (congrArg (fun z => wset z 45 (ia 16 fd_56)) ((ws_comm (Nat.ne_of_beq_eq_false rfl)).trans (congrArg (fun z => wset z 46 (ia 4 (q4f t_52 t_53 t_54 t_55))) ((ws_comm (Nat.ne_of_beq_eq_false rfl)).trans (congrArg (fun z => wset z 35 (mo fa sz rz rv (nI ln) pm lo (nI nb.length) os uz ik (nI (([] : List Nat).length)) hsz)) ws_same))))))).trans (congrArg (fun z => wset (wset (z) 46 (ia 4 (q4f t_59 t_60 t_61 t_62))) 45 (ia 16 fd_63)) ((ws_comm (Nat.ne_of_beq_eq_false rfl)).trans (congrArg (fun z => wset z 45 (ia 16 fd_56)) ((ws_comm (Nat.ne_of_beq_eq_false rfl)).trans (congrArg (fun z => wset z 46 (ia 4 (q4f t_52 t_53 t_54 t_55))) ws_same)))))).trans (congrArg (fun z => wset (z) 45 (ia 16 fd_63)) ((ws_comm (Nat.ne_of_beq_eq_false rfl)).trans (congrArg (fun z => wset z 45 (ia 16 fd_56)) ws_same)))).trans ws_same) ?_
                                      refine r_aload_n C dX6_makeKey_165 rfl ?_
                                      refine r_aload_n C dX6_makeKey_166 rfl ?_
                                      refine r_get C dX6_makeKey_167 fgRX6_20 (Nat.le_of_ble_eq_true rfl) (ws_ne (Nat.ne_of_beq_eq_false rfl) (ws_ne (Nat.ne_of_beq_eq_false rfl) ws_eq)) rfl ?_
                                      refine r_callVv C (As := [.int (nI ln)]) (rest := []) dX6_makeKey_170 (cX6_takeHand9 (ws_ne (Nat.ne_of_beq_eq_false rfl) (ws_ne (Nat.ne_of_beq_eq_false rfl) ws_eq)) ws_eq h_64 (ws_ne (Nat.ne_of_beq_eq_false rfl) (ws_ne (Nat.ne_of_beq_eq_false rfl) (ws_ne (Nat.ne_of_beq_eq_false rfl) (ws_ne (Nat.ne_of_beq_eq_false rfl) w_50)))) (mm := ln) (by omega) (by rw [again_len (md5_len _)]; omega)) okX6_takeHand mlRX6_214 imX6_takeHand seX6_takeHand ⟨by decide, by decide⟩ rfl rfl (Nat.le_of_ble_eq_true rfl) (ws_ne (Nat.ne_of_beq_eq_false rfl) (ws_ne (Nat.ne_of_beq_eq_false rfl) ws_eq)) rfl rfl (Nat.le_of_ble_eq_true rfl) (by decide) (by decide) (fun w9 h9 => ?_)
                                      obtain ⟨fh_65, rfl, h_66⟩ := h9
                                      refine r_eq rfl rfl (congrArg (fun z => wset (z) 50 (ia 16 fh_65)) ((ws_comm (Nat.ne_of_beq_eq_false rfl)).trans (congrArg (fun z => wset z 45 (ia 16 fd_63)) ((ws_comm (Nat.ne_of_beq_eq_false rfl)).trans (congrArg (fun z => wset z 46 (ia 4 (q4f t_59 t_60 t_61 t_62))) ws_same))))) ?_
                                      exact r_return C T_ rfl dX6_makeKey_173 (⟨rfl, _, _, _, _, _, _, _, by rw [show keyOf rv ln pm lo ow nb ys = (again ln 0 (md5 (keyMsg rv pm lo ow nb ys))).take ln by unfold keyOf; rw [if_neg (fun z => Int32.not_lt.mpr c_149 (gt2.mpr z))]; rfl], by rw [show keyOf rv ln pm lo ow nb ys = (again ln 0 (md5 (keyMsg rv pm lo ow nb ys))).take ln by unfold keyOf; rw [if_neg (fun z => Int32.not_lt.mpr c_149 (gt2.mpr z))]; rfl]; exact h_66⟩)
                                    · skip
                                      refine r_bipush C dX6_makeKey_152 (v := 50) (by decide) ?_
                                      refine r_goto C 158 dX6_makeKey_154 (by decide) ?_
                                      refine r_aload_n C dX6_makeKey_158 rfl ?_
                                      refine r_get C dX6_makeKey_159 fgRX6_20 (Nat.le_of_ble_eq_true rfl) (ws_ne (Nat.ne_of_beq_eq_false rfl) (ws_ne (Nat.ne_of_beq_eq_false rfl) ws_eq)) rfl ?_
                                      refine r_callVv C (As := [.int 50, .int (nI ln)]) (rest := []) dX6_makeKey_162 (cX6_again9 (ws_ne (Nat.ne_of_beq_eq_false rfl) (ws_ne (Nat.ne_of_beq_eq_false rfl) ws_eq)) (ws_ne (Nat.ne_of_beq_eq_false rfl) (ws_ne (Nat.ne_of_beq_eq_false rfl) (ws_ne (Nat.ne_of_beq_eq_false rfl) ws_eq))) (ws_ne (Nat.ne_of_beq_eq_false rfl) ws_eq) ws_eq (ws_ne (Nat.ne_of_beq_eq_false rfl) (ws_ne (Nat.ne_of_beq_eq_false rfl) (ws_ne (Nat.ne_of_beq_eq_false rfl) (ws_ne (Nat.ne_of_beq_eq_false rfl) w_47)))) hsn (ws_ne (Nat.ne_of_beq_eq_false rfl) (ws_ne (Nat.ne_of_beq_eq_false rfl) (ws_ne (Nat.ne_of_beq_eq_false rfl) (ws_ne (Nat.ne_of_beq_eq_false rfl) w_48)))) htn h_57 (md5_len _) (byt_md5 _) (tt := 50) (mm := ln) (by omega) (by omega)) okX6_again mlRX6_210 imX6_again seX6_again ⟨by decide, by decide⟩ rfl rfl (Nat.le_of_ble_eq_true rfl) (ws_ne (Nat.ne_of_beq_eq_false rfl) (ws_ne (Nat.ne_of_beq_eq_false rfl) ws_eq)) rfl rfl (Nat.le_of_ble_eq_true rfl) (by decide) (by decide) (fun w9 h9 => ?_)
                                      obtain ⟨fm_67, t_68, t_69, t_70, t_71, fd_72, rfl, h_73⟩ := h9
                                      refine r_eq rfl rfl ((((congrArg (fun z => wset (wset (wset (z) 35 (mo fa sz rz rv (nI ln) pm lo (nI nb.length) os uz ik (nI (([] : List Nat).length)) hsz)) 46 (ia 4 (q4f t_68 t_69 t_70 t_71))) 45 (ia 16 fd_72)) ((ws_comm (Nat.ne_of_beq_eq_false rfl)).trans (congrArg (fun z => wset z 45 (ia 16 fd_56)) ((ws_comm (Nat.ne_of_beq_eq_false rfl)).trans (congrArg (fun z => wset z 46 (ia 4 (q4f t_52 t_53 t_54 t_55))) ((ws_comm (Nat.ne_of_beq_eq_false rfl)).trans (congrArg (fun z => wset z 35 (mo fa sz rz rv (nI ln) pm lo (nI nb.length) os uz ik (nI (([] : List Nat).length)) hsz)) ws_same))))))).trans (congrArg (fun z => wset (wset (z) 46 (ia 4 (q4f t_68 t_69 t_70 t_71))) 45 (ia 16 fd_72)) ((ws_comm (Nat.ne_of_beq_eq_false rfl)).trans (congrArg (fun z => wset z 45 (ia 16 fd_56)) ((ws_comm (Nat.ne_of_beq_eq_false rfl)).trans (congrArg (fun z => wset z 46 (ia 4 (q4f t_52 t_53 t_54 t_55))) ws_same)))))).trans (congrArg (fun z => wset (z) 45 (ia 16 fd_72)) ((ws_comm (Nat.ne_of_beq_eq_false rfl)).trans (congrArg (fun z => wset z 45 (ia 16 fd_56)) ws_same)))).trans ws_same) ?_
                                      refine r_aload_n C dX6_makeKey_165 rfl ?_
                                      refine r_aload_n C dX6_makeKey_166 rfl ?_
                                      refine r_get C dX6_makeKey_167 fgRX6_20 (Nat.le_of_ble_eq_true rfl) (ws_ne (Nat.ne_of_beq_eq_false rfl) (ws_ne (Nat.ne_of_beq_eq_false rfl) ws_eq)) rfl ?_
                                      refine r_callVv C (As := [.int (nI ln)]) (rest := []) dX6_makeKey_170 (cX6_takeHand9 (ws_ne (Nat.ne_of_beq_eq_false rfl) (ws_ne (Nat.ne_of_beq_eq_false rfl) ws_eq)) ws_eq h_73 (ws_ne (Nat.ne_of_beq_eq_false rfl) (ws_ne (Nat.ne_of_beq_eq_false rfl) (ws_ne (Nat.ne_of_beq_eq_false rfl) (ws_ne (Nat.ne_of_beq_eq_false rfl) w_50)))) (mm := ln) (by omega) (by rw [again_len (md5_len _)]; omega)) okX6_takeHand mlRX6_214 imX6_takeHand seX6_takeHand ⟨by decide, by decide⟩ rfl rfl (Nat.le_of_ble_eq_true rfl) (ws_ne (Nat.ne_of_beq_eq_false rfl) (ws_ne (Nat.ne_of_beq_eq_false rfl) ws_eq)) rfl rfl (Nat.le_of_ble_eq_true rfl) (by decide) (by decide) (fun w9 h9 => ?_)
                                      obtain ⟨fh_74, rfl, h_75⟩ := h9
                                      refine r_eq rfl rfl (congrArg (fun z => wset (z) 50 (ia 16 fh_74)) ((ws_comm (Nat.ne_of_beq_eq_false rfl)).trans (congrArg (fun z => wset z 45 (ia 16 fd_72)) ((ws_comm (Nat.ne_of_beq_eq_false rfl)).trans (congrArg (fun z => wset z 46 (ia 4 (q4f t_68 t_69 t_70 t_71))) ws_same))))) ?_
                                      exact r_return C T_ rfl dX6_makeKey_173 (⟨rfl, _, _, _, _, _, _, _, by rw [show keyOf rv ln pm lo ow nb ys = (again ln 50 (md5 (keyMsg rv pm lo ow nb ys))).take ln by unfold keyOf; rw [if_pos (gt2.mp (Int32.not_le.mp c_149))]], by rw [show keyOf rv ln pm lo ow nb ys = (again ln 50 (md5 (keyMsg rv pm lo ow nb ys))).take ln by unfold keyOf; rw [if_pos (gt2.mp (Int32.not_le.mp c_149))]]; exact h_75⟩)
                                  · skip
                                    refine r_aload_n C dX6_makeKey_126 rfl ?_
                                    refine r_sipush C dX6_makeKey_127 (v := 255) (by decide) ?_
                                    refine r_callVv C (As := [.int 255]) (rest := []) dX6_makeKey_130 (cX6_say9 ws_eq (ws_ne (Nat.ne_of_beq_eq_false rfl) ws_eq) hfme (x := 255) (y := 255) rfl (by omega)) okX6_say mlRX6_174 imX6_say seX6_say ⟨by decide, by decide⟩ rfl rfl (Nat.le_of_ble_eq_true rfl) ws_eq rfl rfl (Nat.le_of_ble_eq_true rfl) (by decide) (by decide) (fun w9 h9 => ?_)
                                    obtain ⟨fm_76, rfl, h_77⟩ := h9
                                    refine r_eq rfl rfl ((congrArg (fun z => wset (z) 35 (mo fa sz rz rv (nI ln) pm lo (nI nb.length) os uz ik (nI ((ze ++ [255]).length)) hsz)) ((ws_comm (Nat.ne_of_beq_eq_false rfl)).trans (congrArg (fun z => wset z 35 (mo fa sz rz rv (nI ln) pm lo (nI nb.length) os uz ik (nI ze.length) hsz)) ws_same))).trans ws_same) ?_
                                    refine r_iinc C dX6_makeKey_133 (v := nI (ke + 1)) (L' := [some (.ref 35), some (.int (nI (ke + 1)))]) rfl (nI_add ke 1) (by decide) rfl ?_
                                    refine r_goto C 106 dX6_makeKey_136 (by decide) ?_
                                    exact ih_106 (ke + 1) _ _ (by omega) (by omega) (by rw [hze, rep_push]) h_77 (Or.inr ⟨c_116, c_123⟩)
                          exact loop_106 _ 0 _ _ (Nat.lt_succ_self _) (Nat.zero_le _) (by simp) hfmd (Or.inl rfl)
                        · skip
                          have c_85 : ¬ (nb.length ≤ kd) := fun h9 => c_85 ((nI_leI (a := nb.length) (b := kd) (by omega) (by omega)).mpr h9)
                          refine r_aload_n C dX6_makeKey_88 rfl ?_
                          refine r_aload_n C dX6_makeKey_89 rfl ?_
                          refine r_get C dX6_makeKey_90 fgRX6_32 (Nat.le_of_ble_eq_true rfl) ws_eq rfl ?_
                          refine r_iload_n C dX6_makeKey_93 rfl ?_
                          refine r_ialdN C dX6_makeKey_94 (Nat.le_of_ble_eq_true rfl) (ws_ne (Nat.ne_of_beq_eq_false rfl) (ws_ne (Nat.ne_of_beq_eq_false rfl) w_40)) (j := kd) rfl (by omega) (by decide) ?_
                          refine r_top (y := nI (nb.getD kd 0)) (h_nb _ (by omega)) ?_
                          refine r_callVv C (As := [.int (nI (nb.getD kd 0))]) (rest := []) dX6_makeKey_95 (cX6_say9 ws_eq (ws_ne (Nat.ne_of_beq_eq_false rfl) ws_eq) hfmd (x := nI (nb.getD kd 0)) (y := nb.getD kd 0) rfl (by omega)) okX6_say mlRX6_174 imX6_say seX6_say ⟨by decide, by decide⟩ rfl rfl (Nat.le_of_ble_eq_true rfl) ws_eq rfl rfl (Nat.le_of_ble_eq_true rfl) (by decide) (by decide) (fun w9 h9 => ?_)
                          obtain ⟨fm_78, rfl, h_79⟩ := h9
                          refine r_eq rfl rfl ((congrArg (fun z => wset (z) 35 (mo fa sz rz rv (nI ln) pm lo (nI nb.length) os uz ik (nI ((zd ++ [nb.getD kd 0]).length)) hsz)) ((ws_comm (Nat.ne_of_beq_eq_false rfl)).trans (congrArg (fun z => wset z 35 (mo fa sz rz rv (nI ln) pm lo (nI nb.length) os uz ik (nI zd.length) hsz)) ws_same))).trans ws_same) ?_
                          refine r_iinc C dX6_makeKey_98 (v := nI (kd + 1)) (L' := [some (.ref 35), some (.int (nI (kd + 1)))]) rfl (nI_add kd 1) (by decide) rfl ?_
                          refine r_goto C 80 dX6_makeKey_101 (by decide) ?_
                          exact ih_80 (kd + 1) _ _ (by omega) (by omega) (by rw [hzd, take_push (by omega), List.append_assoc]) h_79
                    exact loop_80 _ 0 _ _ (Nat.lt_succ_self _) (Nat.zero_le _) (by simp) hfmc
                  · skip
                    have c_52 : ¬ (4 ≤ kc) := fun h9 => c_52 ((nI_leI (a := 4) (b := kc) (by omega) (by omega)).mpr h9)
                    refine r_aload_n C dX6_makeKey_55 rfl ?_
                    refine r_aload_n C dX6_makeKey_56 rfl ?_
                    refine r_get C dX6_makeKey_57 fgRX6_23 (Nat.le_of_ble_eq_true rfl) ws_eq rfl ?_
                    refine r_bipush C dX6_makeKey_60 (v := 8) (by decide) ?_
                    refine r_iload_n C dX6_makeKey_62 rfl ?_
                    refine r_imul C dX6_makeKey_63 ?_
                    refine r_top (y := nI (8 * kc)) (pk_mul 8 kc) ?_
                    refine r_ishr C dX6_makeKey_64 ?_
                    refine r_sipush C dX6_makeKey_65 (v := 255) (by decide) ?_
                    refine r_iand C dX6_makeKey_68 ?_
                    refine r_top (y := nI (byj pm kc)) (shr_and pm (by omega)) ?_
                    refine r_callVv C (As := [.int (nI (byj pm kc))]) (rest := []) dX6_makeKey_69 (cX6_say9 ws_eq (ws_ne (Nat.ne_of_beq_eq_false rfl) ws_eq) hfmc (x := nI (byj pm kc)) (y := byj pm kc) rfl (by omega)) okX6_say mlRX6_174 imX6_say seX6_say ⟨by decide, by decide⟩ rfl rfl (Nat.le_of_ble_eq_true rfl) ws_eq rfl rfl (Nat.le_of_ble_eq_true rfl) (by decide) (by decide) (fun w9 h9 => ?_)
                    obtain ⟨fm_80, rfl, h_81⟩ := h9
                    refine r_eq rfl rfl ((congrArg (fun z => wset (z) 35 (mo fa sz rz rv (nI ln) pm lo (nI nb.length) os uz ik (nI ((zc ++ [byj pm kc]).length)) hsz)) ((ws_comm (Nat.ne_of_beq_eq_false rfl)).trans (congrArg (fun z => wset z 35 (mo fa sz rz rv (nI ln) pm lo (nI nb.length) os uz ik (nI zc.length) hsz)) ws_same))).trans ws_same) ?_
                    refine r_iinc C dX6_makeKey_72 (v := nI (kc + 1)) (L' := [some (.ref 35), some (.int (nI (kc + 1)))]) rfl (nI_add kc 1) (by decide) rfl ?_
                    refine r_goto C 50 dX6_makeKey_75 (by decide) ?_
                    exact ih_50 (kc + 1) _ _ (by omega) (by omega) (by rw [hzc, lof_succ, List.append_assoc]) h_81
              exact loop_50 _ 0 _ _ (Nat.lt_succ_self _) (Nat.zero_le _) (by simp [lof]) hfmb
            · skip
              have c_29 : ¬ (32 ≤ kb) := fun h9 => c_29 ((nI_leI (a := 32) (b := kb) (by omega) (by omega)).mpr h9)
              refine r_aload_n C dX6_makeKey_32 rfl ?_
              refine r_aload_n C dX6_makeKey_33 rfl ?_
              refine r_get C dX6_makeKey_34 fgRX6_26 (Nat.le_of_ble_eq_true rfl) ws_eq rfl ?_
              refine r_iload_n C dX6_makeKey_37 rfl ?_
              refine r_ialdN C dX6_makeKey_38 (Nat.le_of_ble_eq_true rfl) (ws_ne (Nat.ne_of_beq_eq_false rfl) (ws_ne (Nat.ne_of_beq_eq_false rfl) w_38)) (j := kb) rfl (by omega) (by decide) ?_
              refine r_top (y := nI (ow.getD kb 0)) (h_ow _ (by omega)) ?_
              refine r_callVv C (As := [.int (nI (ow.getD kb 0))]) (rest := []) dX6_makeKey_39 (cX6_say9 ws_eq (ws_ne (Nat.ne_of_beq_eq_false rfl) ws_eq) hfmb (x := nI (ow.getD kb 0)) (y := ow.getD kb 0) rfl (by omega)) okX6_say mlRX6_174 imX6_say seX6_say ⟨by decide, by decide⟩ rfl rfl (Nat.le_of_ble_eq_true rfl) ws_eq rfl rfl (Nat.le_of_ble_eq_true rfl) (by decide) (by decide) (fun w9 h9 => ?_)
              obtain ⟨fm_82, rfl, h_83⟩ := h9
              refine r_eq rfl rfl ((congrArg (fun z => wset (z) 35 (mo fa sz rz rv (nI ln) pm lo (nI nb.length) os uz ik (nI ((zb ++ [ow.getD kb 0]).length)) hsz)) ((ws_comm (Nat.ne_of_beq_eq_false rfl)).trans (congrArg (fun z => wset z 35 (mo fa sz rz rv (nI ln) pm lo (nI nb.length) os uz ik (nI zb.length) hsz)) ws_same))).trans ws_same) ?_
              refine r_iinc C dX6_makeKey_42 (v := nI (kb + 1)) (L' := [some (.ref 35), some (.int (nI (kb + 1)))]) rfl (nI_add kb 1) (by decide) rfl ?_
              refine r_goto C 26 dX6_makeKey_45 (by decide) ?_
              exact ih_26 (kb + 1) _ _ (by omega) (by omega) (by rw [hzb, take_push (by omega), List.append_assoc]) h_83
        exact loop_26 _ 0 _ _ (Nat.lt_succ_self _) (Nat.zero_le _) (by simp) hfma
      · skip
        have c_5 : ¬ (32 ≤ ka) := fun h9 => c_5 ((nI_leI (a := 32) (b := ka) (by omega) (by omega)).mpr h9)
        refine r_aload_n C dX6_makeKey_8 rfl ?_
        refine r_aload_n C dX6_makeKey_9 rfl ?_
        refine r_get C dX6_makeKey_10 fgRX6_135 (Nat.le_of_ble_eq_true rfl) ws_eq rfl ?_
        refine r_iload_n C dX6_makeKey_13 rfl ?_
        refine r_ialdN C dX6_makeKey_14 (Nat.le_of_ble_eq_true rfl) (ws_ne (Nat.ne_of_beq_eq_false rfl) (ws_ne (Nat.ne_of_beq_eq_false rfl) w_53)) (j := ka) rfl (by omega) (by decide) ?_
        refine r_top (y := nI ((padd ys).getD ka 0)) (h_ys _ (by rw [padd_len]; omega)) ?_
        refine r_callVv C (As := [.int (nI ((padd ys).getD ka 0))]) (rest := []) dX6_makeKey_15 (cX6_say9 ws_eq (ws_ne (Nat.ne_of_beq_eq_false rfl) ws_eq) hfma (x := nI ((padd ys).getD ka 0)) (y := (padd ys).getD ka 0) rfl (by omega)) okX6_say mlRX6_174 imX6_say seX6_say ⟨by decide, by decide⟩ rfl rfl (Nat.le_of_ble_eq_true rfl) ws_eq rfl rfl (Nat.le_of_ble_eq_true rfl) (by decide) (by decide) (fun w9 h9 => ?_)
        obtain ⟨fm_84, rfl, h_85⟩ := h9
        refine r_eq rfl rfl ((congrArg (fun z => wset (z) 35 (mo fa sz rz rv (nI ln) pm lo (nI nb.length) os uz ik (nI ((za ++ [(padd ys).getD ka 0]).length)) hsz)) ((ws_comm (Nat.ne_of_beq_eq_false rfl)).trans (congrArg (fun z => wset z 35 (mo fa sz rz rv (nI ln) pm lo (nI nb.length) os uz ik (nI za.length) hsz)) ws_same))).trans ws_same) ?_
        refine r_iinc C dX6_makeKey_18 (v := nI (ka + 1)) (L' := [some (.ref 35), some (.int (nI (ka + 1)))]) rfl (nI_add ka 1) (by decide) rfl ?_
        refine r_goto C 2 dX6_makeKey_21 (by decide) ?_
        exact ih_2 (ka + 1) _ _ (by omega) (by omega) (by rw [hza, take_push (by rw [padd_len]; omega)]) h_85
  refine r_eq rfl rfl (ws_self w_44).symm ?_
  refine r_eq rfl rfl (ws_self (ws_ne (Nat.ne_of_beq_eq_false rfl) w_35)).symm ?_
  exact loop_2 _ 0 _ _ (Nat.lt_succ_self _) (Nat.zero_le _) (by simp) (hs_nil fm)
