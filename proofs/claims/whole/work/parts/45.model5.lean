theorem rep0_at (n k : Nat) : (List.replicate n 0).getD k 0 = 0 := by
  simp [List.getD, List.getElem?_replicate]
  split <;> rfl
set_option maxHeartbeats 4000000 in
set_option maxRecDepth 100000 in
theorem cX6_makeUserEntry9 {w : Wo} {ln : Nat} {fh : Nat → Int32} {hl : List Nat} (w_50 : w 50 = ia 16 fh) (h_hl : hs fh hl) (k_hl : hl.length ≤ 16) (hl0 : 0 < hl.length) (hbh : byt hl) {fn : Nat → Int32} {nb : List Nat} (w_40 : w 40 = ia 64 fn) (h_nb : hs fn nb) (k_nb : nb.length ≤ 64) {fa sz rz rv pm lo os uz ik : Int32} (w_35 : w 35 = mo fa sz rz rv (nI ln) pm lo (nI nb.length) os uz ik (nI (([] : List Nat).length)) (nI hl.length)) (hrv : rv = 2 ∨ rv = 3 ∨ rv = 4) {fm : Nat → Int32} (w_44 : w 44 = ia 16512 fm) {vA vB vC vD : Int32} (w_46 : w 46 = ia 4 (q4f vA vB vC vD)) {fd : Nat → Int32} (w_45 : w 45 = ia 16 fd) {fsn : Nat → Int32} (w_47 : w 47 = ia 64 fsn) (hsn : ∀ k, k < 64 → fsn k = tabf sinL k) {ftn : Nat → Int32} (w_48 : w 48 = ia 16 ftn) (htn : ∀ k, k < 16 → ftn k = tabf turL k) {ft : Nat → Int32} (w_51 : w 51 = ia 256 ft) {fe : Nat → Int32} (w_52 : w 52 = ia 32 fe) {fpd : Nat → Int32} (w_49 : w 49 = ia 32 fpd) (hpd : ∀ k, k < 32 → fpd k = nI (padN.getD k 0)) : Ctr mX6_makeUserEntry [.ref 35] w (PV fun w' => ∃ fe' fm' tA tB tC tD fd' ft', w' = wset (wset (wset (wset (wset (wset (w) 52 (ia 32 fe')) 44 (ia 16512 fm')) 35 (mo fa sz rz rv (nI ln) pm lo (nI nb.length) os uz ik (nI (([] : List Nat).length)) (nI hl.length))) 46 (ia 4 (q4f tA tB tC tD))) 45 (ia 16 fd')) 51 (ia 256 ft') ∧ hs fe' (entOf rv nb hl)) := by
  refine Ctr_intro okX6_makeUserEntry rfl (Nat.le_of_ble_eq_true rfl) (L := [some (.ref 35), none]) rfl (fun g ct C T_ => ?_)
  refine r_iconst C dX6_makeUserEntry_0 (v := 0) (by decide) ?_
  refine r_istore_n C dX6_makeUserEntry_1 (L' := [some (.ref 35), some (.int 0)]) (by decide) rfl ?_
  have loop_2 : ∀ (d9 : Nat) (k : Nat) (f1 : Nat → Int32), 32 - k < d9 → k ≤ 32 → (∀ m, m < k → f1 m = nI (padN.getD m 0)) → Az g mX6_makeUserEntry ct 0 0 2 [some (.ref 35), some (.int (nI k))] [] (wset w 52 (ia 32 f1)) := by
    intro d9
    induction d9 with
    | zero => intro k f1 hd9; exact absurd hd9 (Nat.not_lt_zero _)
    | succ d9 ih_2 =>
      intro k f1 hd9 hk hp
      refine r_iload_n C dX6_makeUserEntry_2 rfl ?_
      refine r_bipush C dX6_makeUserEntry_3 (v := 32) (by decide) ?_
      refine r_icmp_ge C 26 dX6_makeUserEntry_5 (by decide) (fun c_5 => ?_) (fun c_5 => ?_)
      · skip
        have c_5 : 32 ≤ k := (nI_leI (a := 32) (b := k) (by omega) (by omega)).mp c_5
        refine r_aload_n C dX6_makeUserEntry_26 rfl ?_
        refine r_get C dX6_makeUserEntry_27 fgRX6_16 (Nat.le_of_ble_eq_true rfl) (ws_ne (Nat.ne_of_beq_eq_false rfl) w_35) rfl ?_
        refine r_iconst C dX6_makeUserEntry_30 (v := 2) (by decide) ?_
        refine r_icmp_ne C 42 dX6_makeUserEntry_31 (by decide) (fun c_31 => ?_) (fun c_31 => ?_)
        · skip
          have h3 : 3 ≤ rv := by
            rcases hrv with h | h | h
            · exact absurd h c_31
            · rw [h]; decide
            · rw [h]; decide
          refine r_iconst C dX6_makeUserEntry_42 (v := 0) (by decide) ?_
          refine r_istore_n C dX6_makeUserEntry_43 (L' := [some (.ref 35), some (.int 0)]) (by decide) rfl ?_
          have loop_44 : ∀ (d9 : Nat) (kb : Nat) (zb : List Nat) (fmb : Nat → Int32), 32 - kb < d9 → kb ≤ 32 → zb = padN.take kb → hs fmb zb → Az g mX6_makeUserEntry ct 0 0 44 [some (.ref 35), some (.int (nI kb))] [] (wset (wset (wset w 52 (ia 32 f1)) 44 (ia 16512 fmb)) 35 (mo fa sz rz rv (nI ln) pm lo (nI nb.length) os uz ik (nI zb.length) (nI hl.length))) := by
            intro d9
            induction d9 with
            | zero => intro kb zb fmb hd9; exact absurd hd9 (Nat.not_lt_zero _)
            | succ d9 ih_44 =>
              intro kb zb fmb hd9 hkb hzb hfmb
              have hlb : zb.length = kb := by rw [hzb]; simp only [List.length_take, pad_len]; omega
              refine r_iload_n C dX6_makeUserEntry_44 rfl ?_
              refine r_bipush C dX6_makeUserEntry_45 (v := 32) (by decide) ?_
              refine r_icmp_ge C 66 dX6_makeUserEntry_47 (by decide) (fun c_47 => ?_) (fun c_47 => ?_)
              · skip
                have c_47 : 32 ≤ kb := (nI_leI (a := 32) (b := kb) (by omega) (by omega)).mp c_47
                have e9kb : zb = padN := by rw [hzb, show kb = 32 by omega]; rw [take_all (by rw [pad_len]; omega)]
                subst e9kb
                refine r_iconst C dX6_makeUserEntry_66 (v := 0) (by decide) ?_
                refine r_istore_n C dX6_makeUserEntry_67 (L' := [some (.ref 35), some (.int 0)]) (by decide) rfl ?_
                have loop_68 : ∀ (d9 : Nat) (kc : Nat) (zc : List Nat) (fmc : Nat → Int32), nb.length - kc < d9 → kc ≤ nb.length → zc = padN ++ (nb.take kc) → hs fmc zc → Az g mX6_makeUserEntry ct 0 0 68 [some (.ref 35), some (.int (nI kc))] [] (wset (wset (wset w 52 (ia 32 f1)) 44 (ia 16512 fmc)) 35 (mo fa sz rz rv (nI ln) pm lo (nI nb.length) os uz ik (nI zc.length) (nI hl.length))) := by
                  intro d9
                  induction d9 with
                  | zero => intro kc zc fmc hd9; exact absurd hd9 (Nat.not_lt_zero _)
                  | succ d9 ih_68 =>
                    intro kc zc fmc hd9 hkc hzc hfmc
                    have hlc : zc.length = 32 + kc := by rw [hzc]; simp only [List.length_append, List.length_take, pad_len]; omega
                    refine r_iload_n C dX6_makeUserEntry_68 rfl ?_
                    refine r_aload_n C dX6_makeUserEntry_69 rfl ?_
                    refine r_get C dX6_makeUserEntry_70 fgRX6_203 (Nat.le_of_ble_eq_true rfl) ws_eq rfl ?_
                    refine r_icmp_ge C 92 dX6_makeUserEntry_73 (by decide) (fun c_73 => ?_) (fun c_73 => ?_)
                    · skip
                      have c_73 : nb.length ≤ kc := (nI_leI (a := nb.length) (b := kc) (by omega) (by omega)).mp c_73
                      have e9kc : zc = padN ++ nb := by rw [hzc, show kc = nb.length by omega]; rw [take_all (Nat.le_refl _)]
                      subst e9kc
                      refine r_aload_n C dX6_makeUserEntry_92 rfl ?_
                      refine r_callVv C (As := []) (rest := []) dX6_makeUserEntry_93 (cX6_finish9 ws_eq (ws_ne (Nat.ne_of_beq_eq_false rfl) ws_eq) hfmc (by rw [len_app, pad_len]; omega) (ws_ne (Nat.ne_of_beq_eq_false rfl) (ws_ne (Nat.ne_of_beq_eq_false rfl) (ws_ne (Nat.ne_of_beq_eq_false rfl) w_46))) (ws_ne (Nat.ne_of_beq_eq_false rfl) (ws_ne (Nat.ne_of_beq_eq_false rfl) (ws_ne (Nat.ne_of_beq_eq_false rfl) w_45))) (ws_ne (Nat.ne_of_beq_eq_false rfl) (ws_ne (Nat.ne_of_beq_eq_false rfl) (ws_ne (Nat.ne_of_beq_eq_false rfl) w_47))) hsn (ws_ne (Nat.ne_of_beq_eq_false rfl) (ws_ne (Nat.ne_of_beq_eq_false rfl) (ws_ne (Nat.ne_of_beq_eq_false rfl) w_48))) htn) okX6_finish mlRX6_185 imX6_finish seX6_finish ⟨by decide, by decide⟩ rfl rfl (Nat.le_of_ble_eq_true rfl) ws_eq rfl rfl (Nat.le_of_ble_eq_true rfl) (by decide) (by decide) (fun w9 h9 => ?_)
                      obtain ⟨fm_1, t_2, t_3, t_4, t_5, fd_6, rfl, h_7⟩ := h9
                      refine r_eq rfl rfl ((congrArg (fun z => wset (wset (wset (z) 35 (mo fa sz rz rv (nI ln) pm lo (nI nb.length) os uz ik (nI (([] : List Nat).length)) (nI hl.length))) 46 (ia 4 (q4f t_2 t_3 t_4 t_5))) 45 (ia 16 fd_6)) ((ws_comm (Nat.ne_of_beq_eq_false rfl)).trans (congrArg (fun z => wset z 35 (mo fa sz rz rv (nI ln) pm lo (nI nb.length) os uz ik (nI ((padN ++ nb).length)) (nI hl.length))) ws_same))).trans (congrArg (fun z => wset (wset (z) 46 (ia 4 (q4f t_2 t_3 t_4 t_5))) 45 (ia 16 fd_6)) ws_same)) ?_
                      have hdg := h_7
                      refine r_iconst C dX6_makeUserEntry_96 (v := 0) (by decide) ?_
                      refine r_istore_n C dX6_makeUserEntry_97 (L' := [some (.ref 35), some (.int 0)]) (by decide) rfl ?_
                      have loop_98 : ∀ (d9 : Nat) (kd : Nat) (f2 : Nat → Int32), 32 - kd < d9 → kd ≤ 32 → (∀ m, m < kd → f2 m = nI ((md5 (padN ++ nb) ++ List.replicate 16 0).getD m 0)) → Az g mX6_makeUserEntry ct 0 0 98 [some (.ref 35), some (.int (nI kd))] [] (wset (wset (wset (wset (wset w 52 (ia 32 f2)) 44 (ia 16512 fm_1)) 35 (mo fa sz rz rv (nI ln) pm lo (nI nb.length) os uz ik (nI (([] : List Nat).length)) (nI hl.length))) 46 (ia 4 (q4f t_2 t_3 t_4 t_5))) 45 (ia 16 fd_6)) := by
                        intro d9
                        induction d9 with
                        | zero => intro kd f2 hd9; exact absurd hd9 (Nat.not_lt_zero _)
                        | succ d9 ih_98 =>
                          intro kd f2 hd9 hkd hpd2
                          refine r_iload_n C dX6_makeUserEntry_98 rfl ?_
                          refine r_bipush C dX6_makeUserEntry_99 (v := 32) (by decide) ?_
                          refine r_icmp_ge C 132 dX6_makeUserEntry_101 (by decide) (fun c_101 => ?_) (fun c_101 => ?_)
                          · skip
                            have c_101 : 32 ≤ kd := (nI_leI (a := 32) (b := kd) (by omega) (by omega)).mp c_101
                            refine r_iconst C dX6_makeUserEntry_132 (v := 0) (by decide) ?_
                            refine r_istore_n C dX6_makeUserEntry_133 (L' := [some (.ref 35), some (.int 0)]) (by decide) rfl ?_
                            have loop_134 : ∀ (d9 : Nat) (i : Nat) (es : List Nat) (f3 : Nat → Int32) (ft3 : Nat → Int32), 20 - i < d9 → i ≤ 20 → es = strms hl i (md5 (padN ++ nb)) → hs f3 (es ++ List.replicate 16 0) → Az g mX6_makeUserEntry ct 0 0 134 [some (.ref 35), some (.int (nI i))] [] (wset (wset (wset (wset (wset (wset w 52 (ia 32 f3)) 44 (ia 16512 fm_1)) 35 (mo fa sz rz rv (nI ln) pm lo (nI nb.length) os uz ik (nI (([] : List Nat).length)) (nI hl.length))) 46 (ia 4 (q4f t_2 t_3 t_4 t_5))) 45 (ia 16 fd_6)) 51 (ia 256 ft3)) := by
                              intro d9
                              induction d9 with
                              | zero => intro i es f3 ft3 hd9; exact absurd hd9 (Nat.not_lt_zero _)
                              | succ d9 ih_134 =>
                                intro i es f3 ft3 hd9 hi hes hf3
                                refine r_iload_n C dX6_makeUserEntry_134 rfl ?_
                                refine r_bipush C dX6_makeUserEntry_135 (v := 20) (by decide) ?_
                                refine r_icmp_ge C 153 dX6_makeUserEntry_137 (by decide) (fun c_137 => ?_) (fun c_137 => ?_)
                                · skip
                                  have c_137 : 20 ≤ i := (nI_leI (a := 20) (b := i) (by omega) (by omega)).mp c_137
                                  exact r_return C T_ rfl dX6_makeUserEntry_153 (⟨rfl, _, _, _, _, _, _, _, _, rfl, by rw [show entOf rv nb hl = es ++ List.replicate 16 0 by unfold entOf; rw [if_pos h3, hes, show i = 20 by omega]]; exact hf3⟩)
                                · skip
                                  have c_137 : ¬ (20 ≤ i) := fun h9 => c_137 ((nI_leI (a := 20) (b := i) (by omega) (by omega)).mpr h9)
                                  refine r_aload_n C dX6_makeUserEntry_140 rfl ?_
                                  refine r_iload_n C dX6_makeUserEntry_141 rfl ?_
                                  refine r_bipush C dX6_makeUserEntry_142 (v := 16) (by decide) ?_
                                  refine r_callVv C (As := [.int (nI i), .int 16]) (rest := []) dX6_makeUserEntry_144 (cX6_stream9 (ws_ne (Nat.ne_of_beq_eq_false rfl) (ws_ne (Nat.ne_of_beq_eq_false rfl) (ws_ne (Nat.ne_of_beq_eq_false rfl) (ws_ne (Nat.ne_of_beq_eq_false rfl) (ws_ne (Nat.ne_of_beq_eq_false rfl) (ws_ne (Nat.ne_of_beq_eq_false rfl) w_50)))))) h_hl k_hl hl0 hbh (ch := i) (by omega) (ws_ne (Nat.ne_of_beq_eq_false rfl) (ws_ne (Nat.ne_of_beq_eq_false rfl) (ws_ne (Nat.ne_of_beq_eq_false rfl) ws_eq))) ws_eq (e1 := es) (e2 := List.replicate 16 0) (ws_ne (Nat.ne_of_beq_eq_false rfl) (ws_ne (Nat.ne_of_beq_eq_false rfl) (ws_ne (Nat.ne_of_beq_eq_false rfl) (ws_ne (Nat.ne_of_beq_eq_false rfl) (ws_ne (Nat.ne_of_beq_eq_false rfl) ws_eq))))) hf3 (by rw [hes, strms_len, md5_len]; decide) (mm := 16) (by rw [hes, strms_len, md5_len])) okX6_stream mlRX6_217 imX6_stream seX6_stream ⟨by decide, by decide⟩ rfl rfl (Nat.le_of_ble_eq_true rfl) (ws_ne (Nat.ne_of_beq_eq_false rfl) (ws_ne (Nat.ne_of_beq_eq_false rfl) (ws_ne (Nat.ne_of_beq_eq_false rfl) ws_eq))) rfl rfl (Nat.le_of_ble_eq_true rfl) (by decide) (by decide) (fun w9 h9 => ?_)
                                  obtain ⟨ft_8, fe_9, rfl, h_10⟩ := h9
                                  refine r_eq rfl rfl ((congrArg (fun z => wset (z) 52 (ia 32 fe_9)) ws_same).trans ((ws_comm (Nat.ne_of_beq_eq_false rfl)).trans (congrArg (fun z => wset z 51 (ia 256 ft_8)) ((ws_comm (Nat.ne_of_beq_eq_false rfl)).trans (congrArg (fun z => wset z 45 (ia 16 fd_6)) ((ws_comm (Nat.ne_of_beq_eq_false rfl)).trans (congrArg (fun z => wset z 46 (ia 4 (q4f t_2 t_3 t_4 t_5))) ((ws_comm (Nat.ne_of_beq_eq_false rfl)).trans (congrArg (fun z => wset z 35 (mo fa sz rz rv (nI ln) pm lo (nI nb.length) os uz ik (nI (([] : List Nat).length)) (nI hl.length))) ((ws_comm (Nat.ne_of_beq_eq_false rfl)).trans (congrArg (fun z => wset z 44 (ia 16512 fm_1)) ws_same))))))))))) ?_
                                  refine r_iinc C dX6_makeUserEntry_147 (v := nI (i + 1)) (L' := [some (.ref 35), some (.int (nI (i + 1)))]) rfl (nI_add i 1) (by decide) rfl ?_
                                  refine r_goto C 134 dX6_makeUserEntry_150 (by decide) ?_
                                  exact ih_134 (i + 1) _ _ _ (by omega) (by omega) (by rw [hes]; rfl) h_10
                            refine r_eq rfl rfl (ws_self (ws_ne (Nat.ne_of_beq_eq_false rfl) (ws_ne (Nat.ne_of_beq_eq_false rfl) (ws_ne (Nat.ne_of_beq_eq_false rfl) (ws_ne (Nat.ne_of_beq_eq_false rfl) (ws_ne (Nat.ne_of_beq_eq_false rfl) w_51)))))).symm ?_
                            exact loop_134 _ 0 _ _ _ (Nat.lt_succ_self _) (by omega) rfl (hs_pre (xs := (md5 (padN ++ nb)) ++ List.replicate 16 0) rfl (fun m hm => hpd2 m (by simp only [List.length_append, md5_len, List.length_replicate] at hm; omega)) (fun m hm => rfl))
                          · skip
                            have c_101 : ¬ (32 ≤ kd) := fun h9 => c_101 ((nI_leI (a := 32) (b := kd) (by omega) (by omega)).mpr h9)
                            refine r_aload_n C dX6_makeUserEntry_104 rfl ?_
                            refine r_get C dX6_makeUserEntry_105 fgRX6_132 (Nat.le_of_ble_eq_true rfl) (ws_ne (Nat.ne_of_beq_eq_false rfl) (ws_ne (Nat.ne_of_beq_eq_false rfl) ws_eq)) rfl ?_
                            refine r_iload_n C dX6_makeUserEntry_108 rfl ?_
                            refine r_iload_n C dX6_makeUserEntry_109 rfl ?_
                            refine r_bipush C dX6_makeUserEntry_110 (v := 16) (by decide) ?_
                            refine r_icmp_ge C 124 dX6_makeUserEntry_112 (by decide) (fun c_112 => ?_) (fun c_112 => ?_)
                            · skip
                              have c_112 : 16 ≤ kd := (nI_leI (a := 16) (b := kd) (by omega) (by omega)).mp c_112
                              refine r_iconst C dX6_makeUserEntry_124 (v := 0) (by decide) ?_
                              refine r_iastN C dX6_makeUserEntry_125 (Nat.le_of_ble_eq_true rfl) (ws_ne (Nat.ne_of_beq_eq_false rfl) (ws_ne (Nat.ne_of_beq_eq_false rfl) (ws_ne (Nat.ne_of_beq_eq_false rfl) (ws_ne (Nat.ne_of_beq_eq_false rfl) ws_eq)))) (j := kd) rfl (by omega) (by decide) ?_
                              refine r_eq rfl rfl ((ws_comm (Nat.ne_of_beq_eq_false rfl)).trans (congrArg (fun z => wset z 45 (ia 16 fd_6)) ((ws_comm (Nat.ne_of_beq_eq_false rfl)).trans (congrArg (fun z => wset z 46 (ia 4 (q4f t_2 t_3 t_4 t_5))) ((ws_comm (Nat.ne_of_beq_eq_false rfl)).trans (congrArg (fun z => wset z 35 (mo fa sz rz rv (nI ln) pm lo (nI nb.length) os uz ik (nI (([] : List Nat).length)) (nI hl.length))) ((ws_comm (Nat.ne_of_beq_eq_false rfl)).trans (congrArg (fun z => wset z 44 (ia 16512 fm_1)) ws_same)))))))) ?_
                              refine r_iinc C dX6_makeUserEntry_126 (v := nI (kd + 1)) (L' := [some (.ref 35), some (.int (nI (kd + 1)))]) rfl (nI_add kd 1) (by decide) rfl ?_
                              refine r_goto C 98 dX6_makeUserEntry_129 (by decide) ?_
                              exact ih_98 (kd + 1) _ (by omega) (by omega) (up_lt hpd2 (by rw [gd_right (by rw [md5_len]; omega), rep0_at]; rfl))
                            · skip
                              have c_112 : ¬ (16 ≤ kd) := fun h9 => c_112 ((nI_leI (a := 16) (b := kd) (by omega) (by omega)).mpr h9)
                              refine r_aload_n C dX6_makeUserEntry_115 rfl ?_
                              refine r_get C dX6_makeUserEntry_116 fgRX6_47 (Nat.le_of_ble_eq_true rfl) (ws_ne (Nat.ne_of_beq_eq_false rfl) (ws_ne (Nat.ne_of_beq_eq_false rfl) ws_eq)) rfl ?_
                              refine r_iload_n C dX6_makeUserEntry_119 rfl ?_
                              refine r_ialdN C dX6_makeUserEntry_120 (Nat.le_of_ble_eq_true rfl) ws_eq (j := kd) rfl (by omega) (by decide) ?_
                              refine r_top (y := nI ((md5 (padN ++ nb)).getD kd 0)) (hdg _ (by rw [md5_len]; omega)) ?_
                              refine r_goto C 125 dX6_makeUserEntry_121 (by decide) ?_
                              refine r_iastN C dX6_makeUserEntry_125 (Nat.le_of_ble_eq_true rfl) (ws_ne (Nat.ne_of_beq_eq_false rfl) (ws_ne (Nat.ne_of_beq_eq_false rfl) (ws_ne (Nat.ne_of_beq_eq_false rfl) (ws_ne (Nat.ne_of_beq_eq_false rfl) ws_eq)))) (j := kd) rfl (by omega) (by decide) ?_
                              refine r_eq rfl rfl ((ws_comm (Nat.ne_of_beq_eq_false rfl)).trans (congrArg (fun z => wset z 45 (ia 16 fd_6)) ((ws_comm (Nat.ne_of_beq_eq_false rfl)).trans (congrArg (fun z => wset z 46 (ia 4 (q4f t_2 t_3 t_4 t_5))) ((ws_comm (Nat.ne_of_beq_eq_false rfl)).trans (congrArg (fun z => wset z 35 (mo fa sz rz rv (nI ln) pm lo (nI nb.length) os uz ik (nI (([] : List Nat).length)) (nI hl.length))) ((ws_comm (Nat.ne_of_beq_eq_false rfl)).trans (congrArg (fun z => wset z 44 (ia 16512 fm_1)) ws_same)))))))) ?_
                              refine r_iinc C dX6_makeUserEntry_126 (v := nI (kd + 1)) (L' := [some (.ref 35), some (.int (nI (kd + 1)))]) rfl (nI_add kd 1) (by decide) rfl ?_
                              refine r_goto C 98 dX6_makeUserEntry_129 (by decide) ?_
                              exact ih_98 (kd + 1) _ (by omega) (by omega) (up_lt hpd2 (by rw [gd_left (by rw [md5_len]; omega)]))
                      exact loop_98 _ 0 _ (Nat.lt_succ_self _) (by omega) (fun m hm => absurd hm (Nat.not_lt_zero m))
                    · skip
                      have c_73 : ¬ (nb.length ≤ kc) := fun h9 => c_73 ((nI_leI (a := nb.length) (b := kc) (by omega) (by omega)).mpr h9)
                      refine r_aload_n C dX6_makeUserEntry_76 rfl ?_
                      refine r_aload_n C dX6_makeUserEntry_77 rfl ?_
                      refine r_get C dX6_makeUserEntry_78 fgRX6_32 (Nat.le_of_ble_eq_true rfl) ws_eq rfl ?_
                      refine r_iload_n C dX6_makeUserEntry_81 rfl ?_
                      refine r_ialdN C dX6_makeUserEntry_82 (Nat.le_of_ble_eq_true rfl) (ws_ne (Nat.ne_of_beq_eq_false rfl) (ws_ne (Nat.ne_of_beq_eq_false rfl) (ws_ne (Nat.ne_of_beq_eq_false rfl) w_40))) (j := kc) rfl (by omega) (by decide) ?_
                      refine r_top (y := nI (nb.getD kc 0)) (h_nb _ (by omega)) ?_
                      refine r_callVv C (As := [.int (nI (nb.getD kc 0))]) (rest := []) dX6_makeUserEntry_83 (cX6_say9 ws_eq (ws_ne (Nat.ne_of_beq_eq_false rfl) ws_eq) hfmc (x := nI (nb.getD kc 0)) (y := nb.getD kc 0) rfl (by omega)) okX6_say mlRX6_174 imX6_say seX6_say ⟨by decide, by decide⟩ rfl rfl (Nat.le_of_ble_eq_true rfl) ws_eq rfl rfl (Nat.le_of_ble_eq_true rfl) (by decide) (by decide) (fun w9 h9 => ?_)
                      obtain ⟨fm_11, rfl, h_12⟩ := h9
                      refine r_eq rfl rfl ((congrArg (fun z => wset (z) 35 (mo fa sz rz rv (nI ln) pm lo (nI nb.length) os uz ik (nI ((zc ++ [nb.getD kc 0]).length)) (nI hl.length))) ((ws_comm (Nat.ne_of_beq_eq_false rfl)).trans (congrArg (fun z => wset z 35 (mo fa sz rz rv (nI ln) pm lo (nI nb.length) os uz ik (nI zc.length) (nI hl.length))) ws_same))).trans ws_same) ?_
                      refine r_iinc C dX6_makeUserEntry_86 (v := nI (kc + 1)) (L' := [some (.ref 35), some (.int (nI (kc + 1)))]) rfl (nI_add kc 1) (by decide) rfl ?_
                      refine r_goto C 68 dX6_makeUserEntry_89 (by decide) ?_
                      exact ih_68 (kc + 1) _ _ (by omega) (by omega) (by rw [hzc, take_push (by omega), List.append_assoc]) h_12
                exact loop_68 _ 0 _ _ (Nat.lt_succ_self _) (Nat.zero_le _) (by simp) hfmb
              · skip
                have c_47 : ¬ (32 ≤ kb) := fun h9 => c_47 ((nI_leI (a := 32) (b := kb) (by omega) (by omega)).mpr h9)
                refine r_aload_n C dX6_makeUserEntry_50 rfl ?_
                refine r_aload_n C dX6_makeUserEntry_51 rfl ?_
                refine r_get C dX6_makeUserEntry_52 fgRX6_123 (Nat.le_of_ble_eq_true rfl) ws_eq rfl ?_
                refine r_iload_n C dX6_makeUserEntry_55 rfl ?_
                refine r_ialdN C dX6_makeUserEntry_56 (Nat.le_of_ble_eq_true rfl) (ws_ne (Nat.ne_of_beq_eq_false rfl) (ws_ne (Nat.ne_of_beq_eq_false rfl) (ws_ne (Nat.ne_of_beq_eq_false rfl) w_49))) (j := kb) rfl (by omega) (by decide) ?_
                refine r_top (y := nI (padN.getD kb 0)) (hpd kb (by omega)) ?_
                refine r_callVv C (As := [.int (nI (padN.getD kb 0))]) (rest := []) dX6_makeUserEntry_57 (cX6_say9 ws_eq (ws_ne (Nat.ne_of_beq_eq_false rfl) ws_eq) hfmb (x := nI (padN.getD kb 0)) (y := padN.getD kb 0) rfl (by omega)) okX6_say mlRX6_174 imX6_say seX6_say ⟨by decide, by decide⟩ rfl rfl (Nat.le_of_ble_eq_true rfl) ws_eq rfl rfl (Nat.le_of_ble_eq_true rfl) (by decide) (by decide) (fun w9 h9 => ?_)
                obtain ⟨fm_13, rfl, h_14⟩ := h9
                refine r_eq rfl rfl ((congrArg (fun z => wset (z) 35 (mo fa sz rz rv (nI ln) pm lo (nI nb.length) os uz ik (nI ((zb ++ [padN.getD kb 0]).length)) (nI hl.length))) ((ws_comm (Nat.ne_of_beq_eq_false rfl)).trans (congrArg (fun z => wset z 35 (mo fa sz rz rv (nI ln) pm lo (nI nb.length) os uz ik (nI zb.length) (nI hl.length))) ws_same))).trans ws_same) ?_
                refine r_iinc C dX6_makeUserEntry_60 (v := nI (kb + 1)) (L' := [some (.ref 35), some (.int (nI (kb + 1)))]) rfl (nI_add kb 1) (by decide) rfl ?_
                refine r_goto C 44 dX6_makeUserEntry_63 (by decide) ?_
                exact ih_44 (kb + 1) _ _ (by omega) (by omega) (by rw [hzb, take_push (by rw [pad_len]; omega)]) h_14
          refine r_eq rfl rfl (ws_self (ws_ne (Nat.ne_of_beq_eq_false rfl) w_44)).symm ?_
          refine r_eq rfl rfl (ws_self (ws_ne (Nat.ne_of_beq_eq_false rfl) (ws_ne (Nat.ne_of_beq_eq_false rfl) w_35))).symm ?_
          exact loop_44 _ 0 _ _ (Nat.lt_succ_self _) (Nat.zero_le _) (by simp) (hs_nil fm)
        · skip
          have hpe : hs f1 (padN ++ []) := hs_pre (xs := padN) (by simp) (fun m hm => hp m (by rw [pad_len] at hm; omega)) (fun m hm => by simp)
          refine r_eq rfl rfl (ws_self (ws_ne (Nat.ne_of_beq_eq_false rfl) w_44)).symm ?_
          refine r_eq rfl rfl (ws_self (ws_ne (Nat.ne_of_beq_eq_false rfl) (ws_ne (Nat.ne_of_beq_eq_false rfl) w_35))).symm ?_
          refine r_eq rfl rfl (ws_self (ws_ne (Nat.ne_of_beq_eq_false rfl) (ws_ne (Nat.ne_of_beq_eq_false rfl) (ws_ne (Nat.ne_of_beq_eq_false rfl) w_46)))).symm ?_
          refine r_eq rfl rfl (ws_self (ws_ne (Nat.ne_of_beq_eq_false rfl) (ws_ne (Nat.ne_of_beq_eq_false rfl) (ws_ne (Nat.ne_of_beq_eq_false rfl) (ws_ne (Nat.ne_of_beq_eq_false rfl) w_45))))).symm ?_
          refine r_aload_n C dX6_makeUserEntry_34 rfl ?_
          refine r_iconst C dX6_makeUserEntry_35 (v := 0) (by decide) ?_
          refine r_bipush C dX6_makeUserEntry_36 (v := 32) (by decide) ?_
          refine r_callVv C (As := [.int 0, .int 32]) (rest := []) dX6_makeUserEntry_38 (cX6_stream9 (ws_ne (Nat.ne_of_beq_eq_false rfl) (ws_ne (Nat.ne_of_beq_eq_false rfl) (ws_ne (Nat.ne_of_beq_eq_false rfl) (ws_ne (Nat.ne_of_beq_eq_false rfl) (ws_ne (Nat.ne_of_beq_eq_false rfl) w_50))))) h_hl k_hl hl0 hbh (ch := 0) (by omega) (ws_ne (Nat.ne_of_beq_eq_false rfl) (ws_ne (Nat.ne_of_beq_eq_false rfl) ws_eq)) (ws_ne (Nat.ne_of_beq_eq_false rfl) (ws_ne (Nat.ne_of_beq_eq_false rfl) (ws_ne (Nat.ne_of_beq_eq_false rfl) (ws_ne (Nat.ne_of_beq_eq_false rfl) (ws_ne (Nat.ne_of_beq_eq_false rfl) w_51))))) (e1 := padN) (e2 := []) (ws_ne (Nat.ne_of_beq_eq_false rfl) (ws_ne (Nat.ne_of_beq_eq_false rfl) (ws_ne (Nat.ne_of_beq_eq_false rfl) (ws_ne (Nat.ne_of_beq_eq_false rfl) ws_eq)))) hpe (by decide) (mm := 32) (by rw [pad_len])) okX6_stream mlRX6_217 imX6_stream seX6_stream ⟨by decide, by decide⟩ rfl rfl (Nat.le_of_ble_eq_true rfl) (ws_ne (Nat.ne_of_beq_eq_false rfl) (ws_ne (Nat.ne_of_beq_eq_false rfl) ws_eq)) rfl rfl (Nat.le_of_ble_eq_true rfl) (by decide) (by decide) (fun w9 h9 => ?_)
          obtain ⟨ft_15, fe_16, rfl, h_17⟩ := h9
          refine r_eq rfl rfl ((ws_comm (Nat.ne_of_beq_eq_false rfl)).trans (congrArg (fun z => wset z 51 (ia 256 ft_15)) ((ws_comm (Nat.ne_of_beq_eq_false rfl)).trans (congrArg (fun z => wset z 45 (ia 16 fd)) ((ws_comm (Nat.ne_of_beq_eq_false rfl)).trans (congrArg (fun z => wset z 46 (ia 4 (q4f vA vB vC vD))) ((ws_comm (Nat.ne_of_beq_eq_false rfl)).trans (congrArg (fun z => wset z 35 (mo fa sz rz rv (nI ln) pm lo (nI nb.length) os uz ik (nI (([] : List Nat).length)) (nI hl.length))) ((ws_comm (Nat.ne_of_beq_eq_false rfl)).trans (congrArg (fun z => wset z 44 (ia 16512 fm)) ws_same)))))))))) ?_
          exact r_return C T_ rfl dX6_makeUserEntry_41 (⟨rfl, _, _, _, _, _, _, _, _, rfl, by rw [show entOf rv nb hl = strm hl 0 padN ++ [] by unfold entOf; rw [if_neg (by rw [c_31]; decide), List.append_nil]; rfl]; exact h_17⟩)
      · skip
        have c_5 : ¬ (32 ≤ k) := fun h9 => c_5 ((nI_leI (a := 32) (b := k) (by omega) (by omega)).mpr h9)
        refine r_aload_n C dX6_makeUserEntry_8 rfl ?_
        refine r_get C dX6_makeUserEntry_9 fgRX6_132 (Nat.le_of_ble_eq_true rfl) (ws_ne (Nat.ne_of_beq_eq_false rfl) w_35) rfl ?_
        refine r_iload_n C dX6_makeUserEntry_12 rfl ?_
        refine r_aload_n C dX6_makeUserEntry_13 rfl ?_
        refine r_get C dX6_makeUserEntry_14 fgRX6_123 (Nat.le_of_ble_eq_true rfl) (ws_ne (Nat.ne_of_beq_eq_false rfl) w_35) rfl ?_
        refine r_iload_n C dX6_makeUserEntry_17 rfl ?_
        refine r_ialdN C dX6_makeUserEntry_18 (Nat.le_of_ble_eq_true rfl) (ws_ne (Nat.ne_of_beq_eq_false rfl) w_49) (j := k) rfl (by omega) (by decide) ?_
        refine r_top (y := nI (padN.getD k 0)) (hpd k (by omega)) ?_
        refine r_iastN C dX6_makeUserEntry_19 (Nat.le_of_ble_eq_true rfl) ws_eq (j := k) rfl (by omega) (by decide) ?_
        refine r_eq rfl rfl ws_same ?_
        refine r_iinc C dX6_makeUserEntry_20 (v := nI (k + 1)) (L' := [some (.ref 35), some (.int (nI (k + 1)))]) rfl (nI_add k 1) (by decide) rfl ?_
        refine r_goto C 2 dX6_makeUserEntry_23 (by decide) ?_
        exact ih_2 (k + 1) _ (by omega) (by omega) (up_lt hp rfl)
  refine r_eq rfl rfl (ws_self w_52).symm ?_
  exact loop_2 _ 0 _ (Nat.lt_succ_self _) (by omega) (fun m hm => absurd hm (Nat.not_lt_zero m))
set_option maxHeartbeats 4000000 in
set_option maxRecDepth 100000 in
theorem cX6_know9 {w : Wo} {ln : Nat} (hln : 5 ≤ ln ∧ ln ≤ 16) {fh : Nat → Int32} {hl : List Nat} (w_50 : w 50 = ia 16 fh) (h_hl : hs fh hl) (k_hl : hl.length ≤ 16) (hll : hl.length = ln) {fa sz rz rv pm lo ns os uz ik ms hsz : Int32} (w_35 : w 35 = mo fa sz rz rv (nI ln) pm lo ns os uz ik ms hsz) {fk : Nat → Int32} (w_43 : w 43 = ia 16 fk) : Ctr mX6_know [.ref 35] w (PV fun w' => ∃ fk', w' = wset (wset (w) 35 (mo fa sz rz rv (nI ln) pm lo ns os uz 1 ms hsz)) 43 (ia 16 fk') ∧ hs fk' hl) := by
  refine Ctr_intro okX6_know rfl (Nat.le_of_ble_eq_true rfl) (L := [some (.ref 35), none]) rfl (fun g ct C T_ => ?_)
  refine r_aload_n C dX6_know_0 rfl ?_
  refine r_iconst C dX6_know_1 (v := 1) (by decide) ?_
  refine r_put C dX6_know_2 fpRX6_220 (Nat.le_of_ble_eq_true rfl) w_35 (by decide) (by decide) (Nat.le_of_ble_eq_true rfl) (fs' := [.int fa, .int sz, .ref 36, .int rz, .ref 37, .int rv, .int (nI ln), .int pm, .int lo, .ref 38, .ref 39, .int ns, .ref 40, .int os, .ref 41, .int uz, .ref 42, .int 1, .ref 43, .int ms, .ref 44, .ref 45, .ref 46, .ref 47, .ref 48, .ref 49, .int hsz, .ref 50, .ref 51, .ref 52, .ref 53, .ref 54, .ref 55, .ref 56, .ref 57, .ref 58]) rfl ?_
  refine r_iconst C dX6_know_5 (v := 0) (by decide) ?_
  refine r_istore_n C dX6_know_6 (L' := [some (.ref 35), some (.int 0)]) (by decide) rfl ?_
  have loop_7 : ∀ (d9 : Nat) (k : Nat) (f1 : Nat → Int32), ln - k < d9 → k ≤ ln → (∀ m, m < k → f1 m = nI (hl.getD m 0)) → Az g mX6_know ct 0 0 7 [some (.ref 35), some (.int (nI k))] [] (wset (wset w 35 (mo fa sz rz rv (nI ln) pm lo ns os uz 1 ms hsz)) 43 (ia 16 f1)) := by
    intro d9
    induction d9 with
    | zero => intro k f1 hd9; exact absurd hd9 (Nat.not_lt_zero _)
    | succ d9 ih_7 =>
      intro k f1 hd9 hk hp
      refine r_iload_n C dX6_know_7 rfl ?_
      refine r_aload_n C dX6_know_8 rfl ?_
      refine r_get C dX6_know_9 fgRX6_20 (Nat.le_of_ble_eq_true rfl) (ws_ne (Nat.ne_of_beq_eq_false rfl) ws_eq) rfl ?_
      refine r_icmp_ge C 33 dX6_know_12 (by decide) (fun c_12 => ?_) (fun c_12 => ?_)
      · skip
        have c_12 : ln ≤ k := (nI_leI (a := ln) (b := k) (by omega) (by omega)).mp c_12
        exact r_return C T_ rfl dX6_know_33 (⟨rfl, _, rfl, hs_pre (xs := hl) rfl (fun m hm => hp m (by omega)) (fun m hm => rfl)⟩)
      · skip
        have c_12 : ¬ (ln ≤ k) := fun h9 => c_12 ((nI_leI (a := ln) (b := k) (by omega) (by omega)).mpr h9)
        refine r_aload_n C dX6_know_15 rfl ?_
        refine r_get C dX6_know_16 fgRX6_41 (Nat.le_of_ble_eq_true rfl) (ws_ne (Nat.ne_of_beq_eq_false rfl) ws_eq) rfl ?_
        refine r_iload_n C dX6_know_19 rfl ?_
        refine r_aload_n C dX6_know_20 rfl ?_
        refine r_get C dX6_know_21 fgRX6_126 (Nat.le_of_ble_eq_true rfl) (ws_ne (Nat.ne_of_beq_eq_false rfl) ws_eq) rfl ?_
        refine r_iload_n C dX6_know_24 rfl ?_
        refine r_ialdN C dX6_know_25 (Nat.le_of_ble_eq_true rfl) (ws_ne (Nat.ne_of_beq_eq_false rfl) (ws_ne (Nat.ne_of_beq_eq_false rfl) w_50)) (j := k) rfl (by omega) (by decide) ?_
        refine r_top (y := nI (hl.getD k 0)) (h_hl _ (by omega)) ?_
        refine r_iastN C dX6_know_26 (Nat.le_of_ble_eq_true rfl) ws_eq (j := k) rfl (by omega) (by decide) ?_
        refine r_eq rfl rfl ws_same ?_
        refine r_iinc C dX6_know_27 (v := nI (k + 1)) (L' := [some (.ref 35), some (.int (nI (k + 1)))]) rfl (nI_add k 1) (by decide) rfl ?_
        refine r_goto C 7 dX6_know_30 (by decide) ?_
        exact ih_7 (k + 1) _ (by omega) (by omega) (up_lt hp rfl)
  refine r_eq rfl rfl (ws_self (ws_ne (Nat.ne_of_beq_eq_false rfl) w_43)).symm ?_
  exact loop_7 _ 0 _ (Nat.lt_succ_self _) (by omega) (fun m hm => absurd hm (Nat.not_lt_zero m))
