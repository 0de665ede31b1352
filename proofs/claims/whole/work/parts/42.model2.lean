set_option maxHeartbeats 4000000 in
set_option maxRecDepth 100000 in
theorem cX6_finish9 {w : Wo} {zs : List Nat} {fa sz rz rv ln pm lo ns os uz ik hsz : Int32} (w_35 : w 35 = mo fa sz rz rv ln pm lo ns os uz ik (nI zs.length) hsz) {fm : Nat → Int32} (w_44 : w 44 = ia 16512 fm) (h_zs : hs fm zs) (hz : zs.length ≤ 16440) {vA vB vC vD : Int32} (w_46 : w 46 = ia 4 (q4f vA vB vC vD)) {fd : Nat → Int32} (w_45 : w 45 = ia 16 fd) {fsn : Nat → Int32} (w_47 : w 47 = ia 64 fsn) (hsn : ∀ k, k < 64 → fsn k = tabf sinL k) {ftn : Nat → Int32} (w_48 : w 48 = ia 16 ftn) (htn : ∀ k, k < 16 → ftn k = tabf turL k) : Ctr mX6_finish [.ref 35] w (PV fun w' => ∃ fm' tA tB tC tD fd', w' = wset (wset (wset (wset (w) 44 (ia 16512 fm')) 35 (mo fa sz rz rv ln pm lo ns os uz ik (nI (([] : List Nat).length)) hsz)) 46 (ia 4 (q4f tA tB tC tD))) 45 (ia 16 fd') ∧ hs fd' (md5 zs)) := by
  refine Ctr_intro okX6_finish rfl (Nat.le_of_ble_eq_true rfl) (L := [some (.ref 35), none, none]) rfl (fun g ct C T_ => ?_)
  refine r_bipush C dX6_finish_0 (v := 8) (by decide) ?_
  refine r_aload_n C dX6_finish_2 rfl ?_
  refine r_get C dX6_finish_3 fgRX6_163 (Nat.le_of_ble_eq_true rfl) w_35 rfl ?_
  refine r_imul C dX6_finish_6 ?_
  refine r_top (y := nI (8 * zs.length)) (pk_mul 8 zs.length) ?_
  refine r_istore_n C dX6_finish_7 (L' := [some (.ref 35), some (.int (nI (8 * zs.length))), none]) (by decide) rfl ?_
  refine r_aload_n C dX6_finish_8 rfl ?_
  refine r_sipush C dX6_finish_9 (v := 128) (by decide) ?_
  refine r_callVv C (As := [.int 128]) (rest := []) dX6_finish_12 (cX6_say9 w_35 w_44 h_zs (x := 128) (y := 128) rfl (by omega)) okX6_say mlRX6_174 imX6_say seX6_say ⟨by decide, by decide⟩ rfl rfl (Nat.le_of_ble_eq_true rfl) w_35 rfl rfl (Nat.le_of_ble_eq_true rfl) (by decide) (by decide) (fun w9 h9 => ?_)
  obtain ⟨fm_1, rfl, h_2⟩ := h9
  have loop_15 : ∀ (d9 : Nat) (j : Nat) (z1 : List Nat) (fm1 : Nat → Int32), nz zs.length - j < d9 → j ≤ nz zs.length → z1 = (zs ++ [128]) ++ List.replicate j 0 → hs fm1 z1 → Az g mX6_finish ct 0 0 15 [some (.ref 35), some (.int (nI (8 * zs.length))), none] [] (wset (wset w 44 (ia 16512 fm1)) 35 (mo fa sz rz rv ln pm lo ns os uz ik (nI z1.length) hsz)) := by
    intro d9
    induction d9 with
    | zero => intro j z1 fm1 hd9; exact absurd hd9 (Nat.not_lt_zero _)
    | succ d9 ih_15 =>
      intro j z1 fm1 hd9 hj hz1 hf1
      have hl1 : z1.length = zs.length + 1 + j := by rw [hz1]; simp; omega
      have hnz : nz zs.length < 64 := by unfold nz; omega
      refine r_aload_n C dX6_finish_15 rfl ?_
      refine r_get C dX6_finish_16 fgRX6_163 (Nat.le_of_ble_eq_true rfl) ws_eq rfl ?_
      refine r_bipush C dX6_finish_19 (v := 64) (by decide) ?_
      refine r_irem C dX6_finish_21 (by decide) ?_
      refine r_top (y := nI (z1.length % 64)) (pk_rem (a := z1.length) (d := 64) (by omega) (by omega) (by omega)) ?_
      refine r_bipush C dX6_finish_22 (v := 56) (by decide) ?_
      refine r_icmp_eq C 35 dX6_finish_24 (by decide) (fun c_24 => ?_) (fun c_24 => ?_)
      · skip
        have c_24 : (z1.length % 64) = 56 := (nI_eq (a := z1.length % 64) (b := 56) (by omega) (by omega)).mp c_24
        have hjz : j = nz zs.length := by unfold nz at *; omega
        refine r_iconst C dX6_finish_35 (v := 0) (by decide) ?_
        refine r_istore_n C dX6_finish_36 (L' := [some (.ref 35), some (.int (nI (8 * zs.length))), some (.int 0)]) (by decide) rfl ?_
        have loop_37 : ∀ (d9 : Nat) (k : Nat) (z2 : List Nat) (fm2 : Nat → Int32), 8 - k < d9 → k ≤ 8 → z2 = ((zs ++ [128]) ++ List.replicate (nz zs.length) 0) ++ (List.range k).map (bitB zs.length) → hs fm2 z2 → Az g mX6_finish ct 0 0 37 [some (.ref 35), some (.int (nI (8 * zs.length))), some (.int (nI k))] [] (wset (wset w 44 (ia 16512 fm2)) 35 (mo fa sz rz rv ln pm lo ns os uz ik (nI z2.length) hsz)) := by
          intro d9
          induction d9 with
          | zero => intro k z2 fm2 hd9; exact absurd hd9 (Nat.not_lt_zero _)
          | succ d9 ih_37 =>
            intro k z2 fm2 hd9 hk hz2 hf2
            have hl2 : z2.length = zs.length + 1 + nz zs.length + k := by rw [hz2]; simp only [List.length_append, List.length_cons, List.length_nil, List.length_replicate, List.length_map, List.length_range]
            have hnz : nz zs.length < 64 := by unfold nz; omega
            refine r_iload_n C dX6_finish_37 rfl ?_
            refine r_bipush C dX6_finish_38 (v := 8) (by decide) ?_
            refine r_icmp_ge C 72 dX6_finish_40 (by decide) (fun c_40 => ?_) (fun c_40 => ?_)
            · skip
              have c_40 : 8 ≤ k := (nI_leI (a := 8) (b := k) (by omega) (by omega)).mp c_40
              have hpm : z2 = pmsg zs := by rw [hz2, show k = 8 by omega]; rfl
              subst hpm
              have hpl := pmsg_len zs
              have hnc : 64 * nch zs.length ≤ zs.length + 72 := by unfold nch; omega
              refine r_aload_n C dX6_finish_72 rfl ?_
              refine r_get C dX6_finish_73 fgRX6_50 (Nat.le_of_ble_eq_true rfl) ws_eq rfl ?_
              refine r_iconst C dX6_finish_76 (v := 0) (by decide) ?_
              refine r_ldc C dX6_finish_77 cnRX6_178 ?_
              refine r_iastN C dX6_finish_79 (Nat.le_of_ble_eq_true rfl) (ws_ne (Nat.ne_of_beq_eq_false rfl) (ws_ne (Nat.ne_of_beq_eq_false rfl) w_46)) (j := 0) rfl (by omega) (by decide) ?_
              rw [upd_q0]
              refine r_aload_n C dX6_finish_80 rfl ?_
              refine r_get C dX6_finish_81 fgRX6_50 (Nat.le_of_ble_eq_true rfl) (ws_ne (Nat.ne_of_beq_eq_false rfl) ws_eq) rfl ?_
              refine r_iconst C dX6_finish_84 (v := 1) (by decide) ?_
              refine r_ldc C dX6_finish_85 cnRX6_179 ?_
              refine r_iastN C dX6_finish_87 (Nat.le_of_ble_eq_true rfl) ws_eq (j := 1) rfl (by omega) (by decide) ?_
              refine r_eq rfl rfl ws_same ?_
              rw [upd_q1]
              refine r_aload_n C dX6_finish_88 rfl ?_
              refine r_get C dX6_finish_89 fgRX6_50 (Nat.le_of_ble_eq_true rfl) (ws_ne (Nat.ne_of_beq_eq_false rfl) ws_eq) rfl ?_
              refine r_iconst C dX6_finish_92 (v := 2) (by decide) ?_
              refine r_ldc C dX6_finish_93 cnRX6_180 ?_
              refine r_iastN C dX6_finish_95 (Nat.le_of_ble_eq_true rfl) ws_eq (j := 2) rfl (by omega) (by decide) ?_
              refine r_eq rfl rfl ws_same ?_
              rw [upd_q2]
              refine r_aload_n C dX6_finish_96 rfl ?_
              refine r_get C dX6_finish_97 fgRX6_50 (Nat.le_of_ble_eq_true rfl) (ws_ne (Nat.ne_of_beq_eq_false rfl) ws_eq) rfl ?_
              refine r_iconst C dX6_finish_100 (v := 3) (by decide) ?_
              refine r_ldc C dX6_finish_101 cnRX6_181 ?_
              refine r_iastN C dX6_finish_103 (Nat.le_of_ble_eq_true rfl) ws_eq (j := 3) rfl (by omega) (by decide) ?_
              refine r_eq rfl rfl ws_same ?_
              rw [upd_q3]
              refine r_iconst C dX6_finish_104 (v := 0) (by decide) ?_
              refine r_istore_n C dX6_finish_105 (L' := [some (.ref 35), some (.int (nI (8 * zs.length))), some (.int 0)]) (by decide) rfl ?_
              have loop_106 : ∀ (d9 : Nat) (c : Nat) (uA : Int32) (uB : Int32) (uC : Int32) (uD : Int32), nch zs.length - c < d9 → c ≤ nch zs.length → (uA, uB, uC, uD) = mdX zs c → Az g mX6_finish ct 0 0 106 [some (.ref 35), some (.int (nI (8 * zs.length))), some (.int (nI (64 * c)))] [] (wset (wset (wset w 44 (ia 16512 fm2)) 35 (mo fa sz rz rv ln pm lo ns os uz ik (nI ((pmsg zs).length)) hsz)) 46 (ia 4 (q4f uA uB uC uD))) := by
                intro d9
                induction d9 with
                | zero => intro c uA uB uC uD hd9; exact absurd hd9 (Nat.not_lt_zero _)
                | succ d9 ih_106 =>
                  intro c uA uB uC uD hd9 hc he
                  refine r_iload_n C dX6_finish_106 rfl ?_
                  refine r_aload_n C dX6_finish_107 rfl ?_
                  refine r_get C dX6_finish_108 fgRX6_163 (Nat.le_of_ble_eq_true rfl) (ws_ne (Nat.ne_of_beq_eq_false rfl) ws_eq) rfl ?_
                  refine r_icmp_ge C 125 dX6_finish_111 (by decide) (fun c_111 => ?_) (fun c_111 => ?_)
                  · skip
                    have c_111 : ((pmsg zs).length) ≤ (64 * c) := (nI_leI (a := (pmsg zs).length) (b := 64 * c) (by omega) (by omega)).mp c_111
                    have hmd : md5 zs = q4l (uA, uB, uC, uD) := by unfold md5; rw [he, show c = nch zs.length by omega]
                    refine r_iconst C dX6_finish_125 (v := 0) (by decide) ?_
                    refine r_istore_n C dX6_finish_126 (L' := [some (.ref 35), some (.int (nI (8 * zs.length))), some (.int 0)]) (by decide) rfl ?_
                    have loop_127 : ∀ (d9 : Nat) (k2 : Nat) (fd1 : Nat → Int32), 16 - k2 < d9 → k2 ≤ 16 → (∀ m, m < k2 → fd1 m = nI ((md5 zs).getD m 0)) → Az g mX6_finish ct 0 0 127 [some (.ref 35), some (.int (nI (8 * zs.length))), some (.int (nI k2))] [] (wset (wset (wset (wset w 44 (ia 16512 fm2)) 35 (mo fa sz rz rv ln pm lo ns os uz ik (nI ((pmsg zs).length)) hsz)) 46 (ia 4 (q4f uA uB uC uD))) 45 (ia 16 fd1)) := by
                      intro d9
                      induction d9 with
                      | zero => intro k2 fd1 hd9; exact absurd hd9 (Nat.not_lt_zero _)
                      | succ d9 ih_127 =>
                        intro k2 fd1 hd9 hk2 hd
                        refine r_iload_n C dX6_finish_127 rfl ?_
                        refine r_bipush C dX6_finish_128 (v := 16) (by decide) ?_
                        refine r_icmp_ge C 164 dX6_finish_130 (by decide) (fun c_130 => ?_) (fun c_130 => ?_)
                        · skip
                          have c_130 : 16 ≤ k2 := (nI_leI (a := 16) (b := k2) (by omega) (by omega)).mp c_130
                          refine r_aload_n C dX6_finish_164 rfl ?_
                          refine r_iconst C dX6_finish_165 (v := 0) (by decide) ?_
                          refine r_put C dX6_finish_166 fpRX6_163 (Nat.le_of_ble_eq_true rfl) (ws_ne (Nat.ne_of_beq_eq_false rfl) (ws_ne (Nat.ne_of_beq_eq_false rfl) ws_eq)) rfl rfl (Nat.le_of_ble_eq_true rfl) (fs' := [.int fa, .int sz, .ref 36, .int rz, .ref 37, .int rv, .int ln, .int pm, .int lo, .ref 38, .ref 39, .int ns, .ref 40, .int os, .ref 41, .int uz, .ref 42, .int ik, .ref 43, .int 0, .ref 44, .ref 45, .ref 46, .ref 47, .ref 48, .ref 49, .int hsz, .ref 50, .ref 51, .ref 52, .ref 53, .ref 54, .ref 55, .ref 56, .ref 57, .ref 58]) rfl ?_
                          refine r_eq rfl rfl ((ws_comm (Nat.ne_of_beq_eq_false rfl)).trans (congrArg (fun z => wset z 45 (ia 16 fd1)) ((ws_comm (Nat.ne_of_beq_eq_false rfl)).trans (congrArg (fun z => wset z 46 (ia 4 (q4f uA uB uC uD))) ws_same)))) ?_
                          exact r_return C T_ rfl dX6_finish_169 (⟨rfl, _, _, _, _, _, _, rfl, hs_pre (xs := md5 zs) rfl (fun m hm => hd m (by rw [md5_len] at hm; omega)) (fun m hm => rfl)⟩)
                        · skip
                          have c_130 : ¬ (16 ≤ k2) := fun h9 => c_130 ((nI_leI (a := 16) (b := k2) (by omega) (by omega)).mpr h9)
                          refine r_aload_n C dX6_finish_133 rfl ?_
                          refine r_get C dX6_finish_134 fgRX6_47 (Nat.le_of_ble_eq_true rfl) (ws_ne (Nat.ne_of_beq_eq_false rfl) (ws_ne (Nat.ne_of_beq_eq_false rfl) ws_eq)) rfl ?_
                          refine r_iload_n C dX6_finish_137 rfl ?_
                          refine r_aload_n C dX6_finish_138 rfl ?_
                          refine r_get C dX6_finish_139 fgRX6_50 (Nat.le_of_ble_eq_true rfl) (ws_ne (Nat.ne_of_beq_eq_false rfl) (ws_ne (Nat.ne_of_beq_eq_false rfl) ws_eq)) rfl ?_
                          refine r_iload_n C dX6_finish_142 rfl ?_
                          refine r_iconst C dX6_finish_143 (v := 4) (by decide) ?_
                          refine r_idiv C dX6_finish_144 (by decide) ?_
                          refine r_top (y := nI (k2 / 4)) (pk_div (a := k2) (d := 4) (by omega) (by omega) (by omega)) ?_
                          refine r_ialdN C dX6_finish_145 (Nat.le_of_ble_eq_true rfl) (ws_ne (Nat.ne_of_beq_eq_false rfl) ws_eq) (j := k2 / 4) rfl (by omega) (by decide) ?_
                          refine r_bipush C dX6_finish_146 (v := 8) (by decide) ?_
                          refine r_iload_n C dX6_finish_148 rfl ?_
                          refine r_iconst C dX6_finish_149 (v := 4) (by decide) ?_
                          refine r_irem C dX6_finish_150 (by decide) ?_
                          refine r_top (y := nI (k2 % 4)) (pk_rem (a := k2) (d := 4) (by omega) (by omega) (by omega)) ?_
                          refine r_imul C dX6_finish_151 ?_
                          refine r_top (y := nI (8 * (k2 % 4))) (pk_mul 8 (k2 % 4)) ?_
                          refine r_ishr C dX6_finish_152 ?_
                          refine r_sipush C dX6_finish_153 (v := 255) (by decide) ?_
                          refine r_iand C dX6_finish_156 ?_
                          refine r_top (y := nI (byj (q4f uA uB uC uD (k2 / 4)) (k2 % 4))) (shr_and _ (by omega)) ?_
                          refine r_iastN C dX6_finish_157 (Nat.le_of_ble_eq_true rfl) ws_eq (j := k2) rfl (by omega) (by decide) ?_
                          refine r_eq rfl rfl ws_same ?_
                          refine r_iinc C dX6_finish_158 (v := nI (k2 + 1)) (L' := [some (.ref 35), some (.int (nI (8 * zs.length))), some (.int (nI (k2 + 1)))]) rfl (nI_add k2 1) (by decide) rfl ?_
                          refine r_goto C 127 dX6_finish_161 (by decide) ?_
                          exact ih_127 (k2 + 1) _ (by omega) (by omega) (up_lt hd (by rw [hmd, q4l_at _ _ _ _ (by omega)]))
                    refine r_eq rfl rfl (ws_self (ws_ne (Nat.ne_of_beq_eq_false rfl) (ws_ne (Nat.ne_of_beq_eq_false rfl) (ws_ne (Nat.ne_of_beq_eq_false rfl) w_45)))).symm ?_
                    exact loop_127 _ 0 _ (Nat.lt_succ_self _) (by omega) (fun m hm => absurd hm (Nat.not_lt_zero m))
                  · skip
                    have c_111 : ¬ (((pmsg zs).length) ≤ (64 * c)) := fun h9 => c_111 ((nI_leI (a := (pmsg zs).length) (b := 64 * c) (by omega) (by omega)).mpr h9)
                    refine r_aload_n C dX6_finish_114 rfl ?_
                    refine r_iload_n C dX6_finish_115 rfl ?_
                    refine r_callVv C (As := [.int (nI (64 * c))]) (rest := []) dX6_finish_116 (cX6_digestBlock9 (ws_ne (Nat.ne_of_beq_eq_false rfl) ws_eq) (ws_ne (Nat.ne_of_beq_eq_false rfl) (ws_ne (Nat.ne_of_beq_eq_false rfl) ws_eq)) hf2 (by omega) ws_eq (ws_ne (Nat.ne_of_beq_eq_false rfl) (ws_ne (Nat.ne_of_beq_eq_false rfl) (ws_ne (Nat.ne_of_beq_eq_false rfl) w_47))) hsn (ws_ne (Nat.ne_of_beq_eq_false rfl) (ws_ne (Nat.ne_of_beq_eq_false rfl) (ws_ne (Nat.ne_of_beq_eq_false rfl) w_48))) htn (q := 64 * c) (by omega)) okX6_digestBlock mlRX6_182 imX6_digestBlock seX6_digestBlock ⟨by decide, by decide⟩ rfl rfl (Nat.le_of_ble_eq_true rfl) (ws_ne (Nat.ne_of_beq_eq_false rfl) ws_eq) rfl rfl (Nat.le_of_ble_eq_true rfl) (by decide) (by decide) (fun w9 h9 => ?_)
                    obtain rfl := h9
                    refine r_eq rfl rfl ws_same ?_
                    refine r_iinc C dX6_finish_119 (v := nI (64 * (c + 1))) (L' := [some (.ref 35), some (.int (nI (8 * zs.length))), some (.int (nI (64 * (c + 1))))]) rfl ((nI_add (64 * c) 64).trans (congrArg nI (by omega))) (by decide) rfl ?_
                    refine r_goto C 106 dX6_finish_122 (by decide) ?_
                    exact ih_106 (c + 1) ((mdC (fun j => le4 (fun k => (pmsg zs).getD k 0) (64 * c + 4 * j)) (uA, uB, uC, uD)).1) ((mdC (fun j => le4 (fun k => (pmsg zs).getD k 0) (64 * c + 4 * j)) (uA, uB, uC, uD)).2.1) ((mdC (fun j => le4 (fun k => (pmsg zs).getD k 0) (64 * c + 4 * j)) (uA, uB, uC, uD)).2.2.1) ((mdC (fun j => le4 (fun k => (pmsg zs).getD k 0) (64 * c + 4 * j)) (uA, uB, uC, uD)).2.2.2) (by omega) (by omega) (by show mdC _ _ = mdC (mdW zs c) (mdX zs c); rw [← he]; exact mdC_congr (fun j hj => md_word zs (by omega) (by omega) hj) _)
              exact loop_106 _ 0 1732584193 (-271733879) (-1732584194) 271733878 (Nat.lt_succ_self _) (Nat.zero_le _) rfl
            · skip
              have c_40 : ¬ (8 ≤ k) := fun h9 => c_40 ((nI_leI (a := 8) (b := k) (by omega) (by omega)).mpr h9)
              refine r_aload_n C dX6_finish_43 rfl ?_
              refine r_iload_n C dX6_finish_44 rfl ?_
              refine r_iconst C dX6_finish_45 (v := 4) (by decide) ?_
              refine r_icmp_ge C 62 dX6_finish_46 (by decide) (fun c_46 => ?_) (fun c_46 => ?_)
              · skip
                have c_46 : 4 ≤ k := (nI_leI (a := 4) (b := k) (by omega) (by omega)).mp c_46
                refine r_iconst C dX6_finish_62 (v := 0) (by decide) ?_
                refine r_callVv C (As := [.int 0]) (rest := []) dX6_finish_63 (cX6_say9 ws_eq (ws_ne (Nat.ne_of_beq_eq_false rfl) ws_eq) hf2 (x := 0) (y := bitB zs.length k) (by unfold bitB; rw [if_neg (by omega)]; rfl) (by subst hz2; simp only [List.length_append, List.length_cons, List.length_nil, List.length_replicate, List.length_map, List.length_range] at *; unfold nz at *; omega)) okX6_say mlRX6_174 imX6_say seX6_say ⟨by decide, by decide⟩ rfl rfl (Nat.le_of_ble_eq_true rfl) ws_eq rfl rfl (Nat.le_of_ble_eq_true rfl) (by decide) (by decide) (fun w9 h9 => ?_)
                obtain ⟨fm_3, rfl, h_4⟩ := h9
                refine r_eq rfl rfl ((congrArg (fun z => wset (z) 35 (mo fa sz rz rv ln pm lo ns os uz ik (nI ((z2 ++ [bitB zs.length k]).length)) hsz)) ((ws_comm (Nat.ne_of_beq_eq_false rfl)).trans (congrArg (fun z => wset z 35 (mo fa sz rz rv ln pm lo ns os uz ik (nI z2.length) hsz)) ws_same))).trans ws_same) ?_
                refine r_iinc C dX6_finish_66 (v := nI (k + 1)) (L' := [some (.ref 35), some (.int (nI (8 * zs.length))), some (.int (nI (k + 1)))]) rfl (nI_add k 1) (by decide) rfl ?_
                refine r_goto C 37 dX6_finish_69 (by decide) ?_
                exact ih_37 (k + 1) _ _ (by omega) (by omega) (by rw [hz2, List.range_succ]; simp) h_4
              · skip
                have c_46 : ¬ (4 ≤ k) := fun h9 => c_46 ((nI_leI (a := 4) (b := k) (by omega) (by omega)).mpr h9)
                refine r_iload_n C dX6_finish_49 rfl ?_
                refine r_bipush C dX6_finish_50 (v := 8) (by decide) ?_
                refine r_iload_n C dX6_finish_52 rfl ?_
                refine r_imul C dX6_finish_53 ?_
                refine r_top (y := nI (8 * k)) (pk_mul 8 k) ?_
                refine r_ishr C dX6_finish_54 ?_
                refine r_top (y := nI (8 * zs.length / 2 ^ (8 * k))) (pk_shrN (by omega) _ (8 * k) (sh8s k (by omega))) ?_
                refine r_sipush C dX6_finish_55 (v := 255) (by decide) ?_
                refine r_iand C dX6_finish_58 ?_
                refine r_top (y := nI (8 * zs.length / 2 ^ (8 * k) % 256)) (pk_andN (Nat.lt_of_le_of_lt (Nat.div_le_self _ _) (by omega)) 8 rfl) ?_
                refine r_goto C 63 dX6_finish_59 (by decide) ?_
                refine r_callVv C (As := [.int (nI (8 * zs.length / 2 ^ (8 * k) % 256))]) (rest := []) dX6_finish_63 (cX6_say9 ws_eq (ws_ne (Nat.ne_of_beq_eq_false rfl) ws_eq) hf2 (x := nI (8 * zs.length / 2 ^ (8 * k) % 256)) (y := bitB zs.length k) (by unfold bitB; rw [if_pos (by omega)]) (by subst hz2; simp only [List.length_append, List.length_cons, List.length_nil, List.length_replicate, List.length_map, List.length_range] at *; unfold nz at *; omega)) okX6_say mlRX6_174 imX6_say seX6_say ⟨by decide, by decide⟩ rfl rfl (Nat.le_of_ble_eq_true rfl) ws_eq rfl rfl (Nat.le_of_ble_eq_true rfl) (by decide) (by decide) (fun w9 h9 => ?_)
                obtain ⟨fm_5, rfl, h_6⟩ := h9
                refine r_eq rfl rfl ((congrArg (fun z => wset (z) 35 (mo fa sz rz rv ln pm lo ns os uz ik (nI ((z2 ++ [bitB zs.length k]).length)) hsz)) ((ws_comm (Nat.ne_of_beq_eq_false rfl)).trans (congrArg (fun z => wset z 35 (mo fa sz rz rv ln pm lo ns os uz ik (nI z2.length) hsz)) ws_same))).trans ws_same) ?_
                refine r_iinc C dX6_finish_66 (v := nI (k + 1)) (L' := [some (.ref 35), some (.int (nI (8 * zs.length))), some (.int (nI (k + 1)))]) rfl (nI_add k 1) (by decide) rfl ?_
                refine r_goto C 37 dX6_finish_69 (by decide) ?_
                exact ih_37 (k + 1) _ _ (by omega) (by omega) (by rw [hz2, List.range_succ]; simp) h_6
        exact loop_37 _ 0 _ _ (Nat.lt_succ_self _) (by omega) (by rw [hz1, show j = nz zs.length by unfold nz at *; omega]; simp) hf1
      · skip
        have c_24 : ¬ ((z1.length % 64) = 56) := fun h9 => c_24 ((nI_eq (a := z1.length % 64) (b := 56) (by omega) (by omega)).mpr h9)
        refine r_aload_n C dX6_finish_27 rfl ?_
        refine r_iconst C dX6_finish_28 (v := 0) (by decide) ?_
        refine r_callVv C (As := [.int 0]) (rest := []) dX6_finish_29 (cX6_say9 ws_eq (ws_ne (Nat.ne_of_beq_eq_false rfl) ws_eq) hf1 (x := 0) (y := 0) rfl (by subst hz1; simp only [List.length_append, List.length_cons, List.length_nil, List.length_replicate, List.length_map, List.length_range] at *; unfold nz at *; omega)) okX6_say mlRX6_174 imX6_say seX6_say ⟨by decide, by decide⟩ rfl rfl (Nat.le_of_ble_eq_true rfl) ws_eq rfl rfl (Nat.le_of_ble_eq_true rfl) (by decide) (by decide) (fun w9 h9 => ?_)
        obtain ⟨fm_7, rfl, h_8⟩ := h9
        refine r_eq rfl rfl ((congrArg (fun z => wset (z) 35 (mo fa sz rz rv ln pm lo ns os uz ik (nI ((z1 ++ [0]).length)) hsz)) ((ws_comm (Nat.ne_of_beq_eq_false rfl)).trans (congrArg (fun z => wset z 35 (mo fa sz rz rv ln pm lo ns os uz ik (nI z1.length) hsz)) ws_same))).trans ws_same) ?_
        refine r_goto C 15 dX6_finish_32 (by decide) ?_
        exact ih_15 (j + 1) _ _ (by unfold nz at *; omega) (by unfold nz at *; omega) (by rw [hz1, rep_push]) h_8
  exact loop_15 _ 0 _ _ (Nat.lt_succ_self _) (Nat.zero_le _) (by simp) h_2
set_option maxHeartbeats 4000000 in
set_option maxRecDepth 100000 in
theorem cX6_again9 {w : Wo} {dl : List Nat} {fa sz rz rv ln pm lo ns os uz ik hsz : Int32} (w_35 : w 35 = mo fa sz rz rv ln pm lo ns os uz ik (nI (([] : List Nat).length)) hsz) {fm : Nat → Int32} (w_44 : w 44 = ia 16512 fm) {vA vB vC vD : Int32} (w_46 : w 46 = ia 4 (q4f vA vB vC vD)) {fd : Nat → Int32} (w_45 : w 45 = ia 16 fd) {fsn : Nat → Int32} (w_47 : w 47 = ia 64 fsn) (hsn : ∀ k, k < 64 → fsn k = tabf sinL k) {ftn : Nat → Int32} (w_48 : w 48 = ia 16 ftn) (htn : ∀ k, k < 16 → ftn k = tabf turL k) (h_dl : hs fd dl) (hdl : dl.length = 16) (hdb : byt dl) {tt mm : Nat} (htt : tt ≤ 50) (hmm : mm ≤ 16) : Ctr mX6_again [.ref 35, .int (nI tt), .int (nI mm)] w (PV fun w' => ∃ fm' tA tB tC tD fd', w' = wset (wset (wset (wset (w) 44 (ia 16512 fm')) 35 (mo fa sz rz rv ln pm lo ns os uz ik (nI (([] : List Nat).length)) hsz)) 46 (ia 4 (q4f tA tB tC tD))) 45 (ia 16 fd') ∧ hs fd' (again mm tt dl)) := by
  refine Ctr_intro okX6_again rfl (Nat.le_of_ble_eq_true rfl) (L := [some (.ref 35), some (.int (nI tt)), some (.int (nI mm)), none, none]) rfl (fun g ct C T_ => ?_)
  refine r_iconst C dX6_again_0 (v := 0) (by decide) ?_
  refine r_istore_n C dX6_again_1 (L' := [some (.ref 35), some (.int (nI tt)), some (.int (nI mm)), some (.int 0), none]) (by decide) rfl ?_
  have loop_2 : ∀ (d9 : Nat) (t : Nat) (d1 : List Nat) (fm1 : Nat → Int32) (fd1 : Nat → Int32) (uA : Int32) (uB : Int32) (uC : Int32) (uD : Int32), tt - t < d9 → t ≤ tt → d1 = again mm t dl → hs fd1 d1 → Az g mX6_again ct 0 0 2 [some (.ref 35), some (.int (nI tt)), some (.int (nI mm)), some (.int (nI t)), none] [] (wset (wset (wset (wset w 44 (ia 16512 fm1)) 35 (mo fa sz rz rv ln pm lo ns os uz ik (nI (([] : List Nat).length)) hsz)) 46 (ia 4 (q4f uA uB uC uD))) 45 (ia 16 fd1)) := by
    intro d9
    induction d9 with
    | zero => intro t d1 fm1 fd1 uA uB uC uD hd9; exact absurd hd9 (Nat.not_lt_zero _)
    | succ d9 ih_2 =>
      intro t d1 fm1 fd1 uA uB uC uD hd9 ht hd1 hfd
      have hd1l : d1.length = 16 := by rw [hd1]; exact again_len hdl t
      refine r_iload_n C dX6_again_2 rfl ?_
      refine r_iload_n C dX6_again_3 rfl ?_
      refine r_icmp_ge C 43 dX6_again_4 (by decide) (fun c_4 => ?_) (fun c_4 => ?_)
      · skip
        have c_4 : tt ≤ t := (nI_leI (a := tt) (b := t) (by omega) (by omega)).mp c_4
        exact r_return C T_ rfl dX6_again_43 (⟨rfl, _, _, _, _, _, _, rfl, by rw [hd1, show t = tt by omega] at hfd; exact hfd⟩)
      · skip
        have c_4 : ¬ (tt ≤ t) := fun h9 => c_4 ((nI_leI (a := tt) (b := t) (by omega) (by omega)).mpr h9)
        refine r_iconst C dX6_again_7 (v := 0) (by decide) ?_
        refine r_istore C dX6_again_8 (L' := [some (.ref 35), some (.int (nI tt)), some (.int (nI mm)), some (.int (nI t)), some (.int 0)]) (by decide) rfl ?_
        have loop_10 : ∀ (d9 : Nat) (k : Nat) (z1 : List Nat) (fm2 : Nat → Int32), mm - k < d9 → k ≤ mm → z1 = d1.take k → hs fm2 z1 → Az g mX6_again ct 0 0 10 [some (.ref 35), some (.int (nI tt)), some (.int (nI mm)), some (.int (nI t)), some (.int (nI k))] [] (wset (wset (wset (wset w 44 (ia 16512 fm2)) 35 (mo fa sz rz rv ln pm lo ns os uz ik (nI z1.length) hsz)) 46 (ia 4 (q4f uA uB uC uD))) 45 (ia 16 fd1)) := by
          intro d9
          induction d9 with
          | zero => intro k z1 fm2 hd9; exact absurd hd9 (Nat.not_lt_zero _)
          | succ d9 ih_10 =>
            intro k z1 fm2 hd9 hk hz1 hfm
            have hz1l : z1.length = k := by rw [hz1, List.length_take]; omega
            refine r_iload C dX6_again_10 rfl ?_
            refine r_iload_n C dX6_again_12 rfl ?_
            refine r_icmp_ge C 33 dX6_again_13 (by decide) (fun c_13 => ?_) (fun c_13 => ?_)
            · skip
              have c_13 : mm ≤ k := (nI_leI (a := mm) (b := k) (by omega) (by omega)).mp c_13
              have hzt : z1 = d1.take mm := by rw [hz1, show k = mm by omega]
              subst hzt
              refine r_aload_n C dX6_again_33 rfl ?_
              refine r_callVv C (As := []) (rest := []) dX6_again_34 (cX6_finish9 (ws_ne (Nat.ne_of_beq_eq_false rfl) (ws_ne (Nat.ne_of_beq_eq_false rfl) ws_eq)) (ws_ne (Nat.ne_of_beq_eq_false rfl) (ws_ne (Nat.ne_of_beq_eq_false rfl) (ws_ne (Nat.ne_of_beq_eq_false rfl) ws_eq))) hfm (by rw [List.length_take]; omega) (ws_ne (Nat.ne_of_beq_eq_false rfl) ws_eq) ws_eq (ws_ne (Nat.ne_of_beq_eq_false rfl) (ws_ne (Nat.ne_of_beq_eq_false rfl) (ws_ne (Nat.ne_of_beq_eq_false rfl) (ws_ne (Nat.ne_of_beq_eq_false rfl) w_47)))) hsn (ws_ne (Nat.ne_of_beq_eq_false rfl) (ws_ne (Nat.ne_of_beq_eq_false rfl) (ws_ne (Nat.ne_of_beq_eq_false rfl) (ws_ne (Nat.ne_of_beq_eq_false rfl) w_48)))) htn) okX6_finish mlRX6_185 imX6_finish seX6_finish ⟨by decide, by decide⟩ rfl rfl (Nat.le_of_ble_eq_true rfl) (ws_ne (Nat.ne_of_beq_eq_false rfl) (ws_ne (Nat.ne_of_beq_eq_false rfl) ws_eq)) rfl rfl (Nat.le_of_ble_eq_true rfl) (by decide) (by decide) (fun w9 h9 => ?_)
              obtain ⟨fm_1, t_2, t_3, t_4, t_5, fd_6, rfl, h_7⟩ := h9
              refine r_eq rfl rfl ((((congrArg (fun z => wset (wset (wset (z) 35 (mo fa sz rz rv ln pm lo ns os uz ik (nI (([] : List Nat).length)) hsz)) 46 (ia 4 (q4f t_2 t_3 t_4 t_5))) 45 (ia 16 fd_6)) ((ws_comm (Nat.ne_of_beq_eq_false rfl)).trans (congrArg (fun z => wset z 45 (ia 16 fd1)) ((ws_comm (Nat.ne_of_beq_eq_false rfl)).trans (congrArg (fun z => wset z 46 (ia 4 (q4f uA uB uC uD))) ((ws_comm (Nat.ne_of_beq_eq_false rfl)).trans (congrArg (fun z => wset z 35 (mo fa sz rz rv ln pm lo ns os uz ik (nI ((d1.take mm).length)) hsz)) ws_same))))))).trans (congrArg (fun z => wset (wset (z) 46 (ia 4 (q4f t_2 t_3 t_4 t_5))) 45 (ia 16 fd_6)) ((ws_comm (Nat.ne_of_beq_eq_false rfl)).trans (congrArg (fun z => wset z 45 (ia 16 fd1)) ((ws_comm (Nat.ne_of_beq_eq_false rfl)).trans (congrArg (fun z => wset z 46 (ia 4 (q4f uA uB uC uD))) ws_same)))))).trans (congrArg (fun z => wset (z) 45 (ia 16 fd_6)) ((ws_comm (Nat.ne_of_beq_eq_false rfl)).trans (congrArg (fun z => wset z 45 (ia 16 fd1)) ws_same)))).trans ws_same) ?_
              refine r_iinc C dX6_again_37 (v := nI (t + 1)) (L' := [some (.ref 35), some (.int (nI tt)), some (.int (nI mm)), some (.int (nI (t + 1))), some (.int (nI k))]) rfl (nI_add t 1) (by decide) rfl ?_
              refine r_goto C 2 dX6_again_40 (by decide) ?_
              refine r_forget [some (.ref 35), some (.int (nI tt)), some (.int (nI mm)), some (.int (nI (t + 1))), none] ⟨Or.inr rfl, Or.inr rfl, Or.inr rfl, Or.inr rfl, Or.inl rfl, trivial⟩ ?_
              exact ih_2 (t + 1) _ _ _ _ _ _ _ (by omega) (by omega) (by rw [hd1, again]) h_7
            · skip
              have c_13 : ¬ (mm ≤ k) := fun h9 => c_13 ((nI_leI (a := mm) (b := k) (by omega) (by omega)).mpr h9)
              refine r_aload_n C dX6_again_16 rfl ?_
              refine r_aload_n C dX6_again_17 rfl ?_
              refine r_get C dX6_again_18 fgRX6_47 (Nat.le_of_ble_eq_true rfl) (ws_ne (Nat.ne_of_beq_eq_false rfl) (ws_ne (Nat.ne_of_beq_eq_false rfl) ws_eq)) rfl ?_
              refine r_iload C dX6_again_21 rfl ?_
              refine r_ialdN C dX6_again_23 (Nat.le_of_ble_eq_true rfl) ws_eq (j := k) rfl (by omega) (by decide) ?_
              refine r_top (y := nI (d1.getD k 0)) (hfd k (by omega)) ?_
              refine r_callVv C (As := [.int (nI (d1.getD k 0))]) (rest := []) dX6_again_24 (cX6_say9 (ws_ne (Nat.ne_of_beq_eq_false rfl) (ws_ne (Nat.ne_of_beq_eq_false rfl) ws_eq)) (ws_ne (Nat.ne_of_beq_eq_false rfl) (ws_ne (Nat.ne_of_beq_eq_false rfl) (ws_ne (Nat.ne_of_beq_eq_false rfl) ws_eq))) hfm (x := nI (d1.getD k 0)) (y := d1.getD k 0) rfl (by omega)) okX6_say mlRX6_174 imX6_say seX6_say ⟨by decide, by decide⟩ rfl rfl (Nat.le_of_ble_eq_true rfl) (ws_ne (Nat.ne_of_beq_eq_false rfl) (ws_ne (Nat.ne_of_beq_eq_false rfl) ws_eq)) rfl rfl (Nat.le_of_ble_eq_true rfl) (by decide) (by decide) (fun w9 h9 => ?_)
              obtain ⟨fm_8, rfl, h_9⟩ := h9
              refine r_eq rfl rfl ((congrArg (fun z => wset (z) 35 (mo fa sz rz rv ln pm lo ns os uz ik (nI ((z1 ++ [d1.getD k 0]).length)) hsz)) ((ws_comm (Nat.ne_of_beq_eq_false rfl)).trans (congrArg (fun z => wset z 45 (ia 16 fd1)) ((ws_comm (Nat.ne_of_beq_eq_false rfl)).trans (congrArg (fun z => wset z 46 (ia 4 (q4f uA uB uC uD))) ((ws_comm (Nat.ne_of_beq_eq_false rfl)).trans (congrArg (fun z => wset z 35 (mo fa sz rz rv ln pm lo ns os uz ik (nI z1.length) hsz)) ws_same))))))).trans ((ws_comm (Nat.ne_of_beq_eq_false rfl)).trans (congrArg (fun z => wset z 45 (ia 16 fd1)) ((ws_comm (Nat.ne_of_beq_eq_false rfl)).trans (congrArg (fun z => wset z 46 (ia 4 (q4f uA uB uC uD))) ws_same))))) ?_
              refine r_iinc C dX6_again_27 (v := nI (k + 1)) (L' := [some (.ref 35), some (.int (nI tt)), some (.int (nI mm)), some (.int (nI t)), some (.int (nI (k + 1)))]) rfl (nI_add k 1) (by decide) rfl ?_
              refine r_goto C 10 dX6_again_30 (by decide) ?_
              exact ih_10 (k + 1) _ _ (by omega) (by omega) (by rw [hz1, take_push (by omega)]) h_9
        exact loop_10 _ 0 _ _ (Nat.lt_succ_self _) (by omega) (by simp) (hs_nil _)
  refine r_eq rfl rfl (ws_self w_44).symm ?_
  refine r_eq rfl rfl (ws_self (ws_ne (Nat.ne_of_beq_eq_false rfl) w_35)).symm ?_
  refine r_eq rfl rfl (ws_self (ws_ne (Nat.ne_of_beq_eq_false rfl) (ws_ne (Nat.ne_of_beq_eq_false rfl) w_46))).symm ?_
  refine r_eq rfl rfl (ws_self (ws_ne (Nat.ne_of_beq_eq_false rfl) (ws_ne (Nat.ne_of_beq_eq_false rfl) (ws_ne (Nat.ne_of_beq_eq_false rfl) w_45)))).symm ?_
  exact loop_2 _ 0 _ _ _ _ _ _ _ (Nat.lt_succ_self _) (by omega) rfl h_dl
theorem hs_tk {f : Nat → Int32} {dl : List Nat} {k : Nat} (h : ∀ m, m < k → f m = nI (dl.getD m 0)) : hs f (dl.take k) := fun m hm => by
  rw [List.length_take] at hm
  rw [h m (by omega)]
  simp [List.getD, List.getElem?_take_of_lt (show m < k by omega)]
set_option maxHeartbeats 4000000 in
set_option maxRecDepth 100000 in
theorem cX6_takeHand9 {w : Wo} {dl : List Nat} {fa sz rz rv ln pm lo ns os uz ik ms hsz : Int32} (w_35 : w 35 = mo fa sz rz rv ln pm lo ns os uz ik ms hsz) {fd : Nat → Int32} (w_45 : w 45 = ia 16 fd) (h_dl : hs fd dl) {fh : Nat → Int32} (w_50 : w 50 = ia 16 fh) {mm : Nat} (hmm : mm ≤ 16) (hml : mm ≤ dl.length) : Ctr mX6_takeHand [.ref 35, .int (nI mm)] w (PV fun w' => ∃ fh', w' = wset (wset (w) 35 (mo fa sz rz rv ln pm lo ns os uz ik ms (nI ((dl.take mm).length)))) 50 (ia 16 fh') ∧ hs fh' (dl.take mm)) := by
  refine Ctr_intro okX6_takeHand rfl (Nat.le_of_ble_eq_true rfl) (L := [some (.ref 35), some (.int (nI mm)), none]) rfl (fun g ct C T_ => ?_)
  refine r_aload_n C dX6_takeHand_0 rfl ?_
  refine r_iload_n C dX6_takeHand_1 rfl ?_
  refine r_put C dX6_takeHand_2 fpRX6_188 (Nat.le_of_ble_eq_true rfl) w_35 rfl rfl (Nat.le_of_ble_eq_true rfl) (fs' := [.int fa, .int sz, .ref 36, .int rz, .ref 37, .int rv, .int ln, .int pm, .int lo, .ref 38, .ref 39, .int ns, .ref 40, .int os, .ref 41, .int uz, .ref 42, .int ik, .ref 43, .int ms, .ref 44, .ref 45, .ref 46, .ref 47, .ref 48, .ref 49, .int (nI mm), .ref 50, .ref 51, .ref 52, .ref 53, .ref 54, .ref 55, .ref 56, .ref 57, .ref 58]) rfl ?_
  refine r_iconst C dX6_takeHand_5 (v := 0) (by decide) ?_
  refine r_istore_n C dX6_takeHand_6 (L' := [some (.ref 35), some (.int (nI mm)), some (.int 0)]) (by decide) rfl ?_
  have loop_7 : ∀ (d9 : Nat) (k : Nat) (f1 : Nat → Int32), mm - k < d9 → k ≤ mm → (∀ m, m < k → f1 m = nI (dl.getD m 0)) → Az g mX6_takeHand ct 0 0 7 [some (.ref 35), some (.int (nI mm)), some (.int (nI k))] [] (wset (wset w 35 (mo fa sz rz rv ln pm lo ns os uz ik ms (nI mm))) 50 (ia 16 f1)) := by
    intro d9
    induction d9 with
    | zero => intro k f1 hd9; exact absurd hd9 (Nat.not_lt_zero _)
    | succ d9 ih_7 =>
      intro k f1 hd9 hk hp
      refine r_iload_n C dX6_takeHand_7 rfl ?_
      refine r_iload_n C dX6_takeHand_8 rfl ?_
      refine r_icmp_ge C 30 dX6_takeHand_9 (by decide) (fun c_9 => ?_) (fun c_9 => ?_)
      · skip
        have c_9 : mm ≤ k := (nI_leI (a := mm) (b := k) (by omega) (by omega)).mp c_9
        exact r_return C T_ rfl dX6_takeHand_30 (⟨rfl, _, by rw [List.length_take, Nat.min_eq_left hml], by have := hs_tk hp; rw [show k = mm by omega] at this; exact this⟩)
      · skip
        have c_9 : ¬ (mm ≤ k) := fun h9 => c_9 ((nI_leI (a := mm) (b := k) (by omega) (by omega)).mpr h9)
        refine r_aload_n C dX6_takeHand_12 rfl ?_
        refine r_get C dX6_takeHand_13 fgRX6_126 (Nat.le_of_ble_eq_true rfl) (ws_ne (Nat.ne_of_beq_eq_false rfl) ws_eq) rfl ?_
        refine r_iload_n C dX6_takeHand_16 rfl ?_
        refine r_aload_n C dX6_takeHand_17 rfl ?_
        refine r_get C dX6_takeHand_18 fgRX6_47 (Nat.le_of_ble_eq_true rfl) (ws_ne (Nat.ne_of_beq_eq_false rfl) ws_eq) rfl ?_
        refine r_iload_n C dX6_takeHand_21 rfl ?_
        refine r_ialdN C dX6_takeHand_22 (Nat.le_of_ble_eq_true rfl) (ws_ne (Nat.ne_of_beq_eq_false rfl) (ws_ne (Nat.ne_of_beq_eq_false rfl) w_45)) (j := k) rfl (by omega) (by decide) ?_
        refine r_top (y := nI (dl.getD k 0)) (h_dl k (by omega)) ?_
        refine r_iastN C dX6_takeHand_23 (Nat.le_of_ble_eq_true rfl) ws_eq (j := k) rfl (by omega) (by decide) ?_
        refine r_eq rfl rfl ws_same ?_
        refine r_iinc C dX6_takeHand_24 (v := nI (k + 1)) (L' := [some (.ref 35), some (.int (nI mm)), some (.int (nI (k + 1)))]) rfl (nI_add k 1) (by decide) rfl ?_
        refine r_goto C 7 dX6_takeHand_27 (by decide) ?_
        exact ih_7 (k + 1) _ (by omega) (by omega) (up_lt hp rfl)
  refine r_eq rfl rfl (ws_self (ws_ne (Nat.ne_of_beq_eq_false rfl) w_50)).symm ?_
  exact loop_7 _ 0 _ (Nat.lt_succ_self _) (by omega) (fun m hm => absurd hm (Nat.not_lt_zero m))
