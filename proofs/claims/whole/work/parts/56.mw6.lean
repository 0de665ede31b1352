set_option maxHeartbeats 4000000 in
set_option maxRecDepth 100000 in
theorem cX6_undoBlocks9 {w : Wo} {xs rs hl : List Nat} {fa rv ln pm lo ns os uz ik ms : Int32} (w_35 : w 35 = mo fa (nI xs.length) (nI rs.length) rv ln pm lo ns os uz ik ms (nI hl.length)) {fx fr9 fh : Nat → Int32} (w_36 : w 36 = ia 16384 fx) (h_xs : hs fx xs) (k_xs : xs.length ≤ 16384) (bx : byt xs) (w_37 : w 37 = ia 16384 fr9) (h_rs : hs fr9 rs) (w_50 : w 50 = ia 16 fh) (h_hl : hs fh hl) (k_hl : hl.length ≤ 16) (tl_byt : byt hl) {K B SW BK : Nat → Nat} (w_54 : w 54 = ia 176 (nf K)) (w_55 : w 55 = ia 16 (nf B)) {fot : Nat → Int32} (w_56 : w 56 = ia 16 fot) (w_57 : w 57 = ia 256 (nf SW)) (w_58 : w 58 = ia 256 (nf BK)) : Ctr mX6_undoBlocks [.ref 35] w (PI fun r w' => (∃ SW' BK' K' B' fo' fr', w' = wset (wset (wset (wset (wset (wset (wset (w) 57 (ia 256 (nf SW'))) 58 (ia 256 (nf BK'))) 54 (ia 176 (nf K'))) 55 (ia 16 (nf B'))) 56 (ia 16 fo')) 37 (ia 16384 fr')) 35 (mo fa (nI xs.length) (nI ((undB (kx hl) xs rs).2.length)) rv ln pm lo ns os uz ik ms (nI hl.length)) ∧ hs fr' (undB (kx hl) xs rs).2) ∧ r = (undB (kx hl) xs rs).1) := by
  refine Ctr_intro okX6_undoBlocks rfl (Nat.le_of_ble_eq_true rfl) (L := [some (.ref 35), none, none, none]) rfl (fun g ct C T_ => ?_)
  refine r_aload_n C dX6_undoBlocks_0 rfl ?_
  refine r_get C dX6_undoBlocks_1 fgRX6_156 (Nat.le_of_ble_eq_true rfl) w_35 rfl ?_
  refine r_bipush C dX6_undoBlocks_4 (v := 16) (by decide) ?_
  refine r_irem C dX6_undoBlocks_6 (by decide) ?_
  refine r_top (y := nI (xs.length % 16)) (pk_rem (a := xs.length) (d := 16) (by omega) (by omega) (by omega)) ?_
  refine r_if_ne C 19 dX6_undoBlocks_7 (by decide) (fun c_7 => ?_) (fun c_7 => ?_)
  · skip
    have c_7 : ¬ ((xs.length % 16) = 0) := fun h9 => c_7 ((nI_eq (a := xs.length % 16) (b := 0) (by omega) (by omega)).mpr h9)
    refine r_eq rfl rfl (ws_self w_57).symm ?_
    refine r_eq rfl rfl (ws_self (ws_ne (Nat.ne_of_beq_eq_false rfl) w_58)).symm ?_
    refine r_eq rfl rfl (ws_self (ws_ne (Nat.ne_of_beq_eq_false rfl) (ws_ne (Nat.ne_of_beq_eq_false rfl) w_54))).symm ?_
    refine r_eq rfl rfl (ws_self (ws_ne (Nat.ne_of_beq_eq_false rfl) (ws_ne (Nat.ne_of_beq_eq_false rfl) (ws_ne (Nat.ne_of_beq_eq_false rfl) w_55)))).symm ?_
    refine r_eq rfl rfl (ws_self (ws_ne (Nat.ne_of_beq_eq_false rfl) (ws_ne (Nat.ne_of_beq_eq_false rfl) (ws_ne (Nat.ne_of_beq_eq_false rfl) (ws_ne (Nat.ne_of_beq_eq_false rfl) w_56))))).symm ?_
    refine r_eq rfl rfl (ws_self (ws_ne (Nat.ne_of_beq_eq_false rfl) (ws_ne (Nat.ne_of_beq_eq_false rfl) (ws_ne (Nat.ne_of_beq_eq_false rfl) (ws_ne (Nat.ne_of_beq_eq_false rfl) (ws_ne (Nat.ne_of_beq_eq_false rfl) w_37)))))).symm ?_
    refine r_eq rfl rfl (ws_self (ws_ne (Nat.ne_of_beq_eq_false rfl) (ws_ne (Nat.ne_of_beq_eq_false rfl) (ws_ne (Nat.ne_of_beq_eq_false rfl) (ws_ne (Nat.ne_of_beq_eq_false rfl) (ws_ne (Nat.ne_of_beq_eq_false rfl) (ws_ne (Nat.ne_of_beq_eq_false rfl) w_35))))))).symm ?_
    refine r_bipush C dX6_undoBlocks_19 (v := (-2)) (by decide) ?_
    exact r_ireturn C T_ rfl rfl dX6_undoBlocks_21 (⟨_, rfl, ⟨_, _, _, _, _, _, by rw [show undB (kx hl) xs rs = (-2, rs) by unfold undB; rw [if_pos (by omega)]], by rw [show undB (kx hl) xs rs = (-2, rs) by unfold undB; rw [if_pos (by omega)]]; exact h_rs⟩, by rw [show undB (kx hl) xs rs = (-2, rs) by unfold undB; rw [if_pos (by omega)]]⟩)
  · skip
    have c_7 : (xs.length % 16) = 0 := (nI_eq (a := xs.length % 16) (b := 0) (by omega) (by omega)).mp c_7
    refine r_aload_n C dX6_undoBlocks_10 rfl ?_
    refine r_get C dX6_undoBlocks_11 fgRX6_156 (Nat.le_of_ble_eq_true rfl) w_35 rfl ?_
    refine r_bipush C dX6_undoBlocks_14 (v := 32) (by decide) ?_
    refine r_icmp_ge C 22 dX6_undoBlocks_16 (by decide) (fun c_16 => ?_) (fun c_16 => ?_)
    · skip
      have c_16 : 32 ≤ xs.length := (nI_leI (a := 32) (b := xs.length) (by omega) (by omega)).mp c_16
      refine r_aload_n C dX6_undoBlocks_22 rfl ?_
      refine r_callVv C (As := []) (rest := []) dX6_undoBlocks_23 (cX6_makeColumns9 w_35 w_50 h_hl k_hl tl_byt w_54 w_57 w_58) okX6_makeColumns mlRX6_278 imX6_makeColumns seX6_makeColumns ⟨by decide, by decide⟩ rfl rfl (Nat.le_of_ble_eq_true rfl) w_35 rfl rfl (Nat.le_of_ble_eq_true rfl) (by decide) (by decide) (fun w9 h9 => ?_)
      obtain ⟨SW_1, BK_2, K_3, rfl, h_4, h_5, h_6⟩ := h9
      have hsw := h_4
      have hbk := h_5
      obtain ⟨KK, hKKe⟩ : ∃ z, z = kx hl := ⟨_, rfl⟩
      have hK : ∀ k, k < 176 → K_3 k = KK k := by rw [hKKe]; exact h_6
      have hKK : ∀ k, k < 176 → KK k < 256 := fun k _ => by rw [hKKe]; exact kx_lt tl_byt k
      refine r_aload_n C dX6_undoBlocks_26 rfl ?_
      refine r_callVi C (As := []) (rest := []) dX6_undoBlocks_27 (cX6_filling9 (ws_ne (Nat.ne_of_beq_eq_false rfl) (ws_ne (Nat.ne_of_beq_eq_false rfl) (ws_ne (Nat.ne_of_beq_eq_false rfl) w_35))) (ws_ne (Nat.ne_of_beq_eq_false rfl) (ws_ne (Nat.ne_of_beq_eq_false rfl) (ws_ne (Nat.ne_of_beq_eq_false rfl) w_36))) h_xs k_xs bx (ws_ne (Nat.ne_of_beq_eq_false rfl) (ws_ne (Nat.ne_of_beq_eq_false rfl) (ws_ne (Nat.ne_of_beq_eq_false rfl) w_55))) ws_eq (ws_ne (Nat.ne_of_beq_eq_false rfl) (ws_ne (Nat.ne_of_beq_eq_false rfl) (ws_ne (Nat.ne_of_beq_eq_false rfl) w_56))) (ws_ne (Nat.ne_of_beq_eq_false rfl) ws_eq) hbk hK hKK (by omega)) okX6_filling mlRX6_281 imX6_filling seX6_filling ⟨by decide, by decide⟩ rfl rfl (Nat.le_of_ble_eq_true rfl) (ws_ne (Nat.ne_of_beq_eq_false rfl) (ws_ne (Nat.ne_of_beq_eq_false rfl) (ws_ne (Nat.ne_of_beq_eq_false rfl) w_35))) rfl rfl (Nat.le_of_ble_eq_true rfl) (by decide) (by decide) (fun r_10 w9 h9 => ?_)
      obtain ⟨⟨B_7, fo_8, rfl, h_9⟩, rfl⟩ := h9
      have hfl := filB_le (unB KK xs (xs.length - 16))
      refine r_istore_n C dX6_undoBlocks_30 (L' := [some (.ref 35), some (.int (nI (filB (unB KK xs (xs.length - 16))))), none, none]) (by decide) rfl ?_
      refine r_iload_n C dX6_undoBlocks_31 rfl ?_
      refine r_if_ne C 38 dX6_undoBlocks_32 (by decide) (fun c_32 => ?_) (fun c_32 => ?_)
      · skip
        have c_32 : ¬ ((filB (unB KK xs (xs.length - 16))) = 0) := fun h9 => c_32 ((nI_eq (a := filB (unB KK xs (xs.length - 16))) (b := 0) (by omega) (by omega)).mpr h9)
        refine r_bipush C dX6_undoBlocks_38 (v := 16) (by decide) ?_
        refine r_istore_n C dX6_undoBlocks_40 (L' := [some (.ref 35), some (.int (nI (filB (unB KK xs (xs.length - 16))))), some (.int 16), none]) (by decide) rfl ?_
        have loop_41 : ∀ (d9 : Nat) (c : Nat) (f1 : Nat → Int32) (B1 : Nat → Nat) (fo1 : Nat → Int32), xs.length - 16 * c < d9 → 16 * (c + 1) ≤ xs.length → (∀ m, m < 16 * c → f1 m = nI (unF KK xs m)) → Az g mX6_undoBlocks ct 0 0 41 [some (.ref 35), some (.int (nI (filB (unB KK xs (xs.length - 16))))), some (.int (nI (16 * (c + 1)))), none] [] (wset (wset (wset (wset (wset (wset w 57 (ia 256 (nf SW_1))) 58 (ia 256 (nf BK_2))) 54 (ia 176 (nf K_3))) 55 (ia 16 (nf B1))) 56 (ia 16 fo1)) 37 (ia 16384 f1)) := by
          intro d9
          induction d9 with
          | zero => intro c f1 B1 fo1 hd9; exact absurd hd9 (Nat.not_lt_zero _)
          | succ d9 ih_41 =>
            intro c f1 B1 fo1 hd9 hc hres
            refine r_iload_n C dX6_undoBlocks_41 rfl ?_
            refine r_aload_n C dX6_undoBlocks_42 rfl ?_
            refine r_get C dX6_undoBlocks_43 fgRX6_156 (Nat.le_of_ble_eq_true rfl) (ws_ne (Nat.ne_of_beq_eq_false rfl) (ws_ne (Nat.ne_of_beq_eq_false rfl) (ws_ne (Nat.ne_of_beq_eq_false rfl) (ws_ne (Nat.ne_of_beq_eq_false rfl) (ws_ne (Nat.ne_of_beq_eq_false rfl) (ws_ne (Nat.ne_of_beq_eq_false rfl) w_35)))))) rfl ?_
            refine r_icmp_ge C 91 dX6_undoBlocks_46 (by decide) (fun c_46 => ?_) (fun c_46 => ?_)
            · skip
              have c_46 : xs.length ≤ (16 * (c + 1)) := (nI_leI (a := xs.length) (b := 16 * (c + 1)) (by omega) (by omega)).mp c_46
              refine r_aload_n C dX6_undoBlocks_91 rfl ?_
              refine r_aload_n C dX6_undoBlocks_92 rfl ?_
              refine r_get C dX6_undoBlocks_93 fgRX6_156 (Nat.le_of_ble_eq_true rfl) (ws_ne (Nat.ne_of_beq_eq_false rfl) (ws_ne (Nat.ne_of_beq_eq_false rfl) (ws_ne (Nat.ne_of_beq_eq_false rfl) (ws_ne (Nat.ne_of_beq_eq_false rfl) (ws_ne (Nat.ne_of_beq_eq_false rfl) (ws_ne (Nat.ne_of_beq_eq_false rfl) w_35)))))) rfl ?_
              refine r_bipush C dX6_undoBlocks_96 (v := 16) (by decide) ?_
              refine r_isub C dX6_undoBlocks_98 ?_
              refine r_top (y := nI (xs.length - 16)) (pk_sub (a := xs.length) (b := 16) (by omega)) ?_
              refine r_iload_n C dX6_undoBlocks_99 rfl ?_
              refine r_isub C dX6_undoBlocks_100 ?_
              refine r_top (y := nI ((xs.length - 16) - (filB (unB KK xs (xs.length - 16))))) (pk_sub (a := xs.length - 16) (b := filB (unB KK xs (xs.length - 16))) (by omega)) ?_
              refine r_put C dX6_undoBlocks_101 fpRX6_194 (Nat.le_of_ble_eq_true rfl) (ws_ne (Nat.ne_of_beq_eq_false rfl) (ws_ne (Nat.ne_of_beq_eq_false rfl) (ws_ne (Nat.ne_of_beq_eq_false rfl) (ws_ne (Nat.ne_of_beq_eq_false rfl) (ws_ne (Nat.ne_of_beq_eq_false rfl) (ws_ne (Nat.ne_of_beq_eq_false rfl) w_35)))))) rfl rfl (Nat.le_of_ble_eq_true rfl) (fs' := [.int fa, .int (nI xs.length), .ref 36, .int (nI ((xs.length - 16) - (filB (unB KK xs (xs.length - 16))))), .ref 37, .int rv, .int ln, .int pm, .int lo, .ref 38, .ref 39, .int ns, .ref 40, .int os, .ref 41, .int uz, .ref 42, .int ik, .ref 43, .int ms, .ref 44, .ref 45, .ref 46, .ref 47, .ref 48, .ref 49, .int (nI hl.length), .ref 50, .ref 51, .ref 52, .ref 53, .ref 54, .ref 55, .ref 56, .ref 57, .ref 58]) rfl ?_
              refine r_eq rfl rfl (show _ = _ from by rw [show nI ((xs.length - 16) - (filB (unB KK xs (xs.length - 16)))) = nI ((List.range (xs.length - 16 - filB (unB KK xs (xs.length - 16)))).map (unF KK xs)).length from congrArg nI (by rw [List.length_map, List.length_range])]) ?_
              refine r_aload_n C dX6_undoBlocks_104 rfl ?_
              refine r_get C dX6_undoBlocks_105 fgRX6_194 (Nat.le_of_ble_eq_true rfl) ws_eq rfl ?_
              exact r_ireturn C T_ rfl rfl dX6_undoBlocks_108 (⟨_, rfl, ⟨_, _, _, _, _, _, by rw [show undB (kx hl) xs rs = (nI (xs.length - 16 - filB (unB KK xs (xs.length - 16))), (List.range (xs.length - 16 - filB (unB KK xs (xs.length - 16)))).map (unF KK xs)) by rw [← hKKe]; unfold undB; rw [if_neg (by omega), if_neg c_32]], by rw [show undB (kx hl) xs rs = (nI (xs.length - 16 - filB (unB KK xs (xs.length - 16))), (List.range (xs.length - 16 - filB (unB KK xs (xs.length - 16)))).map (unF KK xs)) by rw [← hKKe]; unfold undB; rw [if_neg (by omega), if_neg c_32]]; exact hs_map (fun m hm => hres m (by omega))⟩, (by rw [show undB (kx hl) xs rs = (nI (xs.length - 16 - filB (unB KK xs (xs.length - 16))), (List.range (xs.length - 16 - filB (unB KK xs (xs.length - 16)))).map (unF KK xs)) by rw [← hKKe]; unfold undB; rw [if_neg (by omega), if_neg c_32], List.length_map, List.length_range])⟩)
            · skip
              have c_46 : ¬ (xs.length ≤ (16 * (c + 1))) := fun h9 => c_46 ((nI_leI (a := xs.length) (b := 16 * (c + 1)) (by omega) (by omega)).mpr h9)
              refine r_aload_n C dX6_undoBlocks_49 rfl ?_
              refine r_iload_n C dX6_undoBlocks_50 rfl ?_
              refine r_callVv C (As := [.int (nI (16 * (c + 1)))]) (rest := []) dX6_undoBlocks_51 (cX6_undoAt9 (ws_ne (Nat.ne_of_beq_eq_false rfl) (ws_ne (Nat.ne_of_beq_eq_false rfl) (ws_ne (Nat.ne_of_beq_eq_false rfl) (ws_ne (Nat.ne_of_beq_eq_false rfl) (ws_ne (Nat.ne_of_beq_eq_false rfl) (ws_ne (Nat.ne_of_beq_eq_false rfl) w_35)))))) (ws_ne (Nat.ne_of_beq_eq_false rfl) (ws_ne (Nat.ne_of_beq_eq_false rfl) (ws_ne (Nat.ne_of_beq_eq_false rfl) (ws_ne (Nat.ne_of_beq_eq_false rfl) (ws_ne (Nat.ne_of_beq_eq_false rfl) (ws_ne (Nat.ne_of_beq_eq_false rfl) w_36)))))) h_xs k_xs bx (ws_ne (Nat.ne_of_beq_eq_false rfl) (ws_ne (Nat.ne_of_beq_eq_false rfl) ws_eq)) (ws_ne (Nat.ne_of_beq_eq_false rfl) (ws_ne (Nat.ne_of_beq_eq_false rfl) (ws_ne (Nat.ne_of_beq_eq_false rfl) ws_eq))) (ws_ne (Nat.ne_of_beq_eq_false rfl) ws_eq) (ws_ne (Nat.ne_of_beq_eq_false rfl) (ws_ne (Nat.ne_of_beq_eq_false rfl) (ws_ne (Nat.ne_of_beq_eq_false rfl) (ws_ne (Nat.ne_of_beq_eq_false rfl) ws_eq)))) hbk hK hKK (q0 := 16 * (c + 1)) (by omega) (by omega)) okX6_undoAt mlRX6_272 imX6_undoAt seX6_undoAt ⟨by decide, by decide⟩ rfl rfl (Nat.le_of_ble_eq_true rfl) (ws_ne (Nat.ne_of_beq_eq_false rfl) (ws_ne (Nat.ne_of_beq_eq_false rfl) (ws_ne (Nat.ne_of_beq_eq_false rfl) (ws_ne (Nat.ne_of_beq_eq_false rfl) (ws_ne (Nat.ne_of_beq_eq_false rfl) (ws_ne (Nat.ne_of_beq_eq_false rfl) w_35)))))) rfl rfl (Nat.le_of_ble_eq_true rfl) (by decide) (by decide) (fun w9 h9 => ?_)
              obtain ⟨B_11, fo_12, rfl, h_13⟩ := h9
              refine r_eq rfl rfl ((congrArg (fun z => wset (z) 56 (ia 16 fo_12)) ((ws_comm (Nat.ne_of_beq_eq_false rfl)).trans (congrArg (fun z => wset z 37 (ia 16384 f1)) ((ws_comm (Nat.ne_of_beq_eq_false rfl)).trans (congrArg (fun z => wset z 56 (ia 16 fo1)) ws_same))))).trans ((ws_comm (Nat.ne_of_beq_eq_false rfl)).trans (congrArg (fun z => wset z 37 (ia 16384 f1)) ws_same))) ?_
              refine r_iconst C dX6_undoBlocks_54 (v := 0) (by decide) ?_
              refine r_istore_n C dX6_undoBlocks_55 (L' := [some (.ref 35), some (.int (nI (filB (unB KK xs (xs.length - 16))))), some (.int (nI (16 * (c + 1)))), some (.int 0)]) (by decide) rfl ?_
              have loop_56 : ∀ (d9 : Nat) (k : Nat) (f2 : Nat → Int32), 16 - k < d9 → k ≤ 16 → (∀ m, m < 16 * c + k → f2 m = nI (unF KK xs m)) → Az g mX6_undoBlocks ct 0 0 56 [some (.ref 35), some (.int (nI (filB (unB KK xs (xs.length - 16))))), some (.int (nI (16 * (c + 1)))), some (.int (nI k))] [] (wset (wset (wset (wset (wset (wset w 57 (ia 256 (nf SW_1))) 58 (ia 256 (nf BK_2))) 54 (ia 176 (nf K_3))) 55 (ia 16 (nf B_11))) 56 (ia 16 fo_12)) 37 (ia 16384 f2)) := by
                intro d9
                induction d9 with
                | zero => intro k f2 hd9; exact absurd hd9 (Nat.not_lt_zero _)
                | succ d9 ih_56 =>
                  intro k f2 hd9 hk hin
                  refine r_iload_n C dX6_undoBlocks_56 rfl ?_
                  refine r_bipush C dX6_undoBlocks_57 (v := 16) (by decide) ?_
                  refine r_icmp_ge C 85 dX6_undoBlocks_59 (by decide) (fun c_59 => ?_) (fun c_59 => ?_)
                  · skip
                    have c_59 : 16 ≤ k := (nI_leI (a := 16) (b := k) (by omega) (by omega)).mp c_59
                    refine r_iinc C dX6_undoBlocks_85 (v := nI (16 * (c + 1 + 1))) (L' := [some (.ref 35), some (.int (nI (filB (unB KK xs (xs.length - 16))))), some (.int (nI (16 * (c + 1 + 1)))), some (.int (nI k))]) rfl ((nI_add (16 * (c + 1)) 16).trans (congrArg nI (by omega))) (by decide) rfl ?_
                    refine r_goto C 41 dX6_undoBlocks_88 (by decide) ?_
                    refine r_forget [some (.ref 35), some (.int (nI (filB (unB KK xs (xs.length - 16))))), some (.int (nI (16 * (c + 1 + 1)))), none] ⟨Or.inr rfl, Or.inr rfl, Or.inr rfl, Or.inl rfl, trivial⟩ ?_
                    exact ih_41 (c + 1) _ _ _ (by omega) (by omega) (fun m hm => hin m (by omega))
                  · skip
                    have c_59 : ¬ (16 ≤ k) := fun h9 => c_59 ((nI_leI (a := 16) (b := k) (by omega) (by omega)).mpr h9)
                    refine r_aload_n C dX6_undoBlocks_62 rfl ?_
                    refine r_get C dX6_undoBlocks_63 fgRX6_13 (Nat.le_of_ble_eq_true rfl) (ws_ne (Nat.ne_of_beq_eq_false rfl) (ws_ne (Nat.ne_of_beq_eq_false rfl) (ws_ne (Nat.ne_of_beq_eq_false rfl) (ws_ne (Nat.ne_of_beq_eq_false rfl) (ws_ne (Nat.ne_of_beq_eq_false rfl) (ws_ne (Nat.ne_of_beq_eq_false rfl) w_35)))))) rfl ?_
                    refine r_iload_n C dX6_undoBlocks_66 rfl ?_
                    refine r_bipush C dX6_undoBlocks_67 (v := 16) (by decide) ?_
                    refine r_isub C dX6_undoBlocks_69 ?_
                    refine r_top (y := nI (16 * c)) ((pk_sub (a := 16 * (c + 1)) (b := 16) (by omega)).trans (congrArg nI (by omega))) ?_
                    refine r_iload_n C dX6_undoBlocks_70 rfl ?_
                    refine r_iadd C dX6_undoBlocks_71 ?_
                    refine r_top (y := nI ((16 * c) + k)) (nI_add (16 * c) k) ?_
                    refine r_aload_n C dX6_undoBlocks_72 rfl ?_
                    refine r_get C dX6_undoBlocks_73 fgRX6_141 (Nat.le_of_ble_eq_true rfl) (ws_ne (Nat.ne_of_beq_eq_false rfl) (ws_ne (Nat.ne_of_beq_eq_false rfl) (ws_ne (Nat.ne_of_beq_eq_false rfl) (ws_ne (Nat.ne_of_beq_eq_false rfl) (ws_ne (Nat.ne_of_beq_eq_false rfl) (ws_ne (Nat.ne_of_beq_eq_false rfl) w_35)))))) rfl ?_
                    refine r_iload_n C dX6_undoBlocks_76 rfl ?_
                    refine r_ialdN C dX6_undoBlocks_77 (Nat.le_of_ble_eq_true rfl) (ws_ne (Nat.ne_of_beq_eq_false rfl) (ws_ne (Nat.ne_of_beq_eq_false rfl) ws_eq)) (j := k) rfl (by omega) (by decide) ?_
                    refine r_top (y := nI (B_11 k)) (nf_at B_11 k) ?_
                    refine r_iastN C dX6_undoBlocks_78 (Nat.le_of_ble_eq_true rfl) ws_eq (j := (16 * c) + k) rfl (by omega) (by decide) ?_
                    refine r_eq rfl rfl ws_same ?_
                    refine r_iinc C dX6_undoBlocks_79 (v := nI (k + 1)) (L' := [some (.ref 35), some (.int (nI (filB (unB KK xs (xs.length - 16))))), some (.int (nI (16 * (c + 1)))), some (.int (nI (k + 1)))]) rfl (nI_add k 1) (by decide) rfl ?_
                    refine r_goto C 56 dX6_undoBlocks_82 (by decide) ?_
                    exact ih_56 (k + 1) _ (by omega) (by omega) (up_lt hin (show nI _ = nI (unF KK xs (16 * c + k)) from by rw [unF_col KK xs (show k < 16 by omega), ← h_13 k (by omega)]))
              exact loop_56 _ 0 _ (Nat.lt_succ_self _) (by omega) (fun m hm => hres m (by omega))
        refine r_eq rfl rfl (ws_self (ws_ne (Nat.ne_of_beq_eq_false rfl) (ws_ne (Nat.ne_of_beq_eq_false rfl) (ws_ne (Nat.ne_of_beq_eq_false rfl) (ws_ne (Nat.ne_of_beq_eq_false rfl) (ws_ne (Nat.ne_of_beq_eq_false rfl) w_37)))))).symm ?_
        exact loop_41 _ 0 _ _ _ (Nat.lt_succ_self _) (by omega) (fun m hm => absurd hm (by omega))
      · skip
        have c_32 : (filB (unB KK xs (xs.length - 16))) = 0 := (nI_eq (a := filB (unB KK xs (xs.length - 16))) (b := 0) (by omega) (by omega)).mp c_32
        refine r_eq rfl rfl (ws_self (ws_ne (Nat.ne_of_beq_eq_false rfl) (ws_ne (Nat.ne_of_beq_eq_false rfl) (ws_ne (Nat.ne_of_beq_eq_false rfl) (ws_ne (Nat.ne_of_beq_eq_false rfl) (ws_ne (Nat.ne_of_beq_eq_false rfl) w_37)))))).symm ?_
        refine r_eq rfl rfl (ws_self (ws_ne (Nat.ne_of_beq_eq_false rfl) (ws_ne (Nat.ne_of_beq_eq_false rfl) (ws_ne (Nat.ne_of_beq_eq_false rfl) (ws_ne (Nat.ne_of_beq_eq_false rfl) (ws_ne (Nat.ne_of_beq_eq_false rfl) (ws_ne (Nat.ne_of_beq_eq_false rfl) w_35))))))).symm ?_
        refine r_bipush C dX6_undoBlocks_35 (v := (-3)) (by decide) ?_
        exact r_ireturn C T_ rfl rfl dX6_undoBlocks_37 (⟨_, rfl, ⟨_, _, _, _, _, _, by rw [show undB (kx hl) xs rs = (-3, rs) by rw [← hKKe]; unfold undB; rw [if_neg (by omega), if_pos c_32]], by rw [show undB (kx hl) xs rs = (-3, rs) by rw [← hKKe]; unfold undB; rw [if_neg (by omega), if_pos c_32]]; exact h_rs⟩, by rw [show undB (kx hl) xs rs = (-3, rs) by rw [← hKKe]; unfold undB; rw [if_neg (by omega), if_pos c_32]]⟩)
    · skip
      have c_16 : ¬ (32 ≤ xs.length) := fun h9 => c_16 ((nI_leI (a := 32) (b := xs.length) (by omega) (by omega)).mpr h9)
      refine r_eq rfl rfl (ws_self w_57).symm ?_
      refine r_eq rfl rfl (ws_self (ws_ne (Nat.ne_of_beq_eq_false rfl) w_58)).symm ?_
      refine r_eq rfl rfl (ws_self (ws_ne (Nat.ne_of_beq_eq_false rfl) (ws_ne (Nat.ne_of_beq_eq_false rfl) w_54))).symm ?_
      refine r_eq rfl rfl (ws_self (ws_ne (Nat.ne_of_beq_eq_false rfl) (ws_ne (Nat.ne_of_beq_eq_false rfl) (ws_ne (Nat.ne_of_beq_eq_false rfl) w_55)))).symm ?_
      refine r_eq rfl rfl (ws_self (ws_ne (Nat.ne_of_beq_eq_false rfl) (ws_ne (Nat.ne_of_beq_eq_false rfl) (ws_ne (Nat.ne_of_beq_eq_false rfl) (ws_ne (Nat.ne_of_beq_eq_false rfl) w_56))))).symm ?_
      refine r_eq rfl rfl (ws_self (ws_ne (Nat.ne_of_beq_eq_false rfl) (ws_ne (Nat.ne_of_beq_eq_false rfl) (ws_ne (Nat.ne_of_beq_eq_false rfl) (ws_ne (Nat.ne_of_beq_eq_false rfl) (ws_ne (Nat.ne_of_beq_eq_false rfl) w_37)))))).symm ?_
      refine r_eq rfl rfl (ws_self (ws_ne (Nat.ne_of_beq_eq_false rfl) (ws_ne (Nat.ne_of_beq_eq_false rfl) (ws_ne (Nat.ne_of_beq_eq_false rfl) (ws_ne (Nat.ne_of_beq_eq_false rfl) (ws_ne (Nat.ne_of_beq_eq_false rfl) (ws_ne (Nat.ne_of_beq_eq_false rfl) w_35))))))).symm ?_
      refine r_bipush C dX6_undoBlocks_19 (v := (-2)) (by decide) ?_
      exact r_ireturn C T_ rfl rfl dX6_undoBlocks_21 (⟨_, rfl, ⟨_, _, _, _, _, _, by rw [show undB (kx hl) xs rs = (-2, rs) by unfold undB; rw [if_pos (by omega)]], by rw [show undB (kx hl) xs rs = (-2, rs) by unfold undB; rw [if_pos (by omega)]]; exact h_rs⟩, by rw [show undB (kx hl) xs rs = (-2, rs) by unfold undB; rw [if_pos (by omega)]]⟩)
