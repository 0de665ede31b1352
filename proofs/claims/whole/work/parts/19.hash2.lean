theorem mdW_last {xs : List Nat} {c : Nat} {f1 : Nat → Int32} (h : ∀ j, j < 16 → f1 j = le4 (endB xs) (c * 64 + 4 * j)) (hc : c + 1 = nch xs.length) (j : Nat) (hj : j < 16) : upd f1 14 (nI (8 * xs.length)) j = mdW xs c j := by
  unfold mdW upd
  by_cases e : j = 14
  · rw [if_pos e, if_pos ⟨hc, e⟩]
  · rw [if_neg e, if_neg (fun z => e z.2)]
    exact h j hj
set_option maxHeartbeats 4000000 in
set_option maxRecDepth 100000 in
theorem cX2_hash9 {w : Wo} {h wd a2 b2 a b : Nat} (l_h : h < NW) (l_wd : wd < NW) (l_a2 : a2 < NW) (l_b2 : b2 < NW) (l_a : a < NW) (l_b : b < NW) (n_h_wd : h ≠ wd) (n_h_a2 : h ≠ a2) (n_h_b2 : h ≠ b2) (n_h_a : h ≠ a) (n_h_b : h ≠ b) (n_wd_a2 : wd ≠ a2) (n_wd_b2 : wd ≠ b2) (n_wd_a : wd ≠ a) (n_wd_b : wd ≠ b) (n_a2_b2 : a2 ≠ b2) (n_a2_a : a2 ≠ a) (n_a2_b : a2 ≠ b) (n_b2_a : b2 ≠ a) (n_b2_b : b2 ≠ b) (n_a_b : a ≠ b) {n2 n : Nat} {fw : Nat → Int32} {sA sB sC sD : Int32} (w_h : w h = ob 2 [.ref wd, .int sA, .int sB, .int sC, .int sD]) (w_wd : w wd = ia 16 fw) {f2 : Nat → Int32} {ys : List Nat} (w_a2 : w a2 = ob 3 [.ref b2, .int (nI ys.length)]) (w_b2 : w b2 = ia n2 f2) (h_ys : hs f2 ys) (k_ys : ys.length ≤ n2) (hn2 : n2 ≤ 1048576) {f : Nat → Int32} {xs : List Nat} (w_a : w a = ob 3 [.ref b, .int (nI xs.length)]) (w_b : w b = ia n f) (h_xs : hs f xs) (k_xs : xs.length ≤ n) (hn : n ≤ 1048576) (h16 : 16 ≤ n) : Ctr mX2_hash [.ref h, .ref a2, .ref a] w (PV fun w' => ∃ tA tB tC tD fw' f', w' = wset (wset (wset (wset w h (ob 2 [.ref wd, .int tA, .int tB, .int tC, .int tD])) wd (ia 16 fw')) a (ob 3 [.ref b, .int (nI (md5 ys).length)])) b (ia n f') ∧ hs f' (md5 ys)) := by
  refine Ctr_intro okX2_hash rfl (Nat.le_of_ble_eq_true rfl) (L := [some (.ref h), some (.ref a2), some (.ref a), none, none]) rfl (fun g ct C T_ => ?_)
  refine r_aload_n C dX2_hash_0 rfl ?_
  refine r_ldc C dX2_hash_1 cnRX2_13 ?_
  refine r_put C dX2_hash_3 fpRX2_14 l_h w_h rfl rfl (Nat.le_of_ble_eq_true rfl) (fs' := [.ref wd, .int 1732584193, .int sB, .int sC, .int sD]) rfl ?_
  refine r_aload_n C dX2_hash_6 rfl ?_
  refine r_ldc C dX2_hash_7 cnRX2_18 ?_
  refine r_put C dX2_hash_9 fpRX2_19 l_h ws_eq rfl rfl (Nat.le_of_ble_eq_true rfl) (fs' := [.ref wd, .int 1732584193, .int (-271733879), .int sC, .int sD]) rfl ?_
  refine r_eq rfl rfl ws_same ?_
  refine r_aload_n C dX2_hash_12 rfl ?_
  refine r_ldc C dX2_hash_13 cnRX2_22 ?_
  refine r_put C dX2_hash_15 fpRX2_23 l_h ws_eq rfl rfl (Nat.le_of_ble_eq_true rfl) (fs' := [.ref wd, .int 1732584193, .int (-271733879), .int (-1732584194), .int sD]) rfl ?_
  refine r_eq rfl rfl ws_same ?_
  refine r_aload_n C dX2_hash_18 rfl ?_
  refine r_ldc C dX2_hash_19 cnRX2_26 ?_
  refine r_put C dX2_hash_21 fpRX2_27 l_h ws_eq rfl rfl (Nat.le_of_ble_eq_true rfl) (fs' := [.ref wd, .int 1732584193, .int (-271733879), .int (-1732584194), .int 271733878]) rfl ?_
  refine r_eq rfl rfl ws_same ?_
  refine r_aload_n C dX2_hash_24 rfl ?_
  refine r_get C dX2_hash_25 fgRX2_30 l_a2 (ws_ne (Ne.symm n_h_a2) w_a2) rfl ?_
  refine r_bipush C dX2_hash_28 (v := 8) (by decide) ?_
  refine r_iadd C dX2_hash_30 ?_
  refine r_top (y := nI (ys.length + 8)) (nI_add ys.length 8) ?_
  refine r_bipush C dX2_hash_31 (v := 64) (by decide) ?_
  refine r_idiv C dX2_hash_33 (by decide) ?_
  refine r_top (y := nI ((ys.length + 8) / 64)) (pk_div (a := ys.length + 8) (d := 64) (by omega) (by omega) (by omega)) ?_
  refine r_iconst C dX2_hash_34 (v := 1) (by decide) ?_
  refine r_iadd C dX2_hash_35 ?_
  refine r_top (y := nI (((ys.length + 8) / 64) + 1)) (nI_add ((ys.length + 8) / 64) 1) ?_
  refine r_istore_n C dX2_hash_36 (L' := [some (.ref h), some (.ref a2), some (.ref a), some (.int (nI (((ys.length + 8) / 64) + 1))), none]) (by decide) rfl ?_
  refine r_iconst C dX2_hash_37 (v := 0) (by decide) ?_
  refine r_istore C dX2_hash_38 (L' := [some (.ref h), some (.ref a2), some (.ref a), some (.int (nI (((ys.length + 8) / 64) + 1))), some (.int 0)]) (by decide) rfl ?_
  have loop_40 : ∀ (d9 : Nat) (c : Nat) (fv : Nat → Int32) (vA : Int32) (vB : Int32) (vC : Int32) (vD : Int32), nch ys.length - c < d9 → c ≤ nch ys.length → (vA, vB, vC, vD) = mdX ys c → Az g mX2_hash ct 0 0 40 [some (.ref h), some (.ref a2), some (.ref a), some (.int (nI ((ys.length + 8) / 64 + 1))), some (.int (nI c))] [] (wset (wset w h (ob 2 [.ref wd, .int vA, .int vB, .int vC, .int vD])) wd (ia 16 fv)) := by
    intro d9
    induction d9 with
    | zero => intro c fv vA vB vC vD hd9; exact absurd hd9 (Nat.not_lt_zero _)
    | succ d9 ih_40 =>
      intro c fv vA vB vC vD hd9 hc he
      have hc9 : nch ys.length = (ys.length + 8) / 64 + 1 := rfl
      refine r_iload C dX2_hash_40 rfl ?_
      refine r_iload_n C dX2_hash_42 rfl ?_
      refine r_icmp_ge C 88 dX2_hash_43 (by decide) (fun c_43 => ?_) (fun c_43 => ?_)
      · skip
        have c_43 : ((ys.length + 8) / 64 + 1) ≤ c := (nI_leI (a := (ys.length + 8) / 64 + 1) (b := c) (by omega) (by omega)).mp c_43
        refine r_aload_n C dX2_hash_88 rfl ?_
        refine r_callVv C (As := []) (rest := []) dX2_hash_89 (cX3_clear9 l_a l_b n_a_b (ws_ne (Ne.symm n_wd_a) (ws_ne (Ne.symm n_h_a) w_a)) (ws_ne (Ne.symm n_wd_b) (ws_ne (Ne.symm n_h_b) w_b)) h_xs k_xs (by omega)) okX3_clear mlRX2_42 imX3_clear seX3_clear ⟨by decide, by decide⟩ rfl rfl l_a (ws_ne (Ne.symm n_wd_a) (ws_ne (Ne.symm n_h_a) w_a)) rfl rfl (Nat.le_of_ble_eq_true rfl) (by decide) (by decide) (fun w9 h9 => ?_)
        obtain rfl := h9
        refine r_aload_n C dX2_hash_92 rfl ?_
        refine r_aload_n C dX2_hash_93 rfl ?_
        refine r_get C dX2_hash_94 fgRX2_14 l_h (ws_ne n_h_a (ws_ne n_h_wd ws_eq)) rfl ?_
        refine r_iconst C dX2_hash_97 (v := 4) (by decide) ?_
        refine r_callVv C (As := [.int vA, .int 4]) (rest := []) dX2_hash_98 (cX3_addLowestFirst9 l_a l_b n_a_b ws_eq (ws_ne (Ne.symm n_a_b) (ws_ne (Ne.symm n_wd_b) (ws_ne (Ne.symm n_h_b) w_b))) (hs_nil _) (by simp only [List.length_append, List.length_nil, lof_len]; omega) (by omega) (x := vA) (t := 4) (by omega) (by simp only [List.length_append, List.length_nil, lof_len]; omega)) okX3_addLowestFirst mlRX2_45 imX3_addLowestFirst seX3_addLowestFirst ⟨by decide, by decide⟩ rfl rfl l_a ws_eq rfl rfl (Nat.le_of_ble_eq_true rfl) (by decide) (by decide) (fun w9 h9 => ?_)
        obtain ⟨f1, rfl, h2⟩ := h9
        refine r_eq rfl rfl ((ws_comm n_a_b).trans (congrArg (fun z => wset z b (ia n f1)) ws_same)) ?_
        refine r_aload_n C dX2_hash_101 rfl ?_
        refine r_aload_n C dX2_hash_102 rfl ?_
        refine r_get C dX2_hash_103 fgRX2_19 l_h (ws_ne n_h_b (ws_ne n_h_a (ws_ne n_h_wd ws_eq))) rfl ?_
        refine r_iconst C dX2_hash_106 (v := 4) (by decide) ?_
        refine r_callVv C (As := [.int vB, .int 4]) (rest := []) dX2_hash_107 (cX3_addLowestFirst9 l_a l_b n_a_b (ws_ne n_a_b ws_eq) ws_eq h2 (by simp only [List.length_append, List.length_nil, lof_len]; omega) (by omega) (x := vB) (t := 4) (by omega) (by simp only [List.length_append, List.length_nil, lof_len]; omega)) okX3_addLowestFirst mlRX2_45 imX3_addLowestFirst seX3_addLowestFirst ⟨by decide, by decide⟩ rfl rfl l_a (ws_ne n_a_b ws_eq) rfl rfl (Nat.le_of_ble_eq_true rfl) (by decide) (by decide) (fun w9 h9 => ?_)
        obtain ⟨f3, rfl, h4⟩ := h9
        refine r_eq rfl rfl ((congrArg (fun z => wset (z) a (ob 3 [.ref b, .int (nI (((([] : List Nat) ++ lof vA 4) ++ lof vB 4).length))])) ws_same).trans ((ws_comm n_a_b).trans (congrArg (fun z => wset z b (ia n f3)) ws_same))) ?_
        refine r_aload_n C dX2_hash_110 rfl ?_
        refine r_aload_n C dX2_hash_111 rfl ?_
        refine r_get C dX2_hash_112 fgRX2_23 l_h (ws_ne n_h_b (ws_ne n_h_a (ws_ne n_h_wd ws_eq))) rfl ?_
        refine r_iconst C dX2_hash_115 (v := 4) (by decide) ?_
        refine r_callVv C (As := [.int vC, .int 4]) (rest := []) dX2_hash_116 (cX3_addLowestFirst9 l_a l_b n_a_b (ws_ne n_a_b ws_eq) ws_eq h4 (by simp only [List.length_append, List.length_nil, lof_len]; omega) (by omega) (x := vC) (t := 4) (by omega) (by simp only [List.length_append, List.length_nil, lof_len]; omega)) okX3_addLowestFirst mlRX2_45 imX3_addLowestFirst seX3_addLowestFirst ⟨by decide, by decide⟩ rfl rfl l_a (ws_ne n_a_b ws_eq) rfl rfl (Nat.le_of_ble_eq_true rfl) (by decide) (by decide) (fun w9 h9 => ?_)
        obtain ⟨f5, rfl, h6⟩ := h9
        refine r_eq rfl rfl ((congrArg (fun z => wset (z) a (ob 3 [.ref b, .int (nI ((((([] : List Nat) ++ lof vA 4) ++ lof vB 4) ++ lof vC 4).length))])) ws_same).trans ((ws_comm n_a_b).trans (congrArg (fun z => wset z b (ia n f5)) ws_same))) ?_
        refine r_aload_n C dX2_hash_119 rfl ?_
        refine r_aload_n C dX2_hash_120 rfl ?_
        refine r_get C dX2_hash_121 fgRX2_27 l_h (ws_ne n_h_b (ws_ne n_h_a (ws_ne n_h_wd ws_eq))) rfl ?_
        refine r_iconst C dX2_hash_124 (v := 4) (by decide) ?_
        refine r_callVv C (As := [.int vD, .int 4]) (rest := []) dX2_hash_125 (cX3_addLowestFirst9 l_a l_b n_a_b (ws_ne n_a_b ws_eq) ws_eq h6 (by simp only [List.length_append, List.length_nil, lof_len]; omega) (by omega) (x := vD) (t := 4) (by omega) (by simp only [List.length_append, List.length_nil, lof_len]; omega)) okX3_addLowestFirst mlRX2_45 imX3_addLowestFirst seX3_addLowestFirst ⟨by decide, by decide⟩ rfl rfl l_a (ws_ne n_a_b ws_eq) rfl rfl (Nat.le_of_ble_eq_true rfl) (by decide) (by decide) (fun w9 h9 => ?_)
        obtain ⟨f7, rfl, h8⟩ := h9
        refine r_eq rfl rfl ((congrArg (fun z => wset (z) a (ob 3 [.ref b, .int (nI (((((([] : List Nat) ++ lof vA 4) ++ lof vB 4) ++ lof vC 4) ++ lof vD 4).length))])) ws_same).trans ((ws_comm n_a_b).trans (congrArg (fun z => wset z b (ia n f7)) ws_same))) ?_
        exact r_return C T_ rfl dX2_hash_128 (⟨rfl, vA, vB, vC, vD, _, _, by rw [show md5 ys = q4l (vA, vB, vC, vD) by rw [he]; unfold md5; congr 2; omega]; rfl, by rw [show md5 ys = q4l (vA, vB, vC, vD) by rw [he]; unfold md5; congr 2; omega]; exact h8⟩)
      · skip
        have c_43 : ¬ (((ys.length + 8) / 64 + 1) ≤ c) := fun h9 => c_43 ((nI_leI (a := (ys.length + 8) / 64 + 1) (b := c) (by omega) (by omega)).mpr h9)
        refine r_aload_n C dX2_hash_46 rfl ?_
        refine r_aload_n C dX2_hash_47 rfl ?_
        refine r_iload C dX2_hash_48 rfl ?_
        refine r_bipush C dX2_hash_50 (v := 64) (by decide) ?_
        refine r_imul C dX2_hash_52 ?_
        refine r_top (y := nI (c * 64)) (pk_mul c 64) ?_
        refine r_callVv C (As := [.ref a2, .int (nI (c * 64))]) (rest := []) dX2_hash_53 (cX2_loadWords9 l_h l_wd l_a2 l_b2 n_h_wd n_h_a2 n_h_b2 n_wd_a2 n_wd_b2 n_a2_b2 (ws_ne n_h_wd ws_eq) ws_eq (ws_ne (Ne.symm n_wd_a2) (ws_ne (Ne.symm n_h_a2) w_a2)) (ws_ne (Ne.symm n_wd_b2) (ws_ne (Ne.symm n_h_b2) w_b2)) h_ys k_ys (by omega) (q0 := c * 64) (by omega)) okX2_loadWords mlRX2_35 imX2_loadWords seX2_loadWords ⟨by decide, by decide⟩ rfl rfl l_h (ws_ne n_h_wd ws_eq) rfl rfl (Nat.le_of_ble_eq_true rfl) (by decide) (by decide) (fun w9 h9 => ?_)
        obtain ⟨f1, rfl, hp1⟩ := h9
        refine r_eq rfl rfl ws_same ?_
        refine r_iload C dX2_hash_56 rfl ?_
        refine r_iload_n C dX2_hash_58 rfl ?_
        refine r_iconst C dX2_hash_59 (v := 1) (by decide) ?_
        refine r_isub C dX2_hash_60 ?_
        refine r_top (y := nI (((ys.length + 8) / 64 + 1) - 1)) (pk_sub (a := (ys.length + 8) / 64 + 1) (b := 1) (by omega)) ?_
        refine r_icmp_ne C 78 dX2_hash_61 (by decide) (fun c_61 => ?_) (fun c_61 => ?_)
        · skip
          have c_61 : ¬ (c = (((ys.length + 8) / 64 + 1) - 1)) := fun h9 => c_61 ((nI_eq (a := c) (b := ((ys.length + 8) / 64 + 1) - 1) (by omega) (by omega)).mpr h9)
          refine r_aload_n C dX2_hash_78 rfl ?_
          refine r_callVv C (As := []) (rest := []) dX2_hash_79 (cX2_mixWords9 l_h l_wd n_h_wd (ws_ne n_h_wd ws_eq) ws_eq) okX2_mixWords mlRX2_39 imX2_mixWords seX2_mixWords ⟨by decide, by decide⟩ rfl rfl l_h (ws_ne n_h_wd ws_eq) rfl rfl (Nat.le_of_ble_eq_true rfl) (by decide) (by decide) (fun w9 h9 => ?_)
          obtain rfl := h9
          refine r_eq rfl rfl ((ws_comm n_h_wd).trans (congrArg (fun z => wset z wd (ia 16 f1)) ws_same)) ?_
          refine r_iinc C dX2_hash_82 (v := nI (c + 1)) (L' := [some (.ref h), some (.ref a2), some (.ref a), some (.int (nI ((ys.length + 8) / 64 + 1))), some (.int (nI (c + 1)))]) rfl (nI_add c 1) (by decide) rfl ?_
          refine r_goto C 40 dX2_hash_85 (by decide) ?_
          exact ih_40 (c + 1) _ ((mdC f1 (vA, vB, vC, vD)).1) ((mdC f1 (vA, vB, vC, vD)).2.1) ((mdC f1 (vA, vB, vC, vD)).2.2.1) ((mdC f1 (vA, vB, vC, vD)).2.2.2) (by unfold nch at *; omega) (by unfold nch; omega) (by show mdC _ _ = mdC (mdW ys c) (mdX ys c); rw [← he]; exact mdC_congr (fun j hj => (hp1 j hj).trans (by unfold mdW; rw [if_neg (by unfold nch; omega)])) _)
        · skip
          have c_61 : c = (((ys.length + 8) / 64 + 1) - 1) := (nI_eq (a := c) (b := ((ys.length + 8) / 64 + 1) - 1) (by omega) (by omega)).mp c_61
          refine r_aload_n C dX2_hash_64 rfl ?_
          refine r_get C dX2_hash_65 fgRX2_7 l_h (ws_ne n_h_wd ws_eq) rfl ?_
          refine r_bipush C dX2_hash_68 (v := 14) (by decide) ?_
          refine r_bipush C dX2_hash_70 (v := 8) (by decide) ?_
          refine r_aload_n C dX2_hash_72 rfl ?_
          refine r_get C dX2_hash_73 fgRX2_30 l_a2 (ws_ne (Ne.symm n_wd_a2) (ws_ne (Ne.symm n_h_a2) w_a2)) rfl ?_
          refine r_imul C dX2_hash_76 ?_
          refine r_top (y := nI (8 * ys.length)) (pk_mul 8 ys.length) ?_
          refine r_iastN C dX2_hash_77 l_wd ws_eq (j := 14) rfl (by omega) (by decide) ?_
          refine r_eq rfl rfl ws_same ?_
          refine r_aload_n C dX2_hash_78 rfl ?_
          refine r_callVv C (As := []) (rest := []) dX2_hash_79 (cX2_mixWords9 l_h l_wd n_h_wd (ws_ne n_h_wd ws_eq) ws_eq) okX2_mixWords mlRX2_39 imX2_mixWords seX2_mixWords ⟨by decide, by decide⟩ rfl rfl l_h (ws_ne n_h_wd ws_eq) rfl rfl (Nat.le_of_ble_eq_true rfl) (by decide) (by decide) (fun w9 h9 => ?_)
          obtain rfl := h9
          refine r_eq rfl rfl ((ws_comm n_h_wd).trans (congrArg (fun z => wset z wd (ia 16 (upd f1 14 (nI (8 * ys.length))))) ws_same)) ?_
          refine r_iinc C dX2_hash_82 (v := nI (c + 1)) (L' := [some (.ref h), some (.ref a2), some (.ref a), some (.int (nI ((ys.length + 8) / 64 + 1))), some (.int (nI (c + 1)))]) rfl (nI_add c 1) (by decide) rfl ?_
          refine r_goto C 40 dX2_hash_85 (by decide) ?_
          exact ih_40 (c + 1) _ ((mdC (upd f1 14 (nI (8 * ys.length))) (vA, vB, vC, vD)).1) ((mdC (upd f1 14 (nI (8 * ys.length))) (vA, vB, vC, vD)).2.1) ((mdC (upd f1 14 (nI (8 * ys.length))) (vA, vB, vC, vD)).2.2.1) ((mdC (upd f1 14 (nI (8 * ys.length))) (vA, vB, vC, vD)).2.2.2) (by unfold nch at *; omega) (by unfold nch; omega) (by show mdC _ _ = mdC (mdW ys c) (mdX ys c); rw [← he]; exact mdC_congr (fun j hj => mdW_last hp1 (by unfold nch; omega) j hj) _)
  refine r_eq rfl rfl (ws_self (ws_ne (Ne.symm n_h_wd) w_wd)).symm ?_
  exact loop_40 _ 0 fw 1732584193 (-271733879) (-1732584194) 271733878 (Nat.lt_succ_self _) (Nat.zero_le _) rfl
set_option maxHeartbeats 4000000 in
set_option maxRecDepth 100000 in
theorem cX2_hash9s {w : Wo} {h wd a b : Nat} (l_h : h < NW) (l_wd : wd < NW) (l_a : a < NW) (l_b : b < NW) (n_h_wd : h ≠ wd) (n_h_a : h ≠ a) (n_h_b : h ≠ b) (n_wd_a : wd ≠ a) (n_wd_b : wd ≠ b) (n_a_b : a ≠ b) {n : Nat} {fw : Nat → Int32} {sA sB sC sD : Int32} (w_h : w h = ob 2 [.ref wd, .int sA, .int sB, .int sC, .int sD]) (w_wd : w wd = ia 16 fw) {f : Nat → Int32} {xs : List Nat} (w_a : w a = ob 3 [.ref b, .int (nI xs.length)]) (w_b : w b = ia n f) (h_xs : hs f xs) (k_xs : xs.length ≤ n) (hn : n ≤ 1048576) (h16 : 16 ≤ n) : Ctr mX2_hash [.ref h, .ref a, .ref a] w (PV fun w' => ∃ tA tB tC tD fw' f', w' = wset (wset (wset (wset w h (ob 2 [.ref wd, .int tA, .int tB, .int tC, .int tD])) wd (ia 16 fw')) a (ob 3 [.ref b, .int (nI (md5 xs).length)])) b (ia n f') ∧ hs f' (md5 xs)) := by
  refine Ctr_intro okX2_hash rfl (Nat.le_of_ble_eq_true rfl) (L := [some (.ref h), some (.ref a), some (.ref a), none, none]) rfl (fun g ct C T_ => ?_)
  refine r_aload_n C dX2_hash_0 rfl ?_
  refine r_ldc C dX2_hash_1 cnRX2_13 ?_
  refine r_put C dX2_hash_3 fpRX2_14 l_h w_h rfl rfl (Nat.le_of_ble_eq_true rfl) (fs' := [.ref wd, .int 1732584193, .int sB, .int sC, .int sD]) rfl ?_
  refine r_aload_n C dX2_hash_6 rfl ?_
  refine r_ldc C dX2_hash_7 cnRX2_18 ?_
  refine r_put C dX2_hash_9 fpRX2_19 l_h ws_eq rfl rfl (Nat.le_of_ble_eq_true rfl) (fs' := [.ref wd, .int 1732584193, .int (-271733879), .int sC, .int sD]) rfl ?_
  refine r_eq rfl rfl ws_same ?_
  refine r_aload_n C dX2_hash_12 rfl ?_
  refine r_ldc C dX2_hash_13 cnRX2_22 ?_
  refine r_put C dX2_hash_15 fpRX2_23 l_h ws_eq rfl rfl (Nat.le_of_ble_eq_true rfl) (fs' := [.ref wd, .int 1732584193, .int (-271733879), .int (-1732584194), .int sD]) rfl ?_
  refine r_eq rfl rfl ws_same ?_
  refine r_aload_n C dX2_hash_18 rfl ?_
  refine r_ldc C dX2_hash_19 cnRX2_26 ?_
  refine r_put C dX2_hash_21 fpRX2_27 l_h ws_eq rfl rfl (Nat.le_of_ble_eq_true rfl) (fs' := [.ref wd, .int 1732584193, .int (-271733879), .int (-1732584194), .int 271733878]) rfl ?_
  refine r_eq rfl rfl ws_same ?_
  refine r_aload_n C dX2_hash_24 rfl ?_
  refine r_get C dX2_hash_25 fgRX2_30 l_a (ws_ne (Ne.symm n_h_a) w_a) rfl ?_
  refine r_bipush C dX2_hash_28 (v := 8) (by decide) ?_
  refine r_iadd C dX2_hash_30 ?_
  refine r_top (y := nI (xs.length + 8)) (nI_add xs.length 8) ?_
  refine r_bipush C dX2_hash_31 (v := 64) (by decide) ?_
  refine r_idiv C dX2_hash_33 (by decide) ?_
  refine r_top (y := nI ((xs.length + 8) / 64)) (pk_div (a := xs.length + 8) (d := 64) (by omega) (by omega) (by omega)) ?_
  refine r_iconst C dX2_hash_34 (v := 1) (by decide) ?_
  refine r_iadd C dX2_hash_35 ?_
  refine r_top (y := nI (((xs.length + 8) / 64) + 1)) (nI_add ((xs.length + 8) / 64) 1) ?_
  refine r_istore_n C dX2_hash_36 (L' := [some (.ref h), some (.ref a), some (.ref a), some (.int (nI (((xs.length + 8) / 64) + 1))), none]) (by decide) rfl ?_
  refine r_iconst C dX2_hash_37 (v := 0) (by decide) ?_
  refine r_istore C dX2_hash_38 (L' := [some (.ref h), some (.ref a), some (.ref a), some (.int (nI (((xs.length + 8) / 64) + 1))), some (.int 0)]) (by decide) rfl ?_
  have loop_40 : ∀ (d9 : Nat) (c : Nat) (fv : Nat → Int32) (vA : Int32) (vB : Int32) (vC : Int32) (vD : Int32), nch xs.length - c < d9 → c ≤ nch xs.length → (vA, vB, vC, vD) = mdX xs c → Az g mX2_hash ct 0 0 40 [some (.ref h), some (.ref a), some (.ref a), some (.int (nI ((xs.length + 8) / 64 + 1))), some (.int (nI c))] [] (wset (wset w h (ob 2 [.ref wd, .int vA, .int vB, .int vC, .int vD])) wd (ia 16 fv)) := by
    intro d9
    induction d9 with
    | zero => intro c fv vA vB vC vD hd9; exact absurd hd9 (Nat.not_lt_zero _)
    | succ d9 ih_40 =>
      intro c fv vA vB vC vD hd9 hc he
      have hc9 : nch xs.length = (xs.length + 8) / 64 + 1 := rfl
      refine r_iload C dX2_hash_40 rfl ?_
      refine r_iload_n C dX2_hash_42 rfl ?_
      refine r_icmp_ge C 88 dX2_hash_43 (by decide) (fun c_43 => ?_) (fun c_43 => ?_)
      · skip
        have c_43 : ((xs.length + 8) / 64 + 1) ≤ c := (nI_leI (a := (xs.length + 8) / 64 + 1) (b := c) (by omega) (by omega)).mp c_43
        refine r_aload_n C dX2_hash_88 rfl ?_
        refine r_callVv C (As := []) (rest := []) dX2_hash_89 (cX3_clear9 l_a l_b n_a_b (ws_ne (Ne.symm n_wd_a) (ws_ne (Ne.symm n_h_a) w_a)) (ws_ne (Ne.symm n_wd_b) (ws_ne (Ne.symm n_h_b) w_b)) h_xs k_xs (by omega)) okX3_clear mlRX2_42 imX3_clear seX3_clear ⟨by decide, by decide⟩ rfl rfl l_a (ws_ne (Ne.symm n_wd_a) (ws_ne (Ne.symm n_h_a) w_a)) rfl rfl (Nat.le_of_ble_eq_true rfl) (by decide) (by decide) (fun w9 h9 => ?_)
        obtain rfl := h9
        refine r_aload_n C dX2_hash_92 rfl ?_
        refine r_aload_n C dX2_hash_93 rfl ?_
        refine r_get C dX2_hash_94 fgRX2_14 l_h (ws_ne n_h_a (ws_ne n_h_wd ws_eq)) rfl ?_
        refine r_iconst C dX2_hash_97 (v := 4) (by decide) ?_
        refine r_callVv C (As := [.int vA, .int 4]) (rest := []) dX2_hash_98 (cX3_addLowestFirst9 l_a l_b n_a_b ws_eq (ws_ne (Ne.symm n_a_b) (ws_ne (Ne.symm n_wd_b) (ws_ne (Ne.symm n_h_b) w_b))) (hs_nil _) (by simp only [List.length_append, List.length_nil, lof_len]; omega) (by omega) (x := vA) (t := 4) (by omega) (by simp only [List.length_append, List.length_nil, lof_len]; omega)) okX3_addLowestFirst mlRX2_45 imX3_addLowestFirst seX3_addLowestFirst ⟨by decide, by decide⟩ rfl rfl l_a ws_eq rfl rfl (Nat.le_of_ble_eq_true rfl) (by decide) (by decide) (fun w9 h9 => ?_)
        obtain ⟨f1, rfl, h2⟩ := h9
        refine r_eq rfl rfl ((ws_comm n_a_b).trans (congrArg (fun z => wset z b (ia n f1)) ws_same)) ?_
        refine r_aload_n C dX2_hash_101 rfl ?_
        refine r_aload_n C dX2_hash_102 rfl ?_
        refine r_get C dX2_hash_103 fgRX2_19 l_h (ws_ne n_h_b (ws_ne n_h_a (ws_ne n_h_wd ws_eq))) rfl ?_
        refine r_iconst C dX2_hash_106 (v := 4) (by decide) ?_
        refine r_callVv C (As := [.int vB, .int 4]) (rest := []) dX2_hash_107 (cX3_addLowestFirst9 l_a l_b n_a_b (ws_ne n_a_b ws_eq) ws_eq h2 (by simp only [List.length_append, List.length_nil, lof_len]; omega) (by omega) (x := vB) (t := 4) (by omega) (by simp only [List.length_append, List.length_nil, lof_len]; omega)) okX3_addLowestFirst mlRX2_45 imX3_addLowestFirst seX3_addLowestFirst ⟨by decide, by decide⟩ rfl rfl l_a (ws_ne n_a_b ws_eq) rfl rfl (Nat.le_of_ble_eq_true rfl) (by decide) (by decide) (fun w9 h9 => ?_)
        obtain ⟨f3, rfl, h4⟩ := h9
        refine r_eq rfl rfl ((congrArg (fun z => wset (z) a (ob 3 [.ref b, .int (nI (((([] : List Nat) ++ lof vA 4) ++ lof vB 4).length))])) ws_same).trans ((ws_comm n_a_b).trans (congrArg (fun z => wset z b (ia n f3)) ws_same))) ?_
        refine r_aload_n C dX2_hash_110 rfl ?_
        refine r_aload_n C dX2_hash_111 rfl ?_
        refine r_get C dX2_hash_112 fgRX2_23 l_h (ws_ne n_h_b (ws_ne n_h_a (ws_ne n_h_wd ws_eq))) rfl ?_
        refine r_iconst C dX2_hash_115 (v := 4) (by decide) ?_
        refine r_callVv C (As := [.int vC, .int 4]) (rest := []) dX2_hash_116 (cX3_addLowestFirst9 l_a l_b n_a_b (ws_ne n_a_b ws_eq) ws_eq h4 (by simp only [List.length_append, List.length_nil, lof_len]; omega) (by omega) (x := vC) (t := 4) (by omega) (by simp only [List.length_append, List.length_nil, lof_len]; omega)) okX3_addLowestFirst mlRX2_45 imX3_addLowestFirst seX3_addLowestFirst ⟨by decide, by decide⟩ rfl rfl l_a (ws_ne n_a_b ws_eq) rfl rfl (Nat.le_of_ble_eq_true rfl) (by decide) (by decide) (fun w9 h9 => ?_)
        obtain ⟨f5, rfl, h6⟩ := h9
        refine r_eq rfl rfl ((congrArg (fun z => wset (z) a (ob 3 [.ref b, .int (nI ((((([] : List Nat) ++ lof vA 4) ++ lof vB 4) ++ lof vC 4).length))])) ws_same).trans ((ws_comm n_a_b).trans (congrArg (fun z => wset z b (ia n f5)) ws_same))) ?_
        refine r_aload_n C dX2_hash_119 rfl ?_
        refine r_aload_n C dX2_hash_120 rfl ?_
        refine r_get C dX2_hash_121 fgRX2_27 l_h (ws_ne n_h_b (ws_ne n_h_a (ws_ne n_h_wd ws_eq))) rfl ?_
        refine r_iconst C dX2_hash_124 (v := 4) (by decide) ?_
        refine r_callVv C (As := [.int vD, .int 4]) (rest := []) dX2_hash_125 (cX3_addLowestFirst9 l_a l_b n_a_b (ws_ne n_a_b ws_eq) ws_eq h6 (by simp only [List.length_append, List.length_nil, lof_len]; omega) (by omega) (x := vD) (t := 4) (by omega) (by simp only [List.length_append, List.length_nil, lof_len]; omega)) okX3_addLowestFirst mlRX2_45 imX3_addLowestFirst seX3_addLowestFirst ⟨by decide, by decide⟩ rfl rfl l_a (ws_ne n_a_b ws_eq) rfl rfl (Nat.le_of_ble_eq_true rfl) (by decide) (by decide) (fun w9 h9 => ?_)
        obtain ⟨f7, rfl, h8⟩ := h9
        refine r_eq rfl rfl ((congrArg (fun z => wset (z) a (ob 3 [.ref b, .int (nI (((((([] : List Nat) ++ lof vA 4) ++ lof vB 4) ++ lof vC 4) ++ lof vD 4).length))])) ws_same).trans ((ws_comm n_a_b).trans (congrArg (fun z => wset z b (ia n f7)) ws_same))) ?_
        exact r_return C T_ rfl dX2_hash_128 (⟨rfl, vA, vB, vC, vD, _, _, by rw [show md5 xs = q4l (vA, vB, vC, vD) by rw [he]; unfold md5; congr 2; omega]; rfl, by rw [show md5 xs = q4l (vA, vB, vC, vD) by rw [he]; unfold md5; congr 2; omega]; exact h8⟩)
      · skip
        have c_43 : ¬ (((xs.length + 8) / 64 + 1) ≤ c) := fun h9 => c_43 ((nI_leI (a := (xs.length + 8) / 64 + 1) (b := c) (by omega) (by omega)).mpr h9)
        refine r_aload_n C dX2_hash_46 rfl ?_
        refine r_aload_n C dX2_hash_47 rfl ?_
        refine r_iload C dX2_hash_48 rfl ?_
        refine r_bipush C dX2_hash_50 (v := 64) (by decide) ?_
        refine r_imul C dX2_hash_52 ?_
        refine r_top (y := nI (c * 64)) (pk_mul c 64) ?_
        refine r_callVv C (As := [.ref a, .int (nI (c * 64))]) (rest := []) dX2_hash_53 (cX2_loadWords9 l_h l_wd l_a l_b n_h_wd n_h_a n_h_b n_wd_a n_wd_b n_a_b (ws_ne n_h_wd ws_eq) ws_eq (ws_ne (Ne.symm n_wd_a) (ws_ne (Ne.symm n_h_a) w_a)) (ws_ne (Ne.symm n_wd_b) (ws_ne (Ne.symm n_h_b) w_b)) h_xs k_xs (by omega) (q0 := c * 64) (by omega)) okX2_loadWords mlRX2_35 imX2_loadWords seX2_loadWords ⟨by decide, by decide⟩ rfl rfl l_h (ws_ne n_h_wd ws_eq) rfl rfl (Nat.le_of_ble_eq_true rfl) (by decide) (by decide) (fun w9 h9 => ?_)
        obtain ⟨f1, rfl, hp1⟩ := h9
        refine r_eq rfl rfl ws_same ?_
        refine r_iload C dX2_hash_56 rfl ?_
        refine r_iload_n C dX2_hash_58 rfl ?_
        refine r_iconst C dX2_hash_59 (v := 1) (by decide) ?_
        refine r_isub C dX2_hash_60 ?_
        refine r_top (y := nI (((xs.length + 8) / 64 + 1) - 1)) (pk_sub (a := (xs.length + 8) / 64 + 1) (b := 1) (by omega)) ?_
        refine r_icmp_ne C 78 dX2_hash_61 (by decide) (fun c_61 => ?_) (fun c_61 => ?_)
        · skip
          have c_61 : ¬ (c = (((xs.length + 8) / 64 + 1) - 1)) := fun h9 => c_61 ((nI_eq (a := c) (b := ((xs.length + 8) / 64 + 1) - 1) (by omega) (by omega)).mpr h9)
          refine r_aload_n C dX2_hash_78 rfl ?_
          refine r_callVv C (As := []) (rest := []) dX2_hash_79 (cX2_mixWords9 l_h l_wd n_h_wd (ws_ne n_h_wd ws_eq) ws_eq) okX2_mixWords mlRX2_39 imX2_mixWords seX2_mixWords ⟨by decide, by decide⟩ rfl rfl l_h (ws_ne n_h_wd ws_eq) rfl rfl (Nat.le_of_ble_eq_true rfl) (by decide) (by decide) (fun w9 h9 => ?_)
          obtain rfl := h9
          refine r_eq rfl rfl ((ws_comm n_h_wd).trans (congrArg (fun z => wset z wd (ia 16 f1)) ws_same)) ?_
          refine r_iinc C dX2_hash_82 (v := nI (c + 1)) (L' := [some (.ref h), some (.ref a), some (.ref a), some (.int (nI ((xs.length + 8) / 64 + 1))), some (.int (nI (c + 1)))]) rfl (nI_add c 1) (by decide) rfl ?_
          refine r_goto C 40 dX2_hash_85 (by decide) ?_
          exact ih_40 (c + 1) _ ((mdC f1 (vA, vB, vC, vD)).1) ((mdC f1 (vA, vB, vC, vD)).2.1) ((mdC f1 (vA, vB, vC, vD)).2.2.1) ((mdC f1 (vA, vB, vC, vD)).2.2.2) (by unfold nch at *; omega) (by unfold nch; omega) (by show mdC _ _ = mdC (mdW xs c) (mdX xs c); rw [← he]; exact mdC_congr (fun j hj => (hp1 j hj).trans (by unfold mdW; rw [if_neg (by unfold nch; omega)])) _)
        · skip
          have c_61 : c = (((xs.length + 8) / 64 + 1) - 1) := (nI_eq (a := c) (b := ((xs.length + 8) / 64 + 1) - 1) (by omega) (by omega)).mp c_61
          refine r_aload_n C dX2_hash_64 rfl ?_
          refine r_get C dX2_hash_65 fgRX2_7 l_h (ws_ne n_h_wd ws_eq) rfl ?_
          refine r_bipush C dX2_hash_68 (v := 14) (by decide) ?_
          refine r_bipush C dX2_hash_70 (v := 8) (by decide) ?_
          refine r_aload_n C dX2_hash_72 rfl ?_
          refine r_get C dX2_hash_73 fgRX2_30 l_a (ws_ne (Ne.symm n_wd_a) (ws_ne (Ne.symm n_h_a) w_a)) rfl ?_
          refine r_imul C dX2_hash_76 ?_
          refine r_top (y := nI (8 * xs.length)) (pk_mul 8 xs.length) ?_
          refine r_iastN C dX2_hash_77 l_wd ws_eq (j := 14) rfl (by omega) (by decide) ?_
          refine r_eq rfl rfl ws_same ?_
          refine r_aload_n C dX2_hash_78 rfl ?_
          refine r_callVv C (As := []) (rest := []) dX2_hash_79 (cX2_mixWords9 l_h l_wd n_h_wd (ws_ne n_h_wd ws_eq) ws_eq) okX2_mixWords mlRX2_39 imX2_mixWords seX2_mixWords ⟨by decide, by decide⟩ rfl rfl l_h (ws_ne n_h_wd ws_eq) rfl rfl (Nat.le_of_ble_eq_true rfl) (by decide) (by decide) (fun w9 h9 => ?_)
          obtain rfl := h9
          refine r_eq rfl rfl ((ws_comm n_h_wd).trans (congrArg (fun z => wset z wd (ia 16 (upd f1 14 (nI (8 * xs.length))))) ws_same)) ?_
          refine r_iinc C dX2_hash_82 (v := nI (c + 1)) (L' := [some (.ref h), some (.ref a), some (.ref a), some (.int (nI ((xs.length + 8) / 64 + 1))), some (.int (nI (c + 1)))]) rfl (nI_add c 1) (by decide) rfl ?_
          refine r_goto C 40 dX2_hash_85 (by decide) ?_
          exact ih_40 (c + 1) _ ((mdC (upd f1 14 (nI (8 * xs.length))) (vA, vB, vC, vD)).1) ((mdC (upd f1 14 (nI (8 * xs.length))) (vA, vB, vC, vD)).2.1) ((mdC (upd f1 14 (nI (8 * xs.length))) (vA, vB, vC, vD)).2.2.1) ((mdC (upd f1 14 (nI (8 * xs.length))) (vA, vB, vC, vD)).2.2.2) (by unfold nch at *; omega) (by unfold nch; omega) (by show mdC _ _ = mdC (mdW xs c) (mdX xs c); rw [← he]; exact mdC_congr (fun j hj => mdW_last hp1 (by unfold nch; omega) j hj) _)
  refine r_eq rfl rfl (ws_self (ws_ne (Ne.symm n_h_wd) w_wd)).symm ?_
  exact loop_40 _ 0 fw 1732584193 (-271733879) (-1732584194) 271733878 (Nat.lt_succ_self _) (Nat.zero_le _) rfl
