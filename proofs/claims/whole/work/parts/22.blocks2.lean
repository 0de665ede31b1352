set_option maxHeartbeats 4000000 in
set_option maxRecDepth 100000 in
theorem cX0_makeBlock9 {w : Wo} {o cl bl be : Nat} (l_o : o < NW) (l_cl : cl < NW) (l_bl : bl < NW) (l_be : be < NW) (n_o_cl : o ≠ cl) (n_o_bl : o ≠ bl) (n_o_be : o ≠ be) (n_cl_bl : cl ≠ bl) (n_cl_be : cl ≠ be) (n_bl_be : bl ≠ be) {sb : Nat} (w_o : w o = ob 0 [.ref sb, .ref cl, .ref bl, .ref be]) {B K : Nat → Nat} {fe : Nat → Int32} (w_bl : w bl = ia 16 (nf B)) (w_cl : w cl = ia 176 (nf K)) (w_be : w be = ia 16 fe) (hB : b16 B) {KK : Nat → Nat} (hK : ∀ k, k < 176 → K k = KK k) (hKK : ∀ k, k < 176 → KK k < 256) : Ctr mX0_makeBlock [.ref o] w (PV fun w' => ∃ fe', w' = wset (wset w bl (ia 16 (nf (mkB KK B)))) be (ia 16 fe')) := by
  refine Ctr_intro okX0_makeBlock rfl (Nat.le_of_ble_eq_true rfl) (L := [some (.ref o), none]) rfl (fun g ct C T_ => ?_)
  refine r_aload_n C dX0_makeBlock_0 rfl ?_
  refine r_iconst C dX0_makeBlock_1 (v := 0) (by decide) ?_
  refine r_callVv C (As := [.int 0]) (rest := []) dX0_makeBlock_2 (cX0_addColumns9 l_o l_cl l_bl n_o_cl n_o_bl n_cl_bl w_o (B := B) w_bl w_cl hK (r := 0) (by omega)) okX0_addColumns mlRX0_50 imX0_addColumns seX0_addColumns ⟨by decide, by decide⟩ rfl rfl l_o w_o rfl rfl (Nat.le_of_ble_eq_true rfl) (by decide) (by decide) (fun w9 h9 => ?_)
  obtain rfl := h9
  refine r_iconst C dX0_makeBlock_5 (v := 1) (by decide) ?_
  refine r_istore_n C dX0_makeBlock_6 (L' := [some (.ref o), some (.int 1)]) (by decide) rfl ?_
  have loop_7 : ∀ (d9 : Nat) (r : Nat) (B1 : Nat → Nat) (fe1 : Nat → Int32), 10 - r < d9 → r ≤ 10 → B1 = mkR KK r B → Az g mX0_makeBlock ct 0 0 7 [some (.ref o), some (.int (nI (r + 1)))] [] (wset (wset w bl (ia 16 (nf B1))) be (ia 16 fe1)) := by
    intro d9
    induction d9 with
    | zero => intro r B1 fe1 hd9; exact absurd hd9 (Nat.not_lt_zero _)
    | succ d9 ih_7 =>
      intro r B1 fe1 hd9 hr hB1
      have hB6 : b16 B1 := by rw [hB1]; exact b16_mkR hKK hB r hr
      refine r_iload_n C dX0_makeBlock_7 rfl ?_
      refine r_bipush C dX0_makeBlock_8 (v := 10) (by decide) ?_
      refine r_icmp_gt C 38 dX0_makeBlock_10 (by decide) (fun c_10 => ?_) (fun c_10 => ?_)
      · skip
        have c_10 : 10 < (r + 1) := (nI_ltI (a := 10) (b := r + 1) (by omega) (by omega)).mp c_10
        exact r_return C T_ rfl dX0_makeBlock_38 (⟨rfl, _, by rw [hB1, show r = 10 by omega]; rfl⟩)
      · skip
        have c_10 : ¬ (10 < (r + 1)) := fun h9 => c_10 ((nI_ltI (a := 10) (b := r + 1) (by omega) (by omega)).mpr h9)
        refine r_aload_n C dX0_makeBlock_13 rfl ?_
        refine r_callVv C (As := []) (rest := []) dX0_makeBlock_14 (cX0_swapAndTurn9 l_o l_bl l_be n_o_bl n_o_be n_bl_be (ws_ne n_o_be (ws_ne n_o_bl w_o)) (B := B1) (ws_ne n_bl_be ws_eq) ws_eq hB6) okX0_swapAndTurn mlRX0_54 imX0_swapAndTurn seX0_swapAndTurn ⟨by decide, by decide⟩ rfl rfl l_o (ws_ne n_o_be (ws_ne n_o_bl w_o)) rfl rfl (Nat.le_of_ble_eq_true rfl) (by decide) (by decide) (fun w9 h9 => ?_)
        obtain ⟨fe1, rfl⟩ := h9
        refine r_eq rfl rfl ((congrArg (fun z => wset (z) bl (ia 16 (nf (swT B1)))) ws_same).trans ((ws_comm n_bl_be).trans (congrArg (fun z => wset z be (ia 16 fe1)) ws_same))) ?_
        refine r_iload_n C dX0_makeBlock_17 rfl ?_
        refine r_bipush C dX0_makeBlock_18 (v := 10) (by decide) ?_
        refine r_icmp_ge C 27 dX0_makeBlock_20 (by decide) (fun c_20 => ?_) (fun c_20 => ?_)
        · skip
          have c_20 : 10 ≤ (r + 1) := (nI_leI (a := 10) (b := r + 1) (by omega) (by omega)).mp c_20
          refine r_aload_n C dX0_makeBlock_27 rfl ?_
          refine r_iload_n C dX0_makeBlock_28 rfl ?_
          refine r_callVv C (As := [.int (nI (r + 1))]) (rest := []) dX0_makeBlock_29 (cX0_addColumns9 l_o l_cl l_bl n_o_cl n_o_bl n_cl_bl (ws_ne n_o_be (ws_ne n_o_bl w_o)) (B := swT B1) (ws_ne n_bl_be ws_eq) (ws_ne n_cl_be (ws_ne n_cl_bl w_cl)) hK (r := r + 1) (by omega)) okX0_addColumns mlRX0_50 imX0_addColumns seX0_addColumns ⟨by decide, by decide⟩ rfl rfl l_o (ws_ne n_o_be (ws_ne n_o_bl w_o)) rfl rfl (Nat.le_of_ble_eq_true rfl) (by decide) (by decide) (fun w9 h9 => ?_)
          obtain rfl := h9
          refine r_eq rfl rfl ((ws_comm n_bl_be).trans (congrArg (fun z => wset z be (ia 16 fe1)) ws_same)) ?_
          refine r_iinc C dX0_makeBlock_32 (v := nI ((r + 1) + 1)) (L' := [some (.ref o), some (.int (nI ((r + 1) + 1)))]) rfl (nI_add (r + 1) 1) (by decide) rfl ?_
          refine r_goto C 7 dX0_makeBlock_35 (by decide) ?_
          exact ih_7 (r + 1) _ _ (by omega) (by omega) (by rw [mkR, if_neg (show ¬ r + 1 < 10 by omega), ← hB1])
        · skip
          have c_20 : ¬ (10 ≤ (r + 1)) := fun h9 => c_20 ((nI_leI (a := 10) (b := r + 1) (by omega) (by omega)).mpr h9)
          refine r_aload_n C dX0_makeBlock_23 rfl ?_
          refine r_callVv C (As := []) (rest := []) dX0_makeBlock_24 (cX0_mixColumns9 l_o l_bl n_o_bl (ws_ne n_o_be (ws_ne n_o_bl w_o)) (B := swT B1) (ws_ne n_bl_be ws_eq) b16_swT) okX0_mixColumns mlRX0_57 imX0_mixColumns seX0_mixColumns ⟨by decide, by decide⟩ rfl rfl l_o (ws_ne n_o_be (ws_ne n_o_bl w_o)) rfl rfl (Nat.le_of_ble_eq_true rfl) (by decide) (by decide) (fun w9 h9 => ?_)
          obtain rfl := h9
          refine r_eq rfl rfl ((ws_comm n_bl_be).trans (congrArg (fun z => wset z be (ia 16 fe1)) ws_same)) ?_
          refine r_aload_n C dX0_makeBlock_27 rfl ?_
          refine r_iload_n C dX0_makeBlock_28 rfl ?_
          refine r_callVv C (As := [.int (nI (r + 1))]) (rest := []) dX0_makeBlock_29 (cX0_addColumns9 l_o l_cl l_bl n_o_cl n_o_bl n_cl_bl (ws_ne n_o_be (ws_ne n_o_bl w_o)) (B := mixC (swT B1)) (ws_ne n_bl_be ws_eq) (ws_ne n_cl_be (ws_ne n_cl_bl w_cl)) hK (r := r + 1) (by omega)) okX0_addColumns mlRX0_50 imX0_addColumns seX0_addColumns ⟨by decide, by decide⟩ rfl rfl l_o (ws_ne n_o_be (ws_ne n_o_bl w_o)) rfl rfl (Nat.le_of_ble_eq_true rfl) (by decide) (by decide) (fun w9 h9 => ?_)
          obtain rfl := h9
          refine r_eq rfl rfl ((ws_comm n_bl_be).trans (congrArg (fun z => wset z be (ia 16 fe1)) ws_same)) ?_
          refine r_iinc C dX0_makeBlock_32 (v := nI ((r + 1) + 1)) (L' := [some (.ref o), some (.int (nI ((r + 1) + 1)))]) rfl (nI_add (r + 1) 1) (by decide) rfl ?_
          refine r_goto C 7 dX0_makeBlock_35 (by decide) ?_
          exact ih_7 (r + 1) _ _ (by omega) (by omega) (by rw [mkR, if_pos (show r + 1 < 10 by omega), ← hB1])
  refine r_eq rfl rfl (ws_self (ws_ne (Ne.symm n_bl_be) w_be)).symm ?_
  exact loop_7 _ 0 _ fe (Nat.lt_succ_self _) (by omega) rfl
set_option maxHeartbeats 4000000 in
set_option maxRecDepth 100000 in
theorem cX0_unmakeBlock9 {w : Wo} {o sb cl bl be : Nat} (l_o : o < NW) (l_sb : sb < NW) (l_cl : cl < NW) (l_bl : bl < NW) (l_be : be < NW) (n_o_sb : o ≠ sb) (n_o_cl : o ≠ cl) (n_o_bl : o ≠ bl) (n_o_be : o ≠ be) (n_sb_cl : sb ≠ cl) (n_sb_bl : sb ≠ bl) (n_sb_be : sb ≠ be) (n_cl_bl : cl ≠ bl) (n_cl_be : cl ≠ be) (n_bl_be : bl ≠ be) (w_o : w o = ob 0 [.ref sb, .ref cl, .ref bl, .ref be]) {B K SB : Nat → Nat} {fe : Nat → Int32} (w_sb : w sb = ia 256 (nf SB)) (hsb : ∀ x, x < 256 → SB x = bk x) (w_bl : w bl = ia 16 (nf B)) (w_cl : w cl = ia 176 (nf K)) (w_be : w be = ia 16 fe) (hB : b16 B) {KK : Nat → Nat} (hK : ∀ k, k < 176 → K k = KK k) (hKK : ∀ k, k < 176 → KK k < 256) : Ctr mX0_unmakeBlock [.ref o] w (PV fun w' => ∃ fe', w' = wset (wset w bl (ia 16 (nf (umB KK B)))) be (ia 16 fe')) := by
  refine Ctr_intro okX0_unmakeBlock rfl (Nat.le_of_ble_eq_true rfl) (L := [some (.ref o), none]) rfl (fun g ct C T_ => ?_)
  refine r_bipush C dX0_unmakeBlock_0 (v := 10) (by decide) ?_
  refine r_istore_n C dX0_unmakeBlock_2 (L' := [some (.ref o), some (.int 10)]) (by decide) rfl ?_
  have loop_3 : ∀ (d9 : Nat) (r : Nat) (B1 : Nat → Nat) (fe1 : Nat → Int32), 10 - r < d9 → r ≤ 10 → B1 = umR KK r B → Az g mX0_unmakeBlock ct 0 0 3 [some (.ref o), some (.int (nI (10 - r)))] [] (wset (wset w bl (ia 16 (nf B1))) be (ia 16 fe1)) := by
    intro d9
    induction d9 with
    | zero => intro r B1 fe1 hd9; exact absurd hd9 (Nat.not_lt_zero _)
    | succ d9 ih_3 =>
      intro r B1 fe1 hd9 hr hB1
      have hB6 : b16 B1 := by rw [hB1]; exact b16_umR hKK hB r hr
      refine r_iload_n C dX0_unmakeBlock_3 rfl ?_
      refine r_iconst C dX0_unmakeBlock_4 (v := 1) (by decide) ?_
      refine r_icmp_lt C 33 dX0_unmakeBlock_5 (by decide) (fun c_5 => ?_) (fun c_5 => ?_)
      · skip
        have c_5 : (10 - r) < 1 := (nI_ltI (a := 10 - r) (b := 1) (by omega) (by omega)).mp c_5
        refine r_aload_n C dX0_unmakeBlock_33 rfl ?_
        refine r_iconst C dX0_unmakeBlock_34 (v := 0) (by decide) ?_
        refine r_callVv C (As := [.int 0]) (rest := []) dX0_unmakeBlock_35 (cX0_addColumns9 l_o l_cl l_bl n_o_cl n_o_bl n_cl_bl (ws_ne n_o_be (ws_ne n_o_bl w_o)) (B := B1) (ws_ne n_bl_be ws_eq) (ws_ne n_cl_be (ws_ne n_cl_bl w_cl)) hK (r := 0) (by omega)) okX0_addColumns mlRX0_50 imX0_addColumns seX0_addColumns ⟨by decide, by decide⟩ rfl rfl l_o (ws_ne n_o_be (ws_ne n_o_bl w_o)) rfl rfl (Nat.le_of_ble_eq_true rfl) (by decide) (by decide) (fun w9 h9 => ?_)
        obtain rfl := h9
        refine r_eq rfl rfl ((ws_comm n_bl_be).trans (congrArg (fun z => wset z be (ia 16 fe1)) ws_same)) ?_
        exact r_return C T_ rfl dX0_unmakeBlock_38 (⟨rfl, _, by rw [hB1, show r = 10 by omega]; rfl⟩)
      · skip
        have c_5 : ¬ ((10 - r) < 1) := fun h9 => c_5 ((nI_ltI (a := 10 - r) (b := 1) (by omega) (by omega)).mpr h9)
        refine r_aload_n C dX0_unmakeBlock_8 rfl ?_
        refine r_iload_n C dX0_unmakeBlock_9 rfl ?_
        refine r_callVv C (As := [.int (nI (10 - r))]) (rest := []) dX0_unmakeBlock_10 (cX0_addColumns9 l_o l_cl l_bl n_o_cl n_o_bl n_cl_bl (ws_ne n_o_be (ws_ne n_o_bl w_o)) (B := B1) (ws_ne n_bl_be ws_eq) (ws_ne n_cl_be (ws_ne n_cl_bl w_cl)) hK (r := 10 - r) (by omega)) okX0_addColumns mlRX0_50 imX0_addColumns seX0_addColumns ⟨by decide, by decide⟩ rfl rfl l_o (ws_ne n_o_be (ws_ne n_o_bl w_o)) rfl rfl (Nat.le_of_ble_eq_true rfl) (by decide) (by decide) (fun w9 h9 => ?_)
        obtain rfl := h9
        refine r_eq rfl rfl ((ws_comm n_bl_be).trans (congrArg (fun z => wset z be (ia 16 fe1)) ws_same)) ?_
        refine r_iload_n C dX0_unmakeBlock_13 rfl ?_
        refine r_bipush C dX0_unmakeBlock_14 (v := 10) (by decide) ?_
        refine r_icmp_ge C 23 dX0_unmakeBlock_16 (by decide) (fun c_16 => ?_) (fun c_16 => ?_)
        · skip
          have c_16 : 10 ≤ (10 - r) := (nI_leI (a := 10) (b := 10 - r) (by omega) (by omega)).mp c_16
          refine r_aload_n C dX0_unmakeBlock_23 rfl ?_
          refine r_callVv C (As := []) (rest := []) dX0_unmakeBlock_24 (cX0_swapAndTurnBack9 l_o l_sb l_bl l_be n_o_sb n_o_bl n_o_be n_sb_bl n_sb_be n_bl_be (ws_ne n_o_be (ws_ne n_o_bl w_o)) (B := addC KK (10 - r) B1) (ws_ne n_sb_be (ws_ne n_sb_bl w_sb)) hsb (ws_ne n_bl_be ws_eq) ws_eq (b16_addC hKK (by omega) hB6)) okX0_swapAndTurnBack mlRX0_63 imX0_swapAndTurnBack seX0_swapAndTurnBack ⟨by decide, by decide⟩ rfl rfl l_o (ws_ne n_o_be (ws_ne n_o_bl w_o)) rfl rfl (Nat.le_of_ble_eq_true rfl) (by decide) (by decide) (fun w9 h9 => ?_)
          obtain ⟨fe1, rfl⟩ := h9
          refine r_eq rfl rfl ((congrArg (fun z => wset (z) bl (ia 16 (nf (swTB (addC KK (10 - r) B1))))) ws_same).trans ((ws_comm n_bl_be).trans (congrArg (fun z => wset z be (ia 16 fe1)) ws_same))) ?_
          refine r_iinc C dX0_unmakeBlock_27 (v := nI (10 - (r + 1))) (L' := [some (.ref o), some (.int (nI (10 - (r + 1))))]) rfl ((nI_dec1 (by omega)).trans (congrArg nI (by omega))) (by decide) rfl ?_
          refine r_goto C 3 dX0_unmakeBlock_30 (by decide) ?_
          exact ih_3 (r + 1) _ _ (by omega) (by omega) (by rw [umR, if_neg (show ¬ 10 - r < 10 by omega), ← hB1])
        · skip
          have c_16 : ¬ (10 ≤ (10 - r)) := fun h9 => c_16 ((nI_leI (a := 10) (b := 10 - r) (by omega) (by omega)).mpr h9)
          refine r_aload_n C dX0_unmakeBlock_19 rfl ?_
          refine r_callVv C (As := []) (rest := []) dX0_unmakeBlock_20 (cX0_unmixColumns9 l_o l_bl n_o_bl (ws_ne n_o_be (ws_ne n_o_bl w_o)) (B := addC KK (10 - r) B1) (ws_ne n_bl_be ws_eq) (b16_addC hKK (by omega) hB6)) okX0_unmixColumns mlRX0_60 imX0_unmixColumns seX0_unmixColumns ⟨by decide, by decide⟩ rfl rfl l_o (ws_ne n_o_be (ws_ne n_o_bl w_o)) rfl rfl (Nat.le_of_ble_eq_true rfl) (by decide) (by decide) (fun w9 h9 => ?_)
          obtain rfl := h9
          refine r_eq rfl rfl ((ws_comm n_bl_be).trans (congrArg (fun z => wset z be (ia 16 fe1)) ws_same)) ?_
          refine r_aload_n C dX0_unmakeBlock_23 rfl ?_
          refine r_callVv C (As := []) (rest := []) dX0_unmakeBlock_24 (cX0_swapAndTurnBack9 l_o l_sb l_bl l_be n_o_sb n_o_bl n_o_be n_sb_bl n_sb_be n_bl_be (ws_ne n_o_be (ws_ne n_o_bl w_o)) (B := unmixC (addC KK (10 - r) B1)) (ws_ne n_sb_be (ws_ne n_sb_bl w_sb)) hsb (ws_ne n_bl_be ws_eq) ws_eq (b16_unmixC (b16_addC hKK (by omega) hB6))) okX0_swapAndTurnBack mlRX0_63 imX0_swapAndTurnBack seX0_swapAndTurnBack ⟨by decide, by decide⟩ rfl rfl l_o (ws_ne n_o_be (ws_ne n_o_bl w_o)) rfl rfl (Nat.le_of_ble_eq_true rfl) (by decide) (by decide) (fun w9 h9 => ?_)
          obtain ⟨fe2, rfl⟩ := h9
          refine r_eq rfl rfl ((congrArg (fun z => wset (z) bl (ia 16 (nf (swTB (unmixC (addC KK (10 - r) B1)))))) ws_same).trans ((ws_comm n_bl_be).trans (congrArg (fun z => wset z be (ia 16 fe2)) ws_same))) ?_
          refine r_iinc C dX0_unmakeBlock_27 (v := nI (10 - (r + 1))) (L' := [some (.ref o), some (.int (nI (10 - (r + 1))))]) rfl ((nI_dec1 (by omega)).trans (congrArg nI (by omega))) (by decide) rfl ?_
          refine r_goto C 3 dX0_unmakeBlock_30 (by decide) ?_
          exact ih_3 (r + 1) _ _ (by omega) (by omega) (by rw [umR, if_pos (show 10 - r < 10 by omega), ← hB1])
  refine r_eq rfl rfl (ws_self w_bl).symm ?_
  refine r_eq rfl rfl (ws_self (ws_ne (Ne.symm n_bl_be) w_be)).symm ?_
  exact loop_3 _ 0 _ fe (Nat.lt_succ_self _) (by omega) rfl
theorem gd_ge {xs : List Nat} {k : Nat} (h : xs.length ≤ k) : xs.getD k 0 = 0 := by simp [List.getD, List.getElem?_eq_none h]
theorem ex4 {K1 X : Nat → Nat} {m x0 x1 x2 x3 : Nat} (h : ∀ k, k < 4 * (m + 4) → K1 k = X k) : ∀ k, k < 4 * (m + 1 + 4) → upn (upn (upn (upn K1 (4 * (m + 4)) x0) (4 * (m + 4) + 1) x1) (4 * (m + 4) + 2) x2) (4 * (m + 4) + 3) x3 k = upn (upn (upn (upn X (4 * (m + 4)) x0) (4 * (m + 4) + 1) x1) (4 * (m + 4) + 2) x2) (4 * (m + 4) + 3) x3 k := by
  intro k hk
  unfold upn
  split
  · rfl
  · split
    · rfl
    · split
      · rfl
      · split
        · rfl
        · exact h k (by omega)
theorem exs {K2 X : Nat → Nat} {i j : Nat} (h4 : ∀ m, i ≤ m → m < i + j → K2 m = X (m - 16) ^^^ X (m - 4)) : ∀ m, i ≤ m → m < i + (j + 1) → upn K2 (i + j) (X (i + j - 16) ^^^ X (i + j - 4)) m = X (m - 16) ^^^ X (m - 4) := by
  intro m h1 h2
  unfold upn
  by_cases e : m = i + j
  · rw [if_pos e, e]
  · rw [if_neg e]
    exact h4 m h1 (by omega)
theorem exn {K2 X : Nat → Nat} {c j : Nat} (h3 : ∀ m, m < 4 * (c + 4) → K2 m = X m) (h4 : ∀ m, 4 * (c + 4) ≤ m → m < 4 * (c + 4) + j → K2 m = X (m - 16) ^^^ X (m - 4)) (hj : 4 ≤ j) : ∀ k, k < 4 * (c + 1 + 4) → K2 k = if 4 * (c + 4) ≤ k ∧ k < 4 * (c + 4) + 4 then X (k - 16) ^^^ X (k - 4) else X k := by
  intro k hk
  by_cases e : k < 4 * (c + 4)
  · rw [if_neg (by omega)]
    exact h3 k e
  · rw [if_pos (by omega)]
    exact h4 k (by omega) (by omega)
set_option maxHeartbeats 4000000 in
set_option maxRecDepth 100000 in
theorem cX0_expand9 {w : Wo} {o cl a b : Nat} (l_o : o < NW) (l_cl : cl < NW) (l_a : a < NW) (l_b : b < NW) (n_o_cl : o ≠ cl) (n_o_a : o ≠ a) (n_o_b : o ≠ b) (n_cl_a : cl ≠ a) (n_cl_b : cl ≠ b) (n_a_b : a ≠ b) {sb bl be n : Nat} (w_o : w o = ob 0 [.ref sb, .ref cl, .ref bl, .ref be]) {K : Nat → Nat} (w_cl : w cl = ia 176 (nf K)) {f : Nat → Int32} {xs : List Nat} (w_a : w a = ob 3 [.ref b, .int (nI xs.length)]) (w_b : w b = ia n f) (h_xs : hs f xs) (k_xs : xs.length ≤ n) (hn : n < 2 ^ 31) (h16 : xs.length ≤ 16) (hbx : byt xs) : Ctr mX0_expand [.ref o, .ref a] w (PV fun w' => ∃ K', w' = wset w cl (ia 176 (nf K')) ∧ ∀ k, k < 176 → K' k = kx xs k) := by
  refine Ctr_intro okX0_expand rfl (Nat.le_of_ble_eq_true rfl) (L := [some (.ref o), some (.ref a), none, none, none]) rfl (fun g ct C T_ => ?_)
  refine r_iconst C dX0_expand_0 (v := 0) (by decide) ?_
  refine r_istore_n C dX0_expand_1 (L' := [some (.ref o), some (.ref a), some (.int 0), none, none]) (by decide) rfl ?_
  have loop_2 : ∀ (d9 : Nat) (i : Nat) (K1 : Nat → Nat), 16 - i < d9 → i ≤ 16 → (∀ k, k < i → K1 k = xs.getD k 0) → Az g mX0_expand ct 0 0 2 [some (.ref o), some (.ref a), some (.int (nI i)), none, none] [] (wset w cl (ia 176 (nf K1))) := by
    intro d9
    induction d9 with
    | zero => intro i K1 hd9; exact absurd hd9 (Nat.not_lt_zero _)
    | succ d9 ih_2 =>
      intro i K1 hd9 hi h1
      refine r_iload_n C dX0_expand_2 rfl ?_
      refine r_bipush C dX0_expand_3 (v := 16) (by decide) ?_
      refine r_icmp_ge C 38 dX0_expand_5 (by decide) (fun c_5 => ?_) (fun c_5 => ?_)
      · skip
        have c_5 : 16 ≤ i := (nI_leI (a := 16) (b := i) (by omega) (by omega)).mp c_5
        refine r_iconst C dX0_expand_38 (v := 1) (by decide) ?_
        refine r_istore_n C dX0_expand_39 (L' := [some (.ref o), some (.ref a), some (.int 1), none, none]) (by decide) rfl ?_
        refine r_bipush C dX0_expand_40 (v := 16) (by decide) ?_
        refine r_istore_n C dX0_expand_42 (L' := [some (.ref o), some (.ref a), some (.int 1), some (.int 16), none]) (by decide) rfl ?_
        have loop_43 : ∀ (d9 : Nat) (c : Nat) (e : Nat) (X : Nat → Nat) (K1 : Nat → Nat), 40 - c < d9 → c ≤ 40 → X = (exS (fun k => xs.getD k 0) c).1 → e = (exS (fun k => xs.getD k 0) c).2 → (∀ k, k < 4 * (c + 4) → K1 k = X k) → Az g mX0_expand ct 0 0 43 [some (.ref o), some (.ref a), some (.int (nI e)), some (.int (nI (4 * (c + 4)))), none] [] (wset w cl (ia 176 (nf K1))) := by
          intro d9
          induction d9 with
          | zero => intro c e X K1 hd9; exact absurd hd9 (Nat.not_lt_zero _)
          | succ d9 ih_43 =>
            intro c e X K1 hd9 hc hX he h2
            have hX6 : ∀ k, X k < 256 := by rw [hX]; exact (exS_lt (fun k => byt_getD hbx k) c).1
            have he6 : e < 256 := by rw [he]; exact (exS_lt (fun k => byt_getD hbx k) c).2
            refine r_iload_n C dX0_expand_43 rfl ?_
            refine r_aload_n C dX0_expand_44 rfl ?_
            refine r_get C dX0_expand_45 fgRX0_15 l_o (ws_ne n_o_cl w_o) rfl ?_
            refine r_alen C dX0_expand_48 l_cl ws_eq ?_
            refine r_icmp_ge C 253 dX0_expand_49 (by decide) (fun c_49 => ?_) (fun c_49 => ?_)
            · skip
              have c_49 : 176 ≤ (4 * (c + 4)) := (nI_leI (a := 176) (b := 4 * (c + 4)) (by omega) (by omega)).mp c_49
              exact r_return C T_ rfl dX0_expand_253 (⟨rfl, K1, rfl, fun k hk => (h2 k (by omega)).trans (by rw [hX, show c = 40 by omega]; rfl)⟩)
            · skip
              have c_49 : ¬ (176 ≤ (4 * (c + 4))) := fun h9 => c_49 ((nI_leI (a := 176) (b := 4 * (c + 4)) (by omega) (by omega)).mpr h9)
              refine r_iload_n C dX0_expand_52 rfl ?_
              refine r_bipush C dX0_expand_53 (v := 16) (by decide) ?_
              refine r_irem C dX0_expand_55 (by decide) ?_
              refine r_top (y := nI ((4 * (c + 4)) % 16)) (pk_rem (a := 4 * (c + 4)) (d := 16) (by omega) (by omega) (by omega)) ?_
              refine r_if_ne C 203 dX0_expand_56 (by decide) (fun c_56 => ?_) (fun c_56 => ?_)
              · skip
                have c_56 : ¬ (((4 * (c + 4)) % 16) = 0) := fun h9 => c_56 ((nI_eq (a := (4 * (c + 4)) % 16) (b := 0) (by omega) (by omega)).mpr h9)
                refine r_iload_n C dX0_expand_203 rfl ?_
                refine r_istore C dX0_expand_204 (L' := [some (.ref o), some (.ref a), some (.int (nI e)), some (.int (nI (4 * (c + 4)))), some (.int (nI (4 * (c + 4))))]) (by decide) rfl ?_
                have loop_206 : ∀ (d9 : Nat) (j : Nat) (K2 : Nat → Nat), 4 - j < d9 → j ≤ 4 → (∀ m, m < 4 * (c + 4) → K2 m = X m) → (∀ m, 4 * (c + 4) ≤ m → m < 4 * (c + 4) + j → K2 m = X (m - 16) ^^^ X (m - 4)) → Az g mX0_expand ct 0 0 206 [some (.ref o), some (.ref a), some (.int (nI e)), some (.int (nI (4 * (c + 4)))), some (.int (nI (4 * (c + 4) + j)))] [] (wset w cl (ia 176 (nf K2))) := by
                  intro d9
                  induction d9 with
                  | zero => intro j K2 hd9; exact absurd hd9 (Nat.not_lt_zero _)
                  | succ d9 ih_206 =>
                    intro j K2 hd9 hj h3 h4
                    refine r_iload C dX0_expand_206 rfl ?_
                    refine r_iload_n C dX0_expand_208 rfl ?_
                    refine r_iconst C dX0_expand_209 (v := 4) (by decide) ?_
                    refine r_iadd C dX0_expand_210 ?_
                    refine r_top (y := nI ((4 * (c + 4)) + 4)) (nI_add (4 * (c + 4)) 4) ?_
                    refine r_icmp_ge C 247 dX0_expand_211 (by decide) (fun c_211 => ?_) (fun c_211 => ?_)
                    · skip
                      have c_211 : ((4 * (c + 4)) + 4) ≤ (4 * (c + 4) + j) := (nI_leI (a := (4 * (c + 4)) + 4) (b := 4 * (c + 4) + j) (by omega) (by omega)).mp c_211
                      refine r_iinc C dX0_expand_247 (v := nI (4 * (c + 1 + 4))) (L' := [some (.ref o), some (.ref a), some (.int (nI e)), some (.int (nI (4 * (c + 1 + 4)))), some (.int (nI (4 * (c + 4) + j)))]) rfl ((nI_add (4 * (c + 4)) 4).trans (congrArg nI (by omega))) (by decide) rfl ?_
                      refine r_goto C 43 dX0_expand_250 (by decide) ?_
                      refine r_forget [some (.ref o), some (.ref a), some (.int (nI e)), some (.int (nI (4 * (c + 1 + 4)))), none] ⟨Or.inr rfl, Or.inr rfl, Or.inr rfl, Or.inr rfl, Or.inl rfl, trivial⟩ ?_
                      exact ih_43 (c + 1) e _ _ (by omega) (by omega) rfl (by rw [exS, if_neg (by omega), he]) (by rw [exS, if_neg (by omega), ← hX]; exact exn h3 h4 (by omega))
                    · skip
                      have c_211 : ¬ (((4 * (c + 4)) + 4) ≤ (4 * (c + 4) + j)) := fun h9 => c_211 ((nI_leI (a := (4 * (c + 4)) + 4) (b := 4 * (c + 4) + j) (by omega) (by omega)).mpr h9)
                      refine r_aload_n C dX0_expand_214 rfl ?_
                      refine r_get C dX0_expand_215 fgRX0_15 l_o (ws_ne n_o_cl w_o) rfl ?_
                      refine r_iload C dX0_expand_218 rfl ?_
                      refine r_aload_n C dX0_expand_220 rfl ?_
                      refine r_get C dX0_expand_221 fgRX0_15 l_o (ws_ne n_o_cl w_o) rfl ?_
                      refine r_iload C dX0_expand_224 rfl ?_
                      refine r_bipush C dX0_expand_226 (v := 16) (by decide) ?_
                      refine r_isub C dX0_expand_228 ?_
                      refine r_top (y := nI ((4 * (c + 4) + j) - 16)) (pk_sub (a := 4 * (c + 4) + j) (b := 16) (by omega)) ?_
                      refine r_ialdN C dX0_expand_229 l_cl ws_eq (j := (4 * (c + 4) + j) - 16) rfl (by omega) (by decide) ?_
                      refine r_top (y := nI (X (4 * (c + 4) + j - 16))) (congrArg nI (h3 _ (by omega))) ?_
                      refine r_aload_n C dX0_expand_230 rfl ?_
                      refine r_get C dX0_expand_231 fgRX0_15 l_o (ws_ne n_o_cl w_o) rfl ?_
                      refine r_iload C dX0_expand_234 rfl ?_
                      refine r_iconst C dX0_expand_236 (v := 4) (by decide) ?_
                      refine r_isub C dX0_expand_237 ?_
                      refine r_top (y := nI ((4 * (c + 4) + j) - 4)) (pk_sub (a := 4 * (c + 4) + j) (b := 4) (by omega)) ?_
                      refine r_ialdN C dX0_expand_238 l_cl ws_eq (j := (4 * (c + 4) + j) - 4) rfl (by omega) (by decide) ?_
                      refine r_top (y := nI (X (4 * (c + 4) + j - 4))) (congrArg nI (h3 _ (by omega))) ?_
                      refine r_ixor C dX0_expand_239 ?_
                      refine r_top (y := nI ((X (4 * (c + 4) + j - 16)) ^^^ (X (4 * (c + 4) + j - 4)))) (nx_xor9 (X (4 * (c + 4) + j - 16)) (X (4 * (c + 4) + j - 4))) ?_
                      refine r_iastF C dX0_expand_240 l_cl ws_eq (j := 4 * (c + 4) + j) (x := (X (4 * (c + 4) + j - 16)) ^^^ (X (4 * (c + 4) + j - 4))) rfl rfl (by omega) (by decide) ?_
                      refine r_eq rfl rfl ws_same ?_
                      refine r_iinc C dX0_expand_241 (v := nI ((4 * (c + 4) + j) + 1)) (L' := [some (.ref o), some (.ref a), some (.int (nI e)), some (.int (nI (4 * (c + 4)))), some (.int (nI ((4 * (c + 4) + j) + 1)))]) rfl (nI_add (4 * (c + 4) + j) 1) (by decide) rfl ?_
                      refine r_goto C 206 dX0_expand_244 (by decide) ?_
                      exact ih_206 (j + 1) _ (by omega) (by omega) (fun m hm => by rw [upn_ne (by omega)]; exact h3 m hm) (exs h4)
                exact loop_206 _ 0 K1 (Nat.lt_succ_self _) (by omega) h2 (fun m h8 h9 => absurd h8 (by omega))
              · skip
                have c_56 : ((4 * (c + 4)) % 16) = 0 := (nI_eq (a := (4 * (c + 4)) % 16) (b := 0) (by omega) (by omega)).mp c_56
                refine r_aload_n C dX0_expand_59 rfl ?_
                refine r_get C dX0_expand_60 fgRX0_15 l_o (ws_ne n_o_cl w_o) rfl ?_
                refine r_iload_n C dX0_expand_63 rfl ?_
                refine r_aload_n C dX0_expand_64 rfl ?_
                refine r_get C dX0_expand_65 fgRX0_15 l_o (ws_ne n_o_cl w_o) rfl ?_
                refine r_iload_n C dX0_expand_68 rfl ?_
                refine r_bipush C dX0_expand_69 (v := 16) (by decide) ?_
                refine r_isub C dX0_expand_71 ?_
                refine r_top (y := nI ((4 * (c + 4)) - 16)) (pk_sub (a := 4 * (c + 4)) (b := 16) (by omega)) ?_
                refine r_ialdN C dX0_expand_72 l_cl ws_eq (j := (4 * (c + 4)) - 16) rfl (by omega) (by decide) ?_
                refine r_top (y := nI (X (4 * (c + 4) - 16))) (congrArg nI (by exact h2 _ (by omega))) ?_
                refine r_gets C (j := 0) dX0_expand_73 rfl slRX0_24 ?_
                refine r_aload_n C dX0_expand_76 rfl ?_
                refine r_get C dX0_expand_77 fgRX0_15 l_o (ws_ne n_o_cl w_o) rfl ?_
                refine r_iload_n C dX0_expand_80 rfl ?_
                refine r_iconst C dX0_expand_81 (v := 3) (by decide) ?_
                refine r_isub C dX0_expand_82 ?_
                refine r_top (y := nI ((4 * (c + 4)) - 3)) (pk_sub (a := 4 * (c + 4)) (b := 3) (by omega)) ?_
                refine r_ialdN C dX0_expand_83 l_cl ws_eq (j := (4 * (c + 4)) - 3) rfl (by omega) (by decide) ?_
                refine r_top (y := nI (X (4 * (c + 4) - 3))) (congrArg nI (by exact h2 _ (by omega))) ?_
                refine r_sipush C dX0_expand_84 (v := 255) (by decide) ?_
                refine r_iand C dX0_expand_87 ?_
                refine r_top (y := nI (X (4 * (c + 4) - 3))) ((pk_andN (n := X (4 * (c + 4) - 3)) (by have := hX6 (4 * (c + 4) - 3); omega) 8 rfl).trans (congrArg nI (Nat.mod_eq_of_lt (hX6 _)))) ?_
                refine r_tald C dX0_expand_88 (j := 0) (t := X (4 * (c + 4) - 3)) rfl rfl rfl (by show _ < 256; exact hX6 _) (by decide) ?_
                refine r_top (y := nI (sw (X (4 * (c + 4) - 3)))) (sw_tab (X (4 * (c + 4) - 3))) ?_
                refine r_ixor C dX0_expand_89 ?_
                refine r_top (y := nI ((X (4 * (c + 4) - 16)) ^^^ (sw (X (4 * (c + 4) - 3))))) (nx_xor9 (X (4 * (c + 4) - 16)) (sw (X (4 * (c + 4) - 3)))) ?_
                refine r_iload_n C dX0_expand_90 rfl ?_
                refine r_ixor C dX0_expand_91 ?_
                refine r_top (y := nI (((X (4 * (c + 4) - 16)) ^^^ (sw (X (4 * (c + 4) - 3)))) ^^^ e)) (nx_xor9 ((X (4 * (c + 4) - 16)) ^^^ (sw (X (4 * (c + 4) - 3)))) e) ?_
                refine r_iastF C dX0_expand_92 l_cl ws_eq (j := 4 * (c + 4)) (x := ((X (4 * (c + 4) - 16)) ^^^ (sw (X (4 * (c + 4) - 3)))) ^^^ e) rfl rfl (by omega) (by decide) ?_
                refine r_eq rfl rfl ws_same ?_
                refine r_aload_n C dX0_expand_93 rfl ?_
                refine r_get C dX0_expand_94 fgRX0_15 l_o (ws_ne n_o_cl w_o) rfl ?_
                refine r_iload_n C dX0_expand_97 rfl ?_
                refine r_iconst C dX0_expand_98 (v := 1) (by decide) ?_
                refine r_iadd C dX0_expand_99 ?_
                refine r_top (y := nI ((4 * (c + 4)) + 1)) (nI_add (4 * (c + 4)) 1) ?_
                refine r_aload_n C dX0_expand_100 rfl ?_
                refine r_get C dX0_expand_101 fgRX0_15 l_o (ws_ne n_o_cl w_o) rfl ?_
                refine r_iload_n C dX0_expand_104 rfl ?_
                refine r_bipush C dX0_expand_105 (v := 15) (by decide) ?_
                refine r_isub C dX0_expand_107 ?_
                refine r_top (y := nI ((4 * (c + 4)) - 15)) (pk_sub (a := 4 * (c + 4)) (b := 15) (by omega)) ?_
                refine r_ialdN C dX0_expand_108 l_cl ws_eq (j := (4 * (c + 4)) - 15) rfl (by omega) (by decide) ?_
                refine r_top (y := nI (X (4 * (c + 4) - 15))) (congrArg nI (by rw [upn_ne (by omega)]; exact h2 _ (by omega))) ?_
                refine r_gets C (j := 0) dX0_expand_109 rfl slRX0_24 ?_
                refine r_aload_n C dX0_expand_112 rfl ?_
                refine r_get C dX0_expand_113 fgRX0_15 l_o (ws_ne n_o_cl w_o) rfl ?_
                refine r_iload_n C dX0_expand_116 rfl ?_
                refine r_iconst C dX0_expand_117 (v := 2) (by decide) ?_
                refine r_isub C dX0_expand_118 ?_
                refine r_top (y := nI ((4 * (c + 4)) - 2)) (pk_sub (a := 4 * (c + 4)) (b := 2) (by omega)) ?_
                refine r_ialdN C dX0_expand_119 l_cl ws_eq (j := (4 * (c + 4)) - 2) rfl (by omega) (by decide) ?_
                refine r_top (y := nI (X (4 * (c + 4) - 2))) (congrArg nI (by rw [upn_ne (by omega)]; exact h2 _ (by omega))) ?_
                refine r_sipush C dX0_expand_120 (v := 255) (by decide) ?_
                refine r_iand C dX0_expand_123 ?_
                refine r_top (y := nI (X (4 * (c + 4) - 2))) ((pk_andN (n := X (4 * (c + 4) - 2)) (by have := hX6 (4 * (c + 4) - 2); omega) 8 rfl).trans (congrArg nI (Nat.mod_eq_of_lt (hX6 _)))) ?_
                refine r_tald C dX0_expand_124 (j := 0) (t := X (4 * (c + 4) - 2)) rfl rfl rfl (by show _ < 256; exact hX6 _) (by decide) ?_
                refine r_top (y := nI (sw (X (4 * (c + 4) - 2)))) (sw_tab (X (4 * (c + 4) - 2))) ?_
                refine r_ixor C dX0_expand_125 ?_
                refine r_top (y := nI ((X (4 * (c + 4) - 15)) ^^^ (sw (X (4 * (c + 4) - 2))))) (nx_xor9 (X (4 * (c + 4) - 15)) (sw (X (4 * (c + 4) - 2)))) ?_
                refine r_iastF C dX0_expand_126 l_cl ws_eq (j := (4 * (c + 4)) + 1) (x := (X (4 * (c + 4) - 15)) ^^^ (sw (X (4 * (c + 4) - 2)))) rfl rfl (by omega) (by decide) ?_
                refine r_eq rfl rfl ws_same ?_
                refine r_aload_n C dX0_expand_127 rfl ?_
                refine r_get C dX0_expand_128 fgRX0_15 l_o (ws_ne n_o_cl w_o) rfl ?_
                refine r_iload_n C dX0_expand_131 rfl ?_
                refine r_iconst C dX0_expand_132 (v := 2) (by decide) ?_
                refine r_iadd C dX0_expand_133 ?_
                refine r_top (y := nI ((4 * (c + 4)) + 2)) (nI_add (4 * (c + 4)) 2) ?_
                refine r_aload_n C dX0_expand_134 rfl ?_
                refine r_get C dX0_expand_135 fgRX0_15 l_o (ws_ne n_o_cl w_o) rfl ?_
                refine r_iload_n C dX0_expand_138 rfl ?_
                refine r_bipush C dX0_expand_139 (v := 14) (by decide) ?_
                refine r_isub C dX0_expand_141 ?_
                refine r_top (y := nI ((4 * (c + 4)) - 14)) (pk_sub (a := 4 * (c + 4)) (b := 14) (by omega)) ?_
                refine r_ialdN C dX0_expand_142 l_cl ws_eq (j := (4 * (c + 4)) - 14) rfl (by omega) (by decide) ?_
                refine r_top (y := nI (X (4 * (c + 4) - 14))) (congrArg nI (by rw [upn_ne (by omega)]; rw [upn_ne (by omega)]; exact h2 _ (by omega))) ?_
                refine r_gets C (j := 0) dX0_expand_143 rfl slRX0_24 ?_
                refine r_aload_n C dX0_expand_146 rfl ?_
                refine r_get C dX0_expand_147 fgRX0_15 l_o (ws_ne n_o_cl w_o) rfl ?_
                refine r_iload_n C dX0_expand_150 rfl ?_
                refine r_iconst C dX0_expand_151 (v := 1) (by decide) ?_
                refine r_isub C dX0_expand_152 ?_
                refine r_top (y := nI ((4 * (c + 4)) - 1)) (pk_sub (a := 4 * (c + 4)) (b := 1) (by omega)) ?_
                refine r_ialdN C dX0_expand_153 l_cl ws_eq (j := (4 * (c + 4)) - 1) rfl (by omega) (by decide) ?_
                refine r_top (y := nI (X (4 * (c + 4) - 1))) (congrArg nI (by rw [upn_ne (by omega)]; rw [upn_ne (by omega)]; exact h2 _ (by omega))) ?_
                refine r_sipush C dX0_expand_154 (v := 255) (by decide) ?_
                refine r_iand C dX0_expand_157 ?_
                refine r_top (y := nI (X (4 * (c + 4) - 1))) ((pk_andN (n := X (4 * (c + 4) - 1)) (by have := hX6 (4 * (c + 4) - 1); omega) 8 rfl).trans (congrArg nI (Nat.mod_eq_of_lt (hX6 _)))) ?_
                refine r_tald C dX0_expand_158 (j := 0) (t := X (4 * (c + 4) - 1)) rfl rfl rfl (by show _ < 256; exact hX6 _) (by decide) ?_
                refine r_top (y := nI (sw (X (4 * (c + 4) - 1)))) (sw_tab (X (4 * (c + 4) - 1))) ?_
                refine r_ixor C dX0_expand_159 ?_
                refine r_top (y := nI ((X (4 * (c + 4) - 14)) ^^^ (sw (X (4 * (c + 4) - 1))))) (nx_xor9 (X (4 * (c + 4) - 14)) (sw (X (4 * (c + 4) - 1)))) ?_
                refine r_iastF C dX0_expand_160 l_cl ws_eq (j := (4 * (c + 4)) + 2) (x := (X (4 * (c + 4) - 14)) ^^^ (sw (X (4 * (c + 4) - 1)))) rfl rfl (by omega) (by decide) ?_
                refine r_eq rfl rfl ws_same ?_
                refine r_aload_n C dX0_expand_161 rfl ?_
                refine r_get C dX0_expand_162 fgRX0_15 l_o (ws_ne n_o_cl w_o) rfl ?_
                refine r_iload_n C dX0_expand_165 rfl ?_
                refine r_iconst C dX0_expand_166 (v := 3) (by decide) ?_
                refine r_iadd C dX0_expand_167 ?_
                refine r_top (y := nI ((4 * (c + 4)) + 3)) (nI_add (4 * (c + 4)) 3) ?_
                refine r_aload_n C dX0_expand_168 rfl ?_
                refine r_get C dX0_expand_169 fgRX0_15 l_o (ws_ne n_o_cl w_o) rfl ?_
                refine r_iload_n C dX0_expand_172 rfl ?_
                refine r_bipush C dX0_expand_173 (v := 13) (by decide) ?_
                refine r_isub C dX0_expand_175 ?_
                refine r_top (y := nI ((4 * (c + 4)) - 13)) (pk_sub (a := 4 * (c + 4)) (b := 13) (by omega)) ?_
                refine r_ialdN C dX0_expand_176 l_cl ws_eq (j := (4 * (c + 4)) - 13) rfl (by omega) (by decide) ?_
                refine r_top (y := nI (X (4 * (c + 4) - 13))) (congrArg nI (by rw [upn_ne (by omega)]; rw [upn_ne (by omega)]; rw [upn_ne (by omega)]; exact h2 _ (by omega))) ?_
                refine r_gets C (j := 0) dX0_expand_177 rfl slRX0_24 ?_
                refine r_aload_n C dX0_expand_180 rfl ?_
                refine r_get C dX0_expand_181 fgRX0_15 l_o (ws_ne n_o_cl w_o) rfl ?_
                refine r_iload_n C dX0_expand_184 rfl ?_
                refine r_iconst C dX0_expand_185 (v := 4) (by decide) ?_
                refine r_isub C dX0_expand_186 ?_
                refine r_top (y := nI ((4 * (c + 4)) - 4)) (pk_sub (a := 4 * (c + 4)) (b := 4) (by omega)) ?_
                refine r_ialdN C dX0_expand_187 l_cl ws_eq (j := (4 * (c + 4)) - 4) rfl (by omega) (by decide) ?_
                refine r_top (y := nI (X (4 * (c + 4) - 4))) (congrArg nI (by rw [upn_ne (by omega)]; rw [upn_ne (by omega)]; rw [upn_ne (by omega)]; exact h2 _ (by omega))) ?_
                refine r_sipush C dX0_expand_188 (v := 255) (by decide) ?_
                refine r_iand C dX0_expand_191 ?_
                refine r_top (y := nI (X (4 * (c + 4) - 4))) ((pk_andN (n := X (4 * (c + 4) - 4)) (by have := hX6 (4 * (c + 4) - 4); omega) 8 rfl).trans (congrArg nI (Nat.mod_eq_of_lt (hX6 _)))) ?_
                refine r_tald C dX0_expand_192 (j := 0) (t := X (4 * (c + 4) - 4)) rfl rfl rfl (by show _ < 256; exact hX6 _) (by decide) ?_
                refine r_top (y := nI (sw (X (4 * (c + 4) - 4)))) (sw_tab (X (4 * (c + 4) - 4))) ?_
                refine r_ixor C dX0_expand_193 ?_
                refine r_top (y := nI ((X (4 * (c + 4) - 13)) ^^^ (sw (X (4 * (c + 4) - 4))))) (nx_xor9 (X (4 * (c + 4) - 13)) (sw (X (4 * (c + 4) - 4)))) ?_
                refine r_iastF C dX0_expand_194 l_cl ws_eq (j := (4 * (c + 4)) + 3) (x := (X (4 * (c + 4) - 13)) ^^^ (sw (X (4 * (c + 4) - 4)))) rfl rfl (by omega) (by decide) ?_
                refine r_eq rfl rfl ws_same ?_
                refine r_iload_n C dX0_expand_195 rfl ?_
                refine r_callSi C (As := [.int (nI e)]) (rest := []) dX0_expand_196 (cX0_twice9 (b := e) he6) okX0_twice mlRX0_36 stX0_twice ⟨by decide, by decide⟩ rfl rfl (Nat.le_of_ble_eq_true rfl) (by decide) (by decide) (fun r1 w9 h9 => ?_)
                obtain ⟨e9, rfl⟩ := h9
                have e9 := e9.symm
                subst e9
                refine r_istore_n C dX0_expand_199 (L' := [some (.ref o), some (.ref a), some (.int (nI (xt e))), some (.int (nI (4 * (c + 4)))), none]) (by decide) rfl ?_
                refine r_goto C 247 dX0_expand_200 (by decide) ?_
                refine r_iinc C dX0_expand_247 (v := nI (4 * (c + 1 + 4))) (L' := [some (.ref o), some (.ref a), some (.int (nI (xt e))), some (.int (nI (4 * (c + 1 + 4)))), none]) rfl ((nI_add (4 * (c + 4)) 4).trans (congrArg nI (by omega))) (by decide) rfl ?_
                refine r_goto C 43 dX0_expand_250 (by decide) ?_
                exact ih_43 (c + 1) (xt e) _ _ (by omega) (by omega) rfl (by rw [exS, if_pos (by omega), he]) (by rw [exS, if_pos (by omega), ← hX, ← he]; exact ex4 h2)
        exact loop_43 _ 0 1 _ K1 (Nat.lt_succ_self _) (by omega) rfl rfl (fun k hk => h1 k (by omega))
      · skip
        have c_5 : ¬ (16 ≤ i) := fun h9 => c_5 ((nI_leI (a := 16) (b := i) (by omega) (by omega)).mpr h9)
        refine r_aload_n C dX0_expand_8 rfl ?_
        refine r_get C dX0_expand_9 fgRX0_15 l_o (ws_ne n_o_cl w_o) rfl ?_
        refine r_iload_n C dX0_expand_12 rfl ?_
        refine r_iload_n C dX0_expand_13 rfl ?_
        refine r_aload_n C dX0_expand_14 rfl ?_
        refine r_get C dX0_expand_15 fgRX0_27 l_a (ws_ne (Ne.symm n_cl_a) w_a) rfl ?_
        refine r_icmp_ge C 30 dX0_expand_18 (by decide) (fun c_18 => ?_) (fun c_18 => ?_)
        · skip
          have c_18 : xs.length ≤ i := (nI_leI (a := xs.length) (b := i) (by omega) (by omega)).mp c_18
          refine r_iconst C dX0_expand_30 (v := 0) (by decide) ?_
          refine r_iastF C dX0_expand_31 l_cl ws_eq (j := i) (x := 0) rfl rfl (by omega) (by decide) ?_
          refine r_eq rfl rfl ws_same ?_
          refine r_iinc C dX0_expand_32 (v := nI (i + 1)) (L' := [some (.ref o), some (.ref a), some (.int (nI (i + 1))), none, none]) rfl (nI_add i 1) (by decide) rfl ?_
          refine r_goto C 2 dX0_expand_35 (by decide) ?_
          exact ih_2 (i + 1) _ (by omega) (by omega) (upn_lt (G := fun k => xs.getD k 0) h1 (gd_ge (by omega)).symm)
        · skip
          have c_18 : ¬ (xs.length ≤ i) := fun h9 => c_18 ((nI_leI (a := xs.length) (b := i) (by omega) (by omega)).mpr h9)
          refine r_aload_n C dX0_expand_21 rfl ?_
          refine r_get C dX0_expand_22 fgRX0_33 l_a (ws_ne (Ne.symm n_cl_a) w_a) rfl ?_
          refine r_iload_n C dX0_expand_25 rfl ?_
          refine r_ialdN C dX0_expand_26 l_b (ws_ne (Ne.symm n_cl_b) w_b) (j := i) rfl (by omega) (by omega) ?_
          refine r_top (y := nI (xs.getD i 0)) (h_xs i (by omega)) ?_
          refine r_goto C 31 dX0_expand_27 (by decide) ?_
          refine r_iastF C dX0_expand_31 l_cl ws_eq (j := i) (x := xs.getD i 0) rfl rfl (by omega) (by decide) ?_
          refine r_eq rfl rfl ws_same ?_
          refine r_iinc C dX0_expand_32 (v := nI (i + 1)) (L' := [some (.ref o), some (.ref a), some (.int (nI (i + 1))), none, none]) rfl (nI_add i 1) (by decide) rfl ?_
          refine r_goto C 2 dX0_expand_35 (by decide) ?_
          exact ih_2 (i + 1) _ (by omega) (by omega) (upn_lt (G := fun k => xs.getD k 0) h1 rfl)
  refine r_eq rfl rfl (ws_self w_cl).symm ?_
  exact loop_2 _ 0 K (Nat.lt_succ_self _) (by omega) (fun k hk => absurd hk (Nat.not_lt_zero k))
