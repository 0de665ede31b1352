theorem r_iastF {g : Ge} {q : Mi} {ct : Ct} {k n pc : Nat} {L : Lo} {st : List Value} {w : Wo} (C : Cx g q ct) {a N j x : Nat} {B : Nat → Nat} {i v : Int32} (hd : decode q.2.1 pc = .ok (.iastore, 1)) (ha : a < NW) (hw : w a = ia N (nf B)) (hi : i = nI j) (hv : v = nI x) (hj : j < N) (hN : N < 2 ^ 31) (kk : Az g q ct k n (pc + 1) L st (wset w a (ia N (nf (upn B j x))))) : Az g q ct k n pc L (.int v :: .int i :: .ref a :: st) w := by
  subst hv
  refine r_iastN C hd ha hw hi hj hN ?_
  rw [upd_nf]
  exact kk
theorem load_eq {f fb : Nat → Int32} {xs : List Nat} {q0 : Nat} (h : hs f xs) (hl : q0 + 16 ≤ xs.length) : va_cpy f fb q0 0 16 = nf (fun k => if k < 16 then xs.getD (q0 + k) 0 else (fb k).toBitVec.toNat) := by
  funext k
  by_cases hk : k < 16
  · rw [pk_cpy_in (Nat.zero_le _) (by omega)]
    show _ = nI (if k < 16 then _ else _)
    rw [if_pos hk, h _ (by omega), Nat.sub_zero]
  · rw [pk_cpy_out (Or.inr (by omega))]
    show _ = nI (if k < 16 then _ else _)
    rw [if_neg hk]
    exact congrFun (nf_of fb) k
set_option maxHeartbeats 4000000 in
set_option maxRecDepth 100000 in
theorem cX0_twice9 {w : Wo} {b : Nat} (hb : b < 256) : Ctr mX0_twice [.int (nI b)] w (PI fun r w' => w' = w ∧ r = nI (xt b)) := by
  refine Ctr_intro okX0_twice rfl (Nat.le_of_ble_eq_true rfl) (L := [some (.int (nI b))]) rfl (fun g ct C T_ => ?_)
  refine r_iload_n C dX0_twice_0 rfl ?_
  refine r_sipush C dX0_twice_1 (v := 128) (by decide) ?_
  refine r_iand C dX0_twice_4 ?_
  refine r_if_ne C 14 dX0_twice_5 (by decide) (fun c_5 => ?_) (fun c_5 => ?_)
  · skip
    refine r_iload_n C dX0_twice_14 rfl ?_
    refine r_iconst C dX0_twice_15 (v := 1) (by decide) ?_
    refine r_ishl C dX0_twice_16 ?_
    refine r_top (y := nI (2 * b)) (shl1 (by omega)) ?_
    refine r_sipush C dX0_twice_17 (v := 283) (by decide) ?_
    refine r_ixor C dX0_twice_20 ?_
    refine r_top (y := nI ((2 * b) ^^^ 283)) (nx_xor9 (2 * b) 283) ?_
    exact r_ireturn C T_ rfl rfl dX0_twice_21 (⟨_, rfl, rfl, by unfold xt; first | rw [if_pos ((and128 b hb).mp c_5)] | rw [if_neg (fun z => c_5 ((and128 b hb).mpr z))]⟩)
  · skip
    refine r_iload_n C dX0_twice_8 rfl ?_
    refine r_iconst C dX0_twice_9 (v := 1) (by decide) ?_
    refine r_ishl C dX0_twice_10 ?_
    refine r_top (y := nI (2 * b)) (shl1 (by omega)) ?_
    refine r_goto C 21 dX0_twice_11 (by decide) ?_
    exact r_ireturn C T_ rfl rfl dX0_twice_21 (⟨_, rfl, rfl, by unfold xt; first | rw [if_pos ((and128 b hb).mp c_5)] | rw [if_neg (fun z => c_5 ((and128 b hb).mpr z))]⟩)
set_option maxHeartbeats 4000000 in
set_option maxRecDepth 100000 in
theorem cX0_fits9 {w : Wo} {a b : Nat} (l_a : a < NW) (l_b : b < NW) (n_a_b : a ≠ b) {n : Nat} {f : Nat → Int32} {xs : List Nat} (w_a : w a = ob 3 [.ref b, .int (nI xs.length)]) (w_b : w b = ia n f) (h_xs : hs f xs) (k_xs : xs.length ≤ n) (hn : n < 2 ^ 31) {q0 : Nat} (hq : q0 + 16 ≤ n) : Ctr mX0_fits [.ref a, .int (nI q0)] w (PI fun r w' => w' = w ∧ r = 1) := by
  refine Ctr_intro okX0_fits rfl (Nat.le_of_ble_eq_true rfl) (L := [some (.ref a), some (.int (nI q0))]) rfl (fun g ct C T_ => ?_)
  refine r_iload_n C dX0_fits_0 rfl ?_
  refine r_if_lt C 20 dX0_fits_1 (by decide) (fun c_1 => ?_) (fun c_1 => ?_)
  · skip
    exact absurd c_1 (nI_pos (by omega))
  · skip
    refine r_iload_n C dX0_fits_4 rfl ?_
    refine r_aload_n C dX0_fits_5 rfl ?_
    refine r_get C dX0_fits_6 fgRX0_33 l_a w_a rfl ?_
    refine r_alen C dX0_fits_9 l_b w_b ?_
    refine r_bipush C dX0_fits_10 (v := 16) (by decide) ?_
    refine r_isub C dX0_fits_12 ?_
    refine r_top (y := nI (n - 16)) (pk_sub (a := n) (b := 16) (by omega)) ?_
    refine r_icmp_gt C 20 dX0_fits_13 (by decide) (fun c_13 => ?_) (fun c_13 => ?_)
    · skip
      exact absurd c_13 (nI_nlt (by omega) (by omega))
    · skip
      have c_13 : ¬ ((n - 16) < q0) := fun h9 => c_13 ((nI_ltI (a := n - 16) (b := q0) (by omega) (by omega)).mpr h9)
      refine r_iconst C dX0_fits_16 (v := 1) (by decide) ?_
      refine r_goto C 21 dX0_fits_17 (by decide) ?_
      exact r_ireturn C T_ rfl (by decide) dX0_fits_21 (⟨_, rfl, rfl, rfl⟩)
set_option maxHeartbeats 4000000 in
set_option maxRecDepth 100000 in
theorem cX0_loadFrom9 {w : Wo} {o bl a b : Nat} (l_o : o < NW) (l_bl : bl < NW) (l_a : a < NW) (l_b : b < NW) (n_o_bl : o ≠ bl) (n_o_a : o ≠ a) (n_o_b : o ≠ b) (n_bl_a : bl ≠ a) (n_bl_b : bl ≠ b) (n_a_b : a ≠ b) {sb cl be : Nat} (w_o : w o = ob 0 [.ref sb, .ref cl, .ref bl, .ref be]) {fb : Nat → Int32} (w_bl : w bl = ia 16 fb) {n : Nat} {f : Nat → Int32} {xs : List Nat} (w_a : w a = ob 3 [.ref b, .int (nI xs.length)]) (w_b : w b = ia n f) (h_xs : hs f xs) (k_xs : xs.length ≤ n) (hn : n < 2 ^ 31) {q0 : Nat} (hq : q0 + 16 ≤ n) (hl : q0 + 16 ≤ xs.length) : Ctr mX0_loadFrom [.ref o, .ref a, .int (nI q0)] w (PV fun w' => ∃ B, w' = wset w bl (ia 16 (nf B)) ∧ ∀ k, k < 16 → B k = xs.getD (q0 + k) 0) := by
  refine Ctr_intro okX0_loadFrom rfl (Nat.le_of_ble_eq_true rfl) (L := [some (.ref o), some (.ref a), some (.int (nI q0))]) rfl (fun g ct C T_ => ?_)
  refine r_aload_n C dX0_loadFrom_0 rfl ?_
  refine r_iload_n C dX0_loadFrom_1 rfl ?_
  refine r_callSi C (As := [.ref a, .int (nI q0)]) (rest := []) dX0_loadFrom_2 (cX0_fits9 l_a l_b n_a_b w_a w_b h_xs k_xs hn (q0 := q0) hq) okX0_fits mlRX0_40 stX0_fits ⟨by decide, by decide⟩ rfl rfl (Nat.le_of_ble_eq_true rfl) (by decide) (by decide) (fun r1 w9 h9 => ?_)
  obtain ⟨e9, rfl⟩ := h9
  have e9 := e9.symm
  subst e9
  refine r_if_eq C 23 dX0_loadFrom_5 (by decide) (fun c_5 => ?_) (fun c_5 => ?_)
  · skip
    exact absurd c_5 (by decide)
  · skip
    refine r_aload_n C dX0_loadFrom_8 rfl ?_
    refine r_get C dX0_loadFrom_9 fgRX0_33 l_a w_a rfl ?_
    refine r_iload_n C dX0_loadFrom_12 rfl ?_
    refine r_aload_n C dX0_loadFrom_13 rfl ?_
    refine r_get C dX0_loadFrom_14 fgRX0_18 l_o w_o rfl ?_
    refine r_iconst C dX0_loadFrom_17 (v := 0) (by decide) ?_
    refine r_bipush C dX0_loadFrom_18 (v := 16) (by decide) ?_
    refine r_copyN C dX0_loadFrom_20 mlRX0_44 jn_copy_native jn_copy_static jn_sys_init l_b w_b l_bl w_bl (sn := q0) (dn := 0) (ln := 16) rfl rfl rfl (by omega) (by omega) (by omega) (by omega) (by omega) (by decide) (Nat.le_of_ble_eq_true rfl) ?_
    exact r_return C T_ rfl dX0_loadFrom_23 (⟨rfl, fun k => if k < 16 then xs.getD (q0 + k) 0 else (fb k).toBitVec.toNat, by rw [load_eq h_xs hl], fun k hk => if_pos hk⟩)
set_option maxHeartbeats 4000000 in
set_option maxRecDepth 100000 in
theorem cX0_addFrom9 {w : Wo} {o bl a b : Nat} (l_o : o < NW) (l_bl : bl < NW) (l_a : a < NW) (l_b : b < NW) (n_o_bl : o ≠ bl) (n_o_a : o ≠ a) (n_o_b : o ≠ b) (n_bl_a : bl ≠ a) (n_bl_b : bl ≠ b) (n_a_b : a ≠ b) {sb cl be : Nat} (w_o : w o = ob 0 [.ref sb, .ref cl, .ref bl, .ref be]) {B : Nat → Nat} (w_bl : w bl = ia 16 (nf B)) {n : Nat} {f : Nat → Int32} {xs : List Nat} (w_a : w a = ob 3 [.ref b, .int (nI xs.length)]) (w_b : w b = ia n f) (h_xs : hs f xs) (k_xs : xs.length ≤ n) (hn : n < 2 ^ 31) {q0 : Nat} (hq : q0 + 16 ≤ n) (hl : q0 + 16 ≤ xs.length) : Ctr mX0_addFrom [.ref o, .ref a, .int (nI q0)] w (PV fun w' => ∃ B', w' = wset w bl (ia 16 (nf B')) ∧ ∀ k, k < 16 → B' k = B k ^^^ xs.getD (q0 + k) 0) := by
  refine Ctr_intro okX0_addFrom rfl (Nat.le_of_ble_eq_true rfl) (L := [some (.ref o), some (.ref a), some (.int (nI q0)), none]) rfl (fun g ct C T_ => ?_)
  refine r_aload_n C dX0_addFrom_0 rfl ?_
  refine r_iload_n C dX0_addFrom_1 rfl ?_
  refine r_callSi C (As := [.ref a, .int (nI q0)]) (rest := []) dX0_addFrom_2 (cX0_fits9 l_a l_b n_a_b w_a w_b h_xs k_xs hn (q0 := q0) hq) okX0_fits mlRX0_40 stX0_fits ⟨by decide, by decide⟩ rfl rfl (Nat.le_of_ble_eq_true rfl) (by decide) (by decide) (fun r1 w9 h9 => ?_)
  obtain ⟨e9, rfl⟩ := h9
  have e9 := e9.symm
  subst e9
  refine r_if_eq C 39 dX0_addFrom_5 (by decide) (fun c_5 => ?_) (fun c_5 => ?_)
  · skip
    exact absurd c_5 (by decide)
  · skip
    refine r_iconst C dX0_addFrom_8 (v := 0) (by decide) ?_
    refine r_istore_n C dX0_addFrom_9 (L' := [some (.ref o), some (.ref a), some (.int (nI q0)), some (.int 0)]) (by decide) rfl ?_
    have loop_10 : ∀ (d9 : Nat) (i : Nat) (B1 : Nat → Nat), 16 - i < d9 → i ≤ 16 → (∀ k, k < i → B1 k = B k ^^^ xs.getD (q0 + k) 0) → (∀ k, i ≤ k → B1 k = B k) → Az g mX0_addFrom ct 0 0 10 [some (.ref o), some (.ref a), some (.int (nI q0)), some (.int (nI i))] [] (wset w bl (ia 16 (nf B1))) := by
      intro d9
      induction d9 with
      | zero => intro i B1 hd9; exact absurd hd9 (Nat.not_lt_zero _)
      | succ d9 ih_10 =>
        intro i B1 hd9 hi h1 h2
        refine r_iload_n C dX0_addFrom_10 rfl ?_
        refine r_bipush C dX0_addFrom_11 (v := 16) (by decide) ?_
        refine r_icmp_ge C 39 dX0_addFrom_13 (by decide) (fun c_13 => ?_) (fun c_13 => ?_)
        · skip
          have c_13 : 16 ≤ i := (nI_leI (a := 16) (b := i) (by omega) (by omega)).mp c_13
          exact r_return C T_ rfl dX0_addFrom_39 (⟨rfl, B1, rfl, fun k hk => h1 k (by omega)⟩)
        · skip
          have c_13 : ¬ (16 ≤ i) := fun h9 => c_13 ((nI_leI (a := 16) (b := i) (by omega) (by omega)).mpr h9)
          refine r_aload_n C dX0_addFrom_16 rfl ?_
          refine r_get C dX0_addFrom_17 fgRX0_18 l_o (ws_ne n_o_bl w_o) rfl ?_
          refine r_iload_n C dX0_addFrom_20 rfl ?_
          refine r_dup2 C dX0_addFrom_21 rfl rfl ?_
          refine r_ialdN C dX0_addFrom_22 l_bl ws_eq (j := i) rfl (by omega) (by decide) ?_
          refine r_top (y := nI (B1 i)) (nf_at B1 i) ?_
          refine r_aload_n C dX0_addFrom_23 rfl ?_
          refine r_get C dX0_addFrom_24 fgRX0_33 l_a (ws_ne (Ne.symm n_bl_a) w_a) rfl ?_
          refine r_iload_n C dX0_addFrom_27 rfl ?_
          refine r_iload_n C dX0_addFrom_28 rfl ?_
          refine r_iadd C dX0_addFrom_29 ?_
          refine r_top (y := nI (q0 + i)) (nI_add q0 i) ?_
          refine r_ialdN C dX0_addFrom_30 l_b (ws_ne (Ne.symm n_bl_b) w_b) (j := q0 + i) rfl (by omega) (by omega) ?_
          refine r_top (y := nI (xs.getD (q0 + i) 0)) (h_xs (q0 + i) (by omega)) ?_
          refine r_ixor C dX0_addFrom_31 ?_
          refine r_top (y := nI ((B1 i) ^^^ (xs.getD (q0 + i) 0))) (nx_xor9 (B1 i) (xs.getD (q0 + i) 0)) ?_
          refine r_iastF C dX0_addFrom_32 l_bl ws_eq (j := i) (x := (B1 i) ^^^ (xs.getD (q0 + i) 0)) rfl rfl (by omega) (by decide) ?_
          refine r_eq rfl rfl ws_same ?_
          refine r_iinc C dX0_addFrom_33 (v := nI (i + 1)) (L' := [some (.ref o), some (.ref a), some (.int (nI q0)), some (.int (nI (i + 1)))]) rfl (nI_add i 1) (by decide) rfl ?_
          refine r_goto C 10 dX0_addFrom_36 (by decide) ?_
          exact ih_10 (i + 1) _ (by omega) (by omega) (upn_lt h1 (by rw [h2 i (Nat.le_refl _)])) (upn_ge h2)
    refine r_eq rfl rfl (ws_self w_bl).symm ?_
    exact loop_10 _ 0 B (Nat.lt_succ_self _) (by omega) (fun k hk => absurd hk (Nat.not_lt_zero k)) (fun k hk => rfl)
set_option maxHeartbeats 4000000 in
set_option maxRecDepth 100000 in
theorem cX0_storeTo9 {w : Wo} {o bl a b : Nat} (l_o : o < NW) (l_bl : bl < NW) (l_a : a < NW) (l_b : b < NW) (n_o_bl : o ≠ bl) (n_o_a : o ≠ a) (n_o_b : o ≠ b) (n_bl_a : bl ≠ a) (n_bl_b : bl ≠ b) (n_a_b : a ≠ b) {sb cl be : Nat} (w_o : w o = ob 0 [.ref sb, .ref cl, .ref bl, .ref be]) {B : Nat → Nat} (w_bl : w bl = ia 16 (nf B)) {n : Nat} {f : Nat → Int32} {xs : List Nat} (w_a : w a = ob 3 [.ref b, .int (nI xs.length)]) (w_b : w b = ia n f) (h_xs : hs f xs) (k_xs : xs.length ≤ n) (hn : n < 2 ^ 31) {q0 : Nat} (hq : q0 + 16 ≤ n) : Ctr mX0_storeTo [.ref o, .ref a, .int (nI q0)] w (PV fun w' => w' = wset w b (ia n (va_cpy (nf B) f 0 q0 16))) := by
  refine Ctr_intro okX0_storeTo rfl (Nat.le_of_ble_eq_true rfl) (L := [some (.ref o), some (.ref a), some (.int (nI q0))]) rfl (fun g ct C T_ => ?_)
  refine r_aload_n C dX0_storeTo_0 rfl ?_
  refine r_iload_n C dX0_storeTo_1 rfl ?_
  refine r_callSi C (As := [.ref a, .int (nI q0)]) (rest := []) dX0_storeTo_2 (cX0_fits9 l_a l_b n_a_b w_a w_b h_xs k_xs hn (q0 := q0) hq) okX0_fits mlRX0_40 stX0_fits ⟨by decide, by decide⟩ rfl rfl (Nat.le_of_ble_eq_true rfl) (by decide) (by decide) (fun r1 w9 h9 => ?_)
  obtain ⟨e9, rfl⟩ := h9
  have e9 := e9.symm
  subst e9
  refine r_if_eq C 23 dX0_storeTo_5 (by decide) (fun c_5 => ?_) (fun c_5 => ?_)
  · skip
    exact absurd c_5 (by decide)
  · skip
    refine r_aload_n C dX0_storeTo_8 rfl ?_
    refine r_get C dX0_storeTo_9 fgRX0_18 l_o w_o rfl ?_
    refine r_iconst C dX0_storeTo_12 (v := 0) (by decide) ?_
    refine r_aload_n C dX0_storeTo_13 rfl ?_
    refine r_get C dX0_storeTo_14 fgRX0_33 l_a w_a rfl ?_
    refine r_iload_n C dX0_storeTo_17 rfl ?_
    refine r_bipush C dX0_storeTo_18 (v := 16) (by decide) ?_
    refine r_copyN C dX0_storeTo_20 mlRX0_44 jn_copy_native jn_copy_static jn_sys_init l_bl w_bl l_b w_b (sn := 0) (dn := q0) (ln := 16) rfl rfl rfl (by omega) (by omega) (by omega) (by omega) (by omega) (by decide) (Nat.le_of_ble_eq_true rfl) ?_
    exact r_return C T_ rfl dX0_storeTo_23 (⟨rfl, rfl⟩)
/-- how many bytes at the block's end fill it up -/
noncomputable def filB (B : Nat → Nat) : Nat := @ite Nat (1 ≤ B 15 ∧ B 15 ≤ 16 ∧ ∀ m, m < 16 → 16 - B 15 ≤ m → B m = B 15) (Classical.propDecidable _) (B 15) 0
set_option maxHeartbeats 4000000 in
set_option maxRecDepth 100000 in
theorem cX0_filling9 {w : Wo} {o bl : Nat} (l_o : o < NW) (l_bl : bl < NW) (n_o_bl : o ≠ bl) {sb cl be : Nat} (w_o : w o = ob 0 [.ref sb, .ref cl, .ref bl, .ref be]) {B : Nat → Nat} (w_bl : w bl = ia 16 (nf B)) (hB : b16 B) : Ctr mX0_filling [.ref o] w (PI fun r w' => w' = w ∧ r = nI (filB B)) := by
  refine Ctr_intro okX0_filling rfl (Nat.le_of_ble_eq_true rfl) (L := [some (.ref o), none, none]) rfl (fun g ct C T_ => ?_)
  have hB15 := hB 15 (by decide)
  refine r_aload_n C dX0_filling_0 rfl ?_
  refine r_get C dX0_filling_1 fgRX0_18 l_o w_o rfl ?_
  refine r_bipush C dX0_filling_4 (v := 15) (by decide) ?_
  refine r_ialdN C dX0_filling_6 l_bl w_bl (j := 15) rfl (by omega) (by decide) ?_
  refine r_top (y := nI (B 15)) (nf_at B 15) ?_
  refine r_istore_n C dX0_filling_7 (L' := [some (.ref o), some (.int (nI (B 15))), none]) (by decide) rfl ?_
  refine r_iload_n C dX0_filling_8 rfl ?_
  refine r_iconst C dX0_filling_9 (v := 1) (by decide) ?_
  refine r_icmp_lt C 19 dX0_filling_10 (by decide) (fun c_10 => ?_) (fun c_10 => ?_)
  · skip
    have c_10 : (B 15) < 1 := (nI_ltI (a := B 15) (b := 1) (by omega) (by omega)).mp c_10
    refine r_iconst C dX0_filling_19 (v := 0) (by decide) ?_
    exact r_ireturn C T_ rfl rfl dX0_filling_20 (⟨_, rfl, rfl, by unfold filB; rw [if_neg (by omega)]; rfl⟩)
  · skip
    have c_10 : ¬ ((B 15) < 1) := fun h9 => c_10 ((nI_ltI (a := B 15) (b := 1) (by omega) (by omega)).mpr h9)
    refine r_iload_n C dX0_filling_13 rfl ?_
    refine r_bipush C dX0_filling_14 (v := 16) (by decide) ?_
    refine r_icmp_le C 21 dX0_filling_16 (by decide) (fun c_16 => ?_) (fun c_16 => ?_)
    · skip
      have c_16 : (B 15) ≤ 16 := (nI_leI (a := B 15) (b := 16) (by omega) (by omega)).mp c_16
      refine r_bipush C dX0_filling_21 (v := 16) (by decide) ?_
      refine r_iload_n C dX0_filling_23 rfl ?_
      refine r_isub C dX0_filling_24 ?_
      refine r_top (y := nI (16 - (B 15))) (pk_sub (a := 16) (b := B 15) (by omega)) ?_
      refine r_istore_n C dX0_filling_25 (L' := [some (.ref o), some (.int (nI (B 15))), some (.int (nI (16 - (B 15))))]) (by decide) rfl ?_
      have loop_26 : ∀ (d9 : Nat) (k : Nat), 16 - k < d9 → 16 - B 15 ≤ k → k ≤ 16 → (∀ m, 16 - B 15 ≤ m → m < k → B m = B 15) → Az g mX0_filling ct 0 0 26 [some (.ref o), some (.int (nI (B 15))), some (.int (nI k))] [] w := by
        intro d9
        induction d9 with
        | zero => intro k hd9; exact absurd hd9 (Nat.not_lt_zero _)
        | succ d9 ih_26 =>
          intro k hd9 hk hk2 hq
          refine r_iload_n C dX0_filling_26 rfl ?_
          refine r_bipush C dX0_filling_27 (v := 16) (by decide) ?_
          refine r_icmp_ge C 50 dX0_filling_29 (by decide) (fun c_29 => ?_) (fun c_29 => ?_)
          · skip
            have c_29 : 16 ≤ k := (nI_leI (a := 16) (b := k) (by omega) (by omega)).mp c_29
            refine r_iload_n C dX0_filling_50 rfl ?_
            exact r_ireturn C T_ rfl rfl dX0_filling_51 (⟨_, rfl, rfl, by unfold filB; rw [if_pos ⟨by omega, by omega, fun m h1 h2 => hq m h2 (by omega)⟩]⟩)
          · skip
            have c_29 : ¬ (16 ≤ k) := fun h9 => c_29 ((nI_leI (a := 16) (b := k) (by omega) (by omega)).mpr h9)
            refine r_aload_n C dX0_filling_32 rfl ?_
            refine r_get C dX0_filling_33 fgRX0_18 l_o w_o rfl ?_
            refine r_iload_n C dX0_filling_36 rfl ?_
            refine r_ialdN C dX0_filling_37 l_bl w_bl (j := k) rfl (by omega) (by decide) ?_
            refine r_top (y := nI (B k)) (nf_at B k) ?_
            have hBk := hB k (by omega)
            refine r_iload_n C dX0_filling_38 rfl ?_
            refine r_icmp_eq C 44 dX0_filling_39 (by decide) (fun c_39 => ?_) (fun c_39 => ?_)
            · skip
              have c_39 : (B k) = (B 15) := (nI_eq (a := B k) (b := B 15) (by omega) (by omega)).mp c_39
              refine r_iinc C dX0_filling_44 (v := nI (k + 1)) (L' := [some (.ref o), some (.int (nI (B 15))), some (.int (nI (k + 1)))]) rfl (nI_add k 1) (by decide) rfl ?_
              refine r_goto C 26 dX0_filling_47 (by decide) ?_
              exact ih_26 (k + 1) (by omega) (by omega) (by omega) (fun m h1 h2 => if e : m = k then by rw [e]; exact c_39 else hq m h1 (by omega))
            · skip
              have c_39 : ¬ ((B k) = (B 15)) := fun h9 => c_39 ((nI_eq (a := B k) (b := B 15) (by omega) (by omega)).mpr h9)
              refine r_iconst C dX0_filling_42 (v := 0) (by decide) ?_
              exact r_ireturn C T_ rfl rfl dX0_filling_43 (⟨_, rfl, rfl, by unfold filB; rw [if_neg (fun z => c_39 (z.2.2 k (by omega) hk))]; rfl⟩)
      exact loop_26 _ (16 - B 15) (Nat.lt_succ_self _) (Nat.le_refl _) (by omega) (fun m h1 h2 => absurd h1 (by omega))
    · skip
      have c_16 : ¬ ((B 15) ≤ 16) := fun h9 => c_16 ((nI_leI (a := B 15) (b := 16) (by omega) (by omega)).mpr h9)
      refine r_iconst C dX0_filling_19 (v := 0) (by decide) ?_
      exact r_ireturn C T_ rfl rfl dX0_filling_20 (⟨_, rfl, rfl, by unfold filB; rw [if_neg (by omega)]; rfl⟩)
set_option maxHeartbeats 4000000 in
set_option maxRecDepth 100000 in
theorem cX0_addColumns9 {w : Wo} {o cl bl : Nat} (l_o : o < NW) (l_cl : cl < NW) (l_bl : bl < NW) (n_o_cl : o ≠ cl) (n_o_bl : o ≠ bl) (n_cl_bl : cl ≠ bl) {sb be : Nat} (w_o : w o = ob 0 [.ref sb, .ref cl, .ref bl, .ref be]) {B K KK : Nat → Nat} (w_bl : w bl = ia 16 (nf B)) (w_cl : w cl = ia 176 (nf K)) (hK : ∀ k, k < 176 → K k = KK k) {r : Nat} (hr : r ≤ 10) : Ctr mX0_addColumns [.ref o, .int (nI r)] w (PV fun w' => w' = wset w bl (ia 16 (nf (addC KK r B)))) := by
  refine Ctr_intro okX0_addColumns rfl (Nat.le_of_ble_eq_true rfl) (L := [some (.ref o), some (.int (nI r)), none, none]) rfl (fun g ct C T_ => ?_)
  refine r_bipush C dX0_addColumns_0 (v := 16) (by decide) ?_
  refine r_iload_n C dX0_addColumns_2 rfl ?_
  refine r_imul C dX0_addColumns_3 ?_
  refine r_top (y := nI (16 * r)) (pk_mul 16 r) ?_
  refine r_istore_n C dX0_addColumns_4 (L' := [some (.ref o), some (.int (nI r)), some (.int (nI (16 * r))), none]) (by decide) rfl ?_
  refine r_iconst C dX0_addColumns_5 (v := 0) (by decide) ?_
  refine r_istore_n C dX0_addColumns_6 (L' := [some (.ref o), some (.int (nI r)), some (.int (nI (16 * r))), some (.int 0)]) (by decide) rfl ?_
  have loop_7 : ∀ (d9 : Nat) (i : Nat) (B1 : Nat → Nat), 16 - i < d9 → i ≤ 16 → (∀ k, k < i → B1 k = addC KK r B k) → (∀ k, i ≤ k → B1 k = B k) → Az g mX0_addColumns ct 0 0 7 [some (.ref o), some (.int (nI r)), some (.int (nI (16 * r))), some (.int (nI i))] [] (wset w bl (ia 16 (nf B1))) := by
    intro d9
    induction d9 with
    | zero => intro i B1 hd9; exact absurd hd9 (Nat.not_lt_zero _)
    | succ d9 ih_7 =>
      intro i B1 hd9 hi h1 h2
      refine r_iload_n C dX0_addColumns_7 rfl ?_
      refine r_bipush C dX0_addColumns_8 (v := 16) (by decide) ?_
      refine r_icmp_ge C 36 dX0_addColumns_10 (by decide) (fun c_10 => ?_) (fun c_10 => ?_)
      · skip
        have c_10 : 16 ≤ i := (nI_leI (a := 16) (b := i) (by omega) (by omega)).mp c_10
        exact r_return C T_ rfl dX0_addColumns_36 (⟨rfl, by rw [fun_lh (n := i) h1 h2 (fun k hk => addC_hi _ _ _ k (by omega))]⟩)
      · skip
        have c_10 : ¬ (16 ≤ i) := fun h9 => c_10 ((nI_leI (a := 16) (b := i) (by omega) (by omega)).mpr h9)
        refine r_aload_n C dX0_addColumns_13 rfl ?_
        refine r_get C dX0_addColumns_14 fgRX0_18 l_o (ws_ne n_o_bl w_o) rfl ?_
        refine r_iload_n C dX0_addColumns_17 rfl ?_
        refine r_dup2 C dX0_addColumns_18 rfl rfl ?_
        refine r_ialdN C dX0_addColumns_19 l_bl ws_eq (j := i) rfl (by omega) (by decide) ?_
        refine r_top (y := nI (B1 i)) (nf_at B1 i) ?_
        refine r_aload_n C dX0_addColumns_20 rfl ?_
        refine r_get C dX0_addColumns_21 fgRX0_15 l_o (ws_ne n_o_bl w_o) rfl ?_
        refine r_iload_n C dX0_addColumns_24 rfl ?_
        refine r_iload_n C dX0_addColumns_25 rfl ?_
        refine r_iadd C dX0_addColumns_26 ?_
        refine r_top (y := nI ((16 * r) + i)) (nI_add (16 * r) i) ?_
        refine r_ialdN C dX0_addColumns_27 l_cl (ws_ne n_cl_bl w_cl) (j := (16 * r) + i) rfl (by omega) (by decide) ?_
        refine r_top (y := nI (K ((16 * r) + i))) (nf_at K ((16 * r) + i)) ?_
        refine r_ixor C dX0_addColumns_28 ?_
        refine r_top (y := nI ((B1 i) ^^^ (K ((16 * r) + i)))) (nx_xor9 (B1 i) (K ((16 * r) + i))) ?_
        refine r_iastF C dX0_addColumns_29 l_bl ws_eq (j := i) (x := (B1 i) ^^^ (K ((16 * r) + i))) rfl rfl (by omega) (by decide) ?_
        refine r_eq rfl rfl ws_same ?_
        refine r_iinc C dX0_addColumns_30 (v := nI (i + 1)) (L' := [some (.ref o), some (.int (nI r)), some (.int (nI (16 * r))), some (.int (nI (i + 1)))]) rfl (nI_add i 1) (by decide) rfl ?_
        refine r_goto C 7 dX0_addColumns_33 (by decide) ?_
        exact ih_7 (i + 1) _ (by omega) (by omega) (upn_lt h1 (by unfold addC; rw [if_pos (by omega), h2 i (Nat.le_refl _), hK _ (by omega)])) (upn_ge h2)
  refine r_eq rfl rfl (ws_self w_bl).symm ?_
  exact loop_7 _ 0 B (Nat.lt_succ_self _) (by omega) (fun k hk => absurd hk (Nat.not_lt_zero k)) (fun k hk => rfl)
set_option maxHeartbeats 4000000 in
set_option maxRecDepth 100000 in
theorem cX0_swapAndTurn9 {w : Wo} {o bl be : Nat} (l_o : o < NW) (l_bl : bl < NW) (l_be : be < NW) (n_o_bl : o ≠ bl) (n_o_be : o ≠ be) (n_bl_be : bl ≠ be) {sb cl : Nat} (w_o : w o = ob 0 [.ref sb, .ref cl, .ref bl, .ref be]) {B : Nat → Nat} {fe : Nat → Int32} (w_bl : w bl = ia 16 (nf B)) (w_be : w be = ia 16 fe) (hB : b16 B) : Ctr mX0_swapAndTurn [.ref o] w (PV fun w' => ∃ fe', w' = wset (wset w be (ia 16 fe')) bl (ia 16 (nf (swT B)))) := by
  refine Ctr_intro okX0_swapAndTurn rfl (Nat.le_of_ble_eq_true rfl) (L := [some (.ref o), none]) rfl (fun g ct C T_ => ?_)
  refine r_aload_n C dX0_swapAndTurn_0 rfl ?_
  refine r_get C dX0_swapAndTurn_1 fgRX0_18 l_o w_o rfl ?_
  refine r_iconst C dX0_swapAndTurn_4 (v := 0) (by decide) ?_
  refine r_aload_n C dX0_swapAndTurn_5 rfl ?_
  refine r_get C dX0_swapAndTurn_6 fgRX0_21 l_o w_o rfl ?_
  refine r_iconst C dX0_swapAndTurn_9 (v := 0) (by decide) ?_
  refine r_bipush C dX0_swapAndTurn_10 (v := 16) (by decide) ?_
  refine r_copyN C dX0_swapAndTurn_12 mlRX0_44 jn_copy_native jn_copy_static jn_sys_init l_bl w_bl l_be w_be (sn := 0) (dn := 0) (ln := 16) rfl rfl rfl (by omega) (by omega) (by omega) (by omega) (by omega) (by decide) (Nat.le_of_ble_eq_true rfl) ?_
  refine r_iconst C dX0_swapAndTurn_15 (v := 0) (by decide) ?_
  refine r_istore_n C dX0_swapAndTurn_16 (L' := [some (.ref o), some (.int 0)]) (by decide) rfl ?_
  have loop_17 : ∀ (d9 : Nat) (i : Nat) (B1 : Nat → Nat), 16 - i < d9 → i ≤ 16 → (∀ k, k < i → B1 k = swT B k) → (∀ k, i ≤ k → B1 k = B k) → Az g mX0_swapAndTurn ct 0 0 17 [some (.ref o), some (.int (nI i))] [] (wset (wset w be (ia 16 (va_cpy (nf B) fe 0 0 16))) bl (ia 16 (nf B1))) := by
    intro d9
    induction d9 with
    | zero => intro i B1 hd9; exact absurd hd9 (Nat.not_lt_zero _)
    | succ d9 ih_17 =>
      intro i B1 hd9 hi h1 h2
      refine r_iload_n C dX0_swapAndTurn_17 rfl ?_
      refine r_bipush C dX0_swapAndTurn_18 (v := 16) (by decide) ?_
      refine r_icmp_ge C 54 dX0_swapAndTurn_20 (by decide) (fun c_20 => ?_) (fun c_20 => ?_)
      · skip
        have c_20 : 16 ≤ i := (nI_leI (a := 16) (b := i) (by omega) (by omega)).mp c_20
        exact r_return C T_ rfl dX0_swapAndTurn_54 (⟨rfl, _, by rw [fun_lh (n := i) h1 h2 (fun k hk => swT_hi _ k (by omega))]⟩)
      · skip
        have c_20 : ¬ (16 ≤ i) := fun h9 => c_20 ((nI_leI (a := 16) (b := i) (by omega) (by omega)).mpr h9)
        refine r_aload_n C dX0_swapAndTurn_23 rfl ?_
        refine r_get C dX0_swapAndTurn_24 fgRX0_18 l_o (ws_ne n_o_bl (ws_ne n_o_be w_o)) rfl ?_
        refine r_iload_n C dX0_swapAndTurn_27 rfl ?_
        refine r_gets C (j := 0) dX0_swapAndTurn_28 rfl slRX0_24 ?_
        refine r_aload_n C dX0_swapAndTurn_31 rfl ?_
        refine r_get C dX0_swapAndTurn_32 fgRX0_21 l_o (ws_ne n_o_bl (ws_ne n_o_be w_o)) rfl ?_
        refine r_iconst C dX0_swapAndTurn_35 (v := 5) (by decide) ?_
        refine r_iload_n C dX0_swapAndTurn_36 rfl ?_
        refine r_imul C dX0_swapAndTurn_37 ?_
        refine r_top (y := nI (5 * i)) (pk_mul 5 i) ?_
        refine r_bipush C dX0_swapAndTurn_38 (v := 15) (by decide) ?_
        refine r_iand C dX0_swapAndTurn_40 ?_
        refine r_top (y := nI ((5 * i) % 16)) (pk_andN (n := 5 * i) (by omega) 4 rfl) ?_
        refine r_ialdN C dX0_swapAndTurn_41 l_be (ws_ne (Ne.symm n_bl_be) ws_eq) (j := (5 * i) % 16) rfl (by omega) (by decide) ?_
        refine r_top (y := nI (B ((5 * i) % 16))) (cpy16 (by omega)) ?_
        have hB9 := hB ((5 * i) % 16) (by omega)
        refine r_sipush C dX0_swapAndTurn_42 (v := 255) (by decide) ?_
        refine r_iand C dX0_swapAndTurn_45 ?_
        refine r_top (y := nI (B ((5 * i) % 16))) ((pk_andN (n := B ((5 * i) % 16)) (by omega) 8 rfl).trans (congrArg nI (Nat.mod_eq_of_lt hB9))) ?_
        refine r_tald C dX0_swapAndTurn_46 (j := 0) (t := B ((5 * i) % 16)) rfl rfl rfl (by show _ < 256; omega) (by decide) ?_
        refine r_top (y := nI (sw (B ((5 * i) % 16)))) (sw_tab (B ((5 * i) % 16))) ?_
        refine r_iastF C dX0_swapAndTurn_47 l_bl ws_eq (j := i) (x := sw (B ((5 * i) % 16))) rfl rfl (by omega) (by decide) ?_
        refine r_eq rfl rfl ws_same ?_
        refine r_iinc C dX0_swapAndTurn_48 (v := nI (i + 1)) (L' := [some (.ref o), some (.int (nI (i + 1)))]) rfl (nI_add i 1) (by decide) rfl ?_
        refine r_goto C 17 dX0_swapAndTurn_51 (by decide) ?_
        exact ih_17 (i + 1) _ (by omega) (by omega) (upn_lt h1 (by unfold swT; rw [if_pos (by omega)])) (upn_ge h2)
  refine r_eq rfl rfl (ws_self (ws_ne n_bl_be w_bl)).symm ?_
  exact loop_17 _ 0 B (Nat.lt_succ_self _) (by omega) (fun k hk => absurd hk (Nat.not_lt_zero k)) (fun k hk => rfl)
theorem back_lt {B1 B : Nat → Nat} {i x : Nat} (h : ∀ m, m < i → B1 ((5 * m) % 16) = bk (B m)) (hx : x = bk (B i)) (hi : ¬ 16 ≤ i) : ∀ m, m < i + 1 → upn B1 ((5 * i) % 16) x ((5 * m) % 16) = bk (B m) := by
  intro m hm
  unfold upn
  by_cases e : m = i
  · rw [e, if_pos rfl, hx]
  · rw [if_neg (by omega)]
    exact h m (by omega)
theorem back_all {B1 B : Nat → Nat} {i : Nat} (h1 : ∀ m, m < i → B1 ((5 * m) % 16) = bk (B m)) (h2 : ∀ k, 16 ≤ k → B1 k = B k) (hi : 16 ≤ i) : B1 = swTB B := by
  funext k
  unfold swTB
  by_cases hk : k < 16
  · rw [if_pos hk]
    have := h1 ((13 * k) % 16) (by omega)
    rw [show (5 * ((13 * k) % 16)) % 16 = k by omega] at this
    exact this
  · rw [if_neg hk]
    exact h2 k (by omega)
set_option maxHeartbeats 4000000 in
set_option maxRecDepth 100000 in
theorem cX0_swapAndTurnBack9 {w : Wo} {o sb bl be : Nat} (l_o : o < NW) (l_sb : sb < NW) (l_bl : bl < NW) (l_be : be < NW) (n_o_sb : o ≠ sb) (n_o_bl : o ≠ bl) (n_o_be : o ≠ be) (n_sb_bl : sb ≠ bl) (n_sb_be : sb ≠ be) (n_bl_be : bl ≠ be) {cl : Nat} (w_o : w o = ob 0 [.ref sb, .ref cl, .ref bl, .ref be]) {B SB : Nat → Nat} {fe : Nat → Int32} (w_sb : w sb = ia 256 (nf SB)) (hsb : ∀ x, x < 256 → SB x = bk x) (w_bl : w bl = ia 16 (nf B)) (w_be : w be = ia 16 fe) (hB : b16 B) : Ctr mX0_swapAndTurnBack [.ref o] w (PV fun w' => ∃ fe', w' = wset (wset w be (ia 16 fe')) bl (ia 16 (nf (swTB B)))) := by
  refine Ctr_intro okX0_swapAndTurnBack rfl (Nat.le_of_ble_eq_true rfl) (L := [some (.ref o), none]) rfl (fun g ct C T_ => ?_)
  refine r_aload_n C dX0_swapAndTurnBack_0 rfl ?_
  refine r_get C dX0_swapAndTurnBack_1 fgRX0_18 l_o w_o rfl ?_
  refine r_iconst C dX0_swapAndTurnBack_4 (v := 0) (by decide) ?_
  refine r_aload_n C dX0_swapAndTurnBack_5 rfl ?_
  refine r_get C dX0_swapAndTurnBack_6 fgRX0_21 l_o w_o rfl ?_
  refine r_iconst C dX0_swapAndTurnBack_9 (v := 0) (by decide) ?_
  refine r_bipush C dX0_swapAndTurnBack_10 (v := 16) (by decide) ?_
  refine r_copyN C dX0_swapAndTurnBack_12 mlRX0_44 jn_copy_native jn_copy_static jn_sys_init l_bl w_bl l_be w_be (sn := 0) (dn := 0) (ln := 16) rfl rfl rfl (by omega) (by omega) (by omega) (by omega) (by omega) (by decide) (Nat.le_of_ble_eq_true rfl) ?_
  refine r_iconst C dX0_swapAndTurnBack_15 (v := 0) (by decide) ?_
  refine r_istore_n C dX0_swapAndTurnBack_16 (L' := [some (.ref o), some (.int 0)]) (by decide) rfl ?_
  have loop_17 : ∀ (d9 : Nat) (i : Nat) (B1 : Nat → Nat), 16 - i < d9 → i ≤ 16 → (∀ m, m < i → B1 ((5 * m) % 16) = bk (B m)) → (∀ k, 16 ≤ k → B1 k = B k) → Az g mX0_swapAndTurnBack ct 0 0 17 [some (.ref o), some (.int (nI i))] [] (wset (wset w be (ia 16 (va_cpy (nf B) fe 0 0 16))) bl (ia 16 (nf B1))) := by
    intro d9
    induction d9 with
    | zero => intro i B1 hd9; exact absurd hd9 (Nat.not_lt_zero _)
    | succ d9 ih_17 =>
      intro i B1 hd9 hi h1 h2
      refine r_iload_n C dX0_swapAndTurnBack_17 rfl ?_
      refine r_bipush C dX0_swapAndTurnBack_18 (v := 16) (by decide) ?_
      refine r_icmp_ge C 55 dX0_swapAndTurnBack_20 (by decide) (fun c_20 => ?_) (fun c_20 => ?_)
      · skip
        have c_20 : 16 ≤ i := (nI_leI (a := 16) (b := i) (by omega) (by omega)).mp c_20
        exact r_return C T_ rfl dX0_swapAndTurnBack_55 (⟨rfl, _, by rw [back_all h1 h2 c_20]⟩)
      · skip
        have c_20 : ¬ (16 ≤ i) := fun h9 => c_20 ((nI_leI (a := 16) (b := i) (by omega) (by omega)).mpr h9)
        refine r_aload_n C dX0_swapAndTurnBack_23 rfl ?_
        refine r_get C dX0_swapAndTurnBack_24 fgRX0_18 l_o (ws_ne n_o_bl (ws_ne n_o_be w_o)) rfl ?_
        refine r_iconst C dX0_swapAndTurnBack_27 (v := 5) (by decide) ?_
        refine r_iload_n C dX0_swapAndTurnBack_28 rfl ?_
        refine r_imul C dX0_swapAndTurnBack_29 ?_
        refine r_top (y := nI (5 * i)) (pk_mul 5 i) ?_
        refine r_bipush C dX0_swapAndTurnBack_30 (v := 15) (by decide) ?_
        refine r_iand C dX0_swapAndTurnBack_32 ?_
        refine r_top (y := nI ((5 * i) % 16)) (pk_andN (n := 5 * i) (by omega) 4 rfl) ?_
        refine r_aload_n C dX0_swapAndTurnBack_33 rfl ?_
        refine r_get C dX0_swapAndTurnBack_34 fgRX0_9 l_o (ws_ne n_o_bl (ws_ne n_o_be w_o)) rfl ?_
        refine r_aload_n C dX0_swapAndTurnBack_37 rfl ?_
        refine r_get C dX0_swapAndTurnBack_38 fgRX0_21 l_o (ws_ne n_o_bl (ws_ne n_o_be w_o)) rfl ?_
        refine r_iload_n C dX0_swapAndTurnBack_41 rfl ?_
        refine r_ialdN C dX0_swapAndTurnBack_42 l_be (ws_ne (Ne.symm n_bl_be) ws_eq) (j := i) rfl (by omega) (by decide) ?_
        refine r_top (y := nI (B i)) (cpy16 (by omega)) ?_
        have hB9 := hB i (by omega)
        refine r_sipush C dX0_swapAndTurnBack_43 (v := 255) (by decide) ?_
        refine r_iand C dX0_swapAndTurnBack_46 ?_
        refine r_top (y := nI (B i)) ((pk_andN (n := B i) (by omega) 8 rfl).trans (congrArg nI (Nat.mod_eq_of_lt hB9))) ?_
        refine r_ialdN C dX0_swapAndTurnBack_47 l_sb (ws_ne n_sb_bl (ws_ne n_sb_be w_sb)) (j := B i) rfl (by omega) (by decide) ?_
        refine r_top (y := nI (SB (B i))) (nf_at SB (B i)) ?_
        refine r_iastF C dX0_swapAndTurnBack_48 l_bl ws_eq (j := (5 * i) % 16) (x := SB (B i)) rfl rfl (by omega) (by decide) ?_
        refine r_eq rfl rfl ws_same ?_
        refine r_iinc C dX0_swapAndTurnBack_49 (v := nI (i + 1)) (L' := [some (.ref o), some (.int (nI (i + 1)))]) rfl (nI_add i 1) (by decide) rfl ?_
        refine r_goto C 17 dX0_swapAndTurnBack_52 (by decide) ?_
        exact ih_17 (i + 1) _ (by omega) (by omega) (back_lt h1 (by rw [hsb _ hB9]) c_20) (fun k hk => by rw [upn_ne (by omega)]; exact h2 k hk)
  refine r_eq rfl rfl (ws_self (ws_ne n_bl_be w_bl)).symm ?_
  exact loop_17 _ 0 B (Nat.lt_succ_self _) (by omega) (fun k hk => absurd hk (Nat.not_lt_zero k)) (fun k hk => rfl)
set_option maxHeartbeats 4000000 in
set_option maxRecDepth 100000 in
theorem cX0_mixColumns9 {w : Wo} {o bl : Nat} (l_o : o < NW) (l_bl : bl < NW) (n_o_bl : o ≠ bl) {sb cl be : Nat} (w_o : w o = ob 0 [.ref sb, .ref cl, .ref bl, .ref be]) {B : Nat → Nat} (w_bl : w bl = ia 16 (nf B)) (hB : b16 B) : Ctr mX0_mixColumns [.ref o] w (PV fun w' => w' = wset w bl (ia 16 (nf (mixC B)))) := by
  refine Ctr_intro okX0_mixColumns rfl (Nat.le_of_ble_eq_true rfl) (L := [some (.ref o), none, none, none, none, none, none]) rfl (fun g ct C T_ => ?_)
  refine r_iconst C dX0_mixColumns_0 (v := 0) (by decide) ?_
  refine r_istore_n C dX0_mixColumns_1 (L' := [some (.ref o), some (.int 0), none, none, none, none, none]) (by decide) rfl ?_
  have loop_2 : ∀ (d9 : Nat) (c : Nat) (B1 : Nat → Nat), 4 - c < d9 → c ≤ 4 → (∀ k, k < 4 * c → B1 k = mixC B k) → (∀ k, 4 * c ≤ k → B1 k = B k) → Az g mX0_mixColumns ct 0 0 2 [some (.ref o), some (.int (nI (4 * c))), none, none, none, none, none] [] (wset w bl (ia 16 (nf B1))) := by
    intro d9
    induction d9 with
    | zero => intro c B1 hd9; exact absurd hd9 (Nat.not_lt_zero _)
    | succ d9 ih_2 =>
      intro c B1 hd9 hc h1 h2
      refine r_iload_n C dX0_mixColumns_2 rfl ?_
      refine r_bipush C dX0_mixColumns_3 (v := 16) (by decide) ?_
      refine r_icmp_ge C 141 dX0_mixColumns_5 (by decide) (fun c_5 => ?_) (fun c_5 => ?_)
      · skip
        have c_5 : 16 ≤ (4 * c) := (nI_leI (a := 16) (b := 4 * c) (by omega) (by omega)).mp c_5
        exact r_return C T_ rfl dX0_mixColumns_141 (⟨rfl, by rw [fun_lh (n := 4 * c) h1 h2 (fun k hk => mixC_hi _ k (by omega))]⟩)
      · skip
        have c_5 : ¬ (16 ≤ (4 * c)) := fun h9 => c_5 ((nI_leI (a := 16) (b := 4 * c) (by omega) (by omega)).mpr h9)
        refine r_aload_n C dX0_mixColumns_8 rfl ?_
        refine r_get C dX0_mixColumns_9 fgRX0_18 l_o (ws_ne n_o_bl w_o) rfl ?_
        refine r_iload_n C dX0_mixColumns_12 rfl ?_
        refine r_ialdN C dX0_mixColumns_13 l_bl ws_eq (j := 4 * c) rfl (by omega) (by decide) ?_
        refine r_top (y := nI (B (4 * c))) (congrArg nI (h2 _ (by omega))) ?_
        refine r_istore_n C dX0_mixColumns_14 (L' := [some (.ref o), some (.int (nI (4 * c))), some (.int (nI (B (4 * c)))), none, none, none, none]) (by decide) rfl ?_
        refine r_aload_n C dX0_mixColumns_15 rfl ?_
        refine r_get C dX0_mixColumns_16 fgRX0_18 l_o (ws_ne n_o_bl w_o) rfl ?_
        refine r_iload_n C dX0_mixColumns_19 rfl ?_
        refine r_iconst C dX0_mixColumns_20 (v := 1) (by decide) ?_
        refine r_iadd C dX0_mixColumns_21 ?_
        refine r_top (y := nI ((4 * c) + 1)) (nI_add (4 * c) 1) ?_
        refine r_ialdN C dX0_mixColumns_22 l_bl ws_eq (j := (4 * c) + 1) rfl (by omega) (by decide) ?_
        refine r_top (y := nI (B (4 * c + 1))) (congrArg nI (h2 _ (by omega))) ?_
        refine r_istore_n C dX0_mixColumns_23 (L' := [some (.ref o), some (.int (nI (4 * c))), some (.int (nI (B (4 * c)))), some (.int (nI (B (4 * c + 1)))), none, none, none]) (by decide) rfl ?_
        refine r_aload_n C dX0_mixColumns_24 rfl ?_
        refine r_get C dX0_mixColumns_25 fgRX0_18 l_o (ws_ne n_o_bl w_o) rfl ?_
        refine r_iload_n C dX0_mixColumns_28 rfl ?_
        refine r_iconst C dX0_mixColumns_29 (v := 2) (by decide) ?_
        refine r_iadd C dX0_mixColumns_30 ?_
        refine r_top (y := nI ((4 * c) + 2)) (nI_add (4 * c) 2) ?_
        refine r_ialdN C dX0_mixColumns_31 l_bl ws_eq (j := (4 * c) + 2) rfl (by omega) (by decide) ?_
        refine r_top (y := nI (B (4 * c + 2))) (congrArg nI (h2 _ (by omega))) ?_
        refine r_istore C dX0_mixColumns_32 (L' := [some (.ref o), some (.int (nI (4 * c))), some (.int (nI (B (4 * c)))), some (.int (nI (B (4 * c + 1)))), some (.int (nI (B (4 * c + 2)))), none, none]) (by decide) rfl ?_
        refine r_aload_n C dX0_mixColumns_34 rfl ?_
        refine r_get C dX0_mixColumns_35 fgRX0_18 l_o (ws_ne n_o_bl w_o) rfl ?_
        refine r_iload_n C dX0_mixColumns_38 rfl ?_
        refine r_iconst C dX0_mixColumns_39 (v := 3) (by decide) ?_
        refine r_iadd C dX0_mixColumns_40 ?_
        refine r_top (y := nI ((4 * c) + 3)) (nI_add (4 * c) 3) ?_
        refine r_ialdN C dX0_mixColumns_41 l_bl ws_eq (j := (4 * c) + 3) rfl (by omega) (by decide) ?_
        refine r_top (y := nI (B (4 * c + 3))) (congrArg nI (h2 _ (by omega))) ?_
        have b0 := hB (4 * c) (by omega)
        have b1 := hB (4 * c + 1) (by omega)
        have b2 := hB (4 * c + 2) (by omega)
        have b3 := hB (4 * c + 3) (by omega)
        refine r_istore C dX0_mixColumns_42 (L' := [some (.ref o), some (.int (nI (4 * c))), some (.int (nI (B (4 * c)))), some (.int (nI (B (4 * c + 1)))), some (.int (nI (B (4 * c + 2)))), some (.int (nI (B (4 * c + 3)))), none]) (by decide) rfl ?_
        refine r_iload_n C dX0_mixColumns_44 rfl ?_
        refine r_iload_n C dX0_mixColumns_45 rfl ?_
        refine r_ixor C dX0_mixColumns_46 ?_
        refine r_top (y := nI ((B (4 * c)) ^^^ (B (4 * c + 1)))) (nx_xor9 (B (4 * c)) (B (4 * c + 1))) ?_
        refine r_iload C dX0_mixColumns_47 rfl ?_
        refine r_ixor C dX0_mixColumns_49 ?_
        refine r_top (y := nI (((B (4 * c)) ^^^ (B (4 * c + 1))) ^^^ (B (4 * c + 2)))) (nx_xor9 ((B (4 * c)) ^^^ (B (4 * c + 1))) (B (4 * c + 2))) ?_
        refine r_iload C dX0_mixColumns_50 rfl ?_
        refine r_ixor C dX0_mixColumns_52 ?_
        refine r_top (y := nI ((((B (4 * c)) ^^^ (B (4 * c + 1))) ^^^ (B (4 * c + 2))) ^^^ (B (4 * c + 3)))) (nx_xor9 (((B (4 * c)) ^^^ (B (4 * c + 1))) ^^^ (B (4 * c + 2))) (B (4 * c + 3))) ?_
        refine r_istore C dX0_mixColumns_53 (L' := [some (.ref o), some (.int (nI (4 * c))), some (.int (nI (B (4 * c)))), some (.int (nI (B (4 * c + 1)))), some (.int (nI (B (4 * c + 2)))), some (.int (nI (B (4 * c + 3)))), some (.int (nI ((((B (4 * c)) ^^^ (B (4 * c + 1))) ^^^ (B (4 * c + 2))) ^^^ (B (4 * c + 3)))))]) (by decide) rfl ?_
        refine r_aload_n C dX0_mixColumns_55 rfl ?_
        refine r_get C dX0_mixColumns_56 fgRX0_18 l_o (ws_ne n_o_bl w_o) rfl ?_
        refine r_iload_n C dX0_mixColumns_59 rfl ?_
        refine r_iload_n C dX0_mixColumns_60 rfl ?_
        refine r_iload C dX0_mixColumns_61 rfl ?_
        refine r_ixor C dX0_mixColumns_63 ?_
        refine r_top (y := nI ((B (4 * c)) ^^^ ((((B (4 * c)) ^^^ (B (4 * c + 1))) ^^^ (B (4 * c + 2))) ^^^ (B (4 * c + 3))))) (nx_xor9 (B (4 * c)) ((((B (4 * c)) ^^^ (B (4 * c + 1))) ^^^ (B (4 * c + 2))) ^^^ (B (4 * c + 3)))) ?_
        refine r_iload_n C dX0_mixColumns_64 rfl ?_
        refine r_iload_n C dX0_mixColumns_65 rfl ?_
        refine r_ixor C dX0_mixColumns_66 ?_
        refine r_top (y := nI ((B (4 * c)) ^^^ (B (4 * c + 1)))) (nx_xor9 (B (4 * c)) (B (4 * c + 1))) ?_
        have x9 := xor_lt b0 b1
        refine r_callSi C (As := [.int (nI ((B (4 * c)) ^^^ (B (4 * c + 1))))]) (rest := [.int (nI ((B (4 * c)) ^^^ ((((B (4 * c)) ^^^ (B (4 * c + 1))) ^^^ (B (4 * c + 2))) ^^^ (B (4 * c + 3))))), .int (nI (4 * c)), .ref bl]) dX0_mixColumns_67 (cX0_twice9 (b := (B (4 * c)) ^^^ (B (4 * c + 1))) (by assumption)) okX0_twice mlRX0_36 stX0_twice ⟨by decide, by decide⟩ rfl rfl (Nat.le_of_ble_eq_true rfl) (by decide) (by decide) (fun r1 w9 h9 => ?_)
        obtain ⟨e9, rfl⟩ := h9
        have e9 := e9.symm
        subst e9
        refine r_ixor C dX0_mixColumns_70 ?_
        refine r_top (y := nI (((B (4 * c)) ^^^ ((((B (4 * c)) ^^^ (B (4 * c + 1))) ^^^ (B (4 * c + 2))) ^^^ (B (4 * c + 3)))) ^^^ (xt ((B (4 * c)) ^^^ (B (4 * c + 1)))))) (nx_xor9 ((B (4 * c)) ^^^ ((((B (4 * c)) ^^^ (B (4 * c + 1))) ^^^ (B (4 * c + 2))) ^^^ (B (4 * c + 3)))) (xt ((B (4 * c)) ^^^ (B (4 * c + 1))))) ?_
        refine r_iastF C dX0_mixColumns_71 l_bl ws_eq (j := 4 * c) (x := ((B (4 * c)) ^^^ ((((B (4 * c)) ^^^ (B (4 * c + 1))) ^^^ (B (4 * c + 2))) ^^^ (B (4 * c + 3)))) ^^^ (xt ((B (4 * c)) ^^^ (B (4 * c + 1))))) rfl rfl (by omega) (by decide) ?_
        refine r_eq rfl rfl ws_same ?_
        refine r_aload_n C dX0_mixColumns_72 rfl ?_
        refine r_get C dX0_mixColumns_73 fgRX0_18 l_o (ws_ne n_o_bl w_o) rfl ?_
        refine r_iload_n C dX0_mixColumns_76 rfl ?_
        refine r_iconst C dX0_mixColumns_77 (v := 1) (by decide) ?_
        refine r_iadd C dX0_mixColumns_78 ?_
        refine r_top (y := nI ((4 * c) + 1)) (nI_add (4 * c) 1) ?_
        refine r_iload_n C dX0_mixColumns_79 rfl ?_
        refine r_iload C dX0_mixColumns_80 rfl ?_
        refine r_ixor C dX0_mixColumns_82 ?_
        refine r_top (y := nI ((B (4 * c + 1)) ^^^ ((((B (4 * c)) ^^^ (B (4 * c + 1))) ^^^ (B (4 * c + 2))) ^^^ (B (4 * c + 3))))) (nx_xor9 (B (4 * c + 1)) ((((B (4 * c)) ^^^ (B (4 * c + 1))) ^^^ (B (4 * c + 2))) ^^^ (B (4 * c + 3)))) ?_
        refine r_iload_n C dX0_mixColumns_83 rfl ?_
        refine r_iload C dX0_mixColumns_84 rfl ?_
        refine r_ixor C dX0_mixColumns_86 ?_
        refine r_top (y := nI ((B (4 * c + 1)) ^^^ (B (4 * c + 2)))) (nx_xor9 (B (4 * c + 1)) (B (4 * c + 2))) ?_
        have x9 := xor_lt b1 b2
        refine r_callSi C (As := [.int (nI ((B (4 * c + 1)) ^^^ (B (4 * c + 2))))]) (rest := [.int (nI ((B (4 * c + 1)) ^^^ ((((B (4 * c)) ^^^ (B (4 * c + 1))) ^^^ (B (4 * c + 2))) ^^^ (B (4 * c + 3))))), .int (nI ((4 * c) + 1)), .ref bl]) dX0_mixColumns_87 (cX0_twice9 (b := (B (4 * c + 1)) ^^^ (B (4 * c + 2))) (by assumption)) okX0_twice mlRX0_36 stX0_twice ⟨by decide, by decide⟩ rfl rfl (Nat.le_of_ble_eq_true rfl) (by decide) (by decide) (fun r2 w9 h9 => ?_)
        obtain ⟨e9, rfl⟩ := h9
        have e9 := e9.symm
        subst e9
        refine r_ixor C dX0_mixColumns_90 ?_
        refine r_top (y := nI (((B (4 * c + 1)) ^^^ ((((B (4 * c)) ^^^ (B (4 * c + 1))) ^^^ (B (4 * c + 2))) ^^^ (B (4 * c + 3)))) ^^^ (xt ((B (4 * c + 1)) ^^^ (B (4 * c + 2)))))) (nx_xor9 ((B (4 * c + 1)) ^^^ ((((B (4 * c)) ^^^ (B (4 * c + 1))) ^^^ (B (4 * c + 2))) ^^^ (B (4 * c + 3)))) (xt ((B (4 * c + 1)) ^^^ (B (4 * c + 2))))) ?_
        refine r_iastF C dX0_mixColumns_91 l_bl ws_eq (j := (4 * c) + 1) (x := ((B (4 * c + 1)) ^^^ ((((B (4 * c)) ^^^ (B (4 * c + 1))) ^^^ (B (4 * c + 2))) ^^^ (B (4 * c + 3)))) ^^^ (xt ((B (4 * c + 1)) ^^^ (B (4 * c + 2))))) rfl rfl (by omega) (by decide) ?_
        refine r_eq rfl rfl ws_same ?_
        refine r_aload_n C dX0_mixColumns_92 rfl ?_
        refine r_get C dX0_mixColumns_93 fgRX0_18 l_o (ws_ne n_o_bl w_o) rfl ?_
        refine r_iload_n C dX0_mixColumns_96 rfl ?_
        refine r_iconst C dX0_mixColumns_97 (v := 2) (by decide) ?_
        refine r_iadd C dX0_mixColumns_98 ?_
        refine r_top (y := nI ((4 * c) + 2)) (nI_add (4 * c) 2) ?_
        refine r_iload C dX0_mixColumns_99 rfl ?_
        refine r_iload C dX0_mixColumns_101 rfl ?_
        refine r_ixor C dX0_mixColumns_103 ?_
        refine r_top (y := nI ((B (4 * c + 2)) ^^^ ((((B (4 * c)) ^^^ (B (4 * c + 1))) ^^^ (B (4 * c + 2))) ^^^ (B (4 * c + 3))))) (nx_xor9 (B (4 * c + 2)) ((((B (4 * c)) ^^^ (B (4 * c + 1))) ^^^ (B (4 * c + 2))) ^^^ (B (4 * c + 3)))) ?_
        refine r_iload C dX0_mixColumns_104 rfl ?_
        refine r_iload C dX0_mixColumns_106 rfl ?_
        refine r_ixor C dX0_mixColumns_108 ?_
        refine r_top (y := nI ((B (4 * c + 2)) ^^^ (B (4 * c + 3)))) (nx_xor9 (B (4 * c + 2)) (B (4 * c + 3))) ?_
        have x9 := xor_lt b2 b3
        refine r_callSi C (As := [.int (nI ((B (4 * c + 2)) ^^^ (B (4 * c + 3))))]) (rest := [.int (nI ((B (4 * c + 2)) ^^^ ((((B (4 * c)) ^^^ (B (4 * c + 1))) ^^^ (B (4 * c + 2))) ^^^ (B (4 * c + 3))))), .int (nI ((4 * c) + 2)), .ref bl]) dX0_mixColumns_109 (cX0_twice9 (b := (B (4 * c + 2)) ^^^ (B (4 * c + 3))) (by assumption)) okX0_twice mlRX0_36 stX0_twice ⟨by decide, by decide⟩ rfl rfl (Nat.le_of_ble_eq_true rfl) (by decide) (by decide) (fun r3 w9 h9 => ?_)
        obtain ⟨e9, rfl⟩ := h9
        have e9 := e9.symm
        subst e9
        refine r_ixor C dX0_mixColumns_112 ?_
        refine r_top (y := nI (((B (4 * c + 2)) ^^^ ((((B (4 * c)) ^^^ (B (4 * c + 1))) ^^^ (B (4 * c + 2))) ^^^ (B (4 * c + 3)))) ^^^ (xt ((B (4 * c + 2)) ^^^ (B (4 * c + 3)))))) (nx_xor9 ((B (4 * c + 2)) ^^^ ((((B (4 * c)) ^^^ (B (4 * c + 1))) ^^^ (B (4 * c + 2))) ^^^ (B (4 * c + 3)))) (xt ((B (4 * c + 2)) ^^^ (B (4 * c + 3))))) ?_
        refine r_iastF C dX0_mixColumns_113 l_bl ws_eq (j := (4 * c) + 2) (x := ((B (4 * c + 2)) ^^^ ((((B (4 * c)) ^^^ (B (4 * c + 1))) ^^^ (B (4 * c + 2))) ^^^ (B (4 * c + 3)))) ^^^ (xt ((B (4 * c + 2)) ^^^ (B (4 * c + 3))))) rfl rfl (by omega) (by decide) ?_
        refine r_eq rfl rfl ws_same ?_
        refine r_aload_n C dX0_mixColumns_114 rfl ?_
        refine r_get C dX0_mixColumns_115 fgRX0_18 l_o (ws_ne n_o_bl w_o) rfl ?_
        refine r_iload_n C dX0_mixColumns_118 rfl ?_
        refine r_iconst C dX0_mixColumns_119 (v := 3) (by decide) ?_
        refine r_iadd C dX0_mixColumns_120 ?_
        refine r_top (y := nI ((4 * c) + 3)) (nI_add (4 * c) 3) ?_
        refine r_iload C dX0_mixColumns_121 rfl ?_
        refine r_iload C dX0_mixColumns_123 rfl ?_
        refine r_ixor C dX0_mixColumns_125 ?_
        refine r_top (y := nI ((B (4 * c + 3)) ^^^ ((((B (4 * c)) ^^^ (B (4 * c + 1))) ^^^ (B (4 * c + 2))) ^^^ (B (4 * c + 3))))) (nx_xor9 (B (4 * c + 3)) ((((B (4 * c)) ^^^ (B (4 * c + 1))) ^^^ (B (4 * c + 2))) ^^^ (B (4 * c + 3)))) ?_
        refine r_iload C dX0_mixColumns_126 rfl ?_
        refine r_iload_n C dX0_mixColumns_128 rfl ?_
        refine r_ixor C dX0_mixColumns_129 ?_
        refine r_top (y := nI ((B (4 * c + 3)) ^^^ (B (4 * c)))) (nx_xor9 (B (4 * c + 3)) (B (4 * c))) ?_
        have x9 := xor_lt b3 b0
        refine r_callSi C (As := [.int (nI ((B (4 * c + 3)) ^^^ (B (4 * c))))]) (rest := [.int (nI ((B (4 * c + 3)) ^^^ ((((B (4 * c)) ^^^ (B (4 * c + 1))) ^^^ (B (4 * c + 2))) ^^^ (B (4 * c + 3))))), .int (nI ((4 * c) + 3)), .ref bl]) dX0_mixColumns_130 (cX0_twice9 (b := (B (4 * c + 3)) ^^^ (B (4 * c))) (by assumption)) okX0_twice mlRX0_36 stX0_twice ⟨by decide, by decide⟩ rfl rfl (Nat.le_of_ble_eq_true rfl) (by decide) (by decide) (fun r4 w9 h9 => ?_)
        obtain ⟨e9, rfl⟩ := h9
        have e9 := e9.symm
        subst e9
        refine r_ixor C dX0_mixColumns_133 ?_
        refine r_top (y := nI (((B (4 * c + 3)) ^^^ ((((B (4 * c)) ^^^ (B (4 * c + 1))) ^^^ (B (4 * c + 2))) ^^^ (B (4 * c + 3)))) ^^^ (xt ((B (4 * c + 3)) ^^^ (B (4 * c)))))) (nx_xor9 ((B (4 * c + 3)) ^^^ ((((B (4 * c)) ^^^ (B (4 * c + 1))) ^^^ (B (4 * c + 2))) ^^^ (B (4 * c + 3)))) (xt ((B (4 * c + 3)) ^^^ (B (4 * c))))) ?_
        refine r_iastF C dX0_mixColumns_134 l_bl ws_eq (j := (4 * c) + 3) (x := ((B (4 * c + 3)) ^^^ ((((B (4 * c)) ^^^ (B (4 * c + 1))) ^^^ (B (4 * c + 2))) ^^^ (B (4 * c + 3)))) ^^^ (xt ((B (4 * c + 3)) ^^^ (B (4 * c))))) rfl rfl (by omega) (by decide) ?_
        refine r_eq rfl rfl ws_same ?_
        refine r_iinc C dX0_mixColumns_135 (v := nI (4 * (c + 1))) (L' := [some (.ref o), some (.int (nI (4 * (c + 1)))), some (.int (nI (B (4 * c)))), some (.int (nI (B (4 * c + 1)))), some (.int (nI (B (4 * c + 2)))), some (.int (nI (B (4 * c + 3)))), some (.int (nI ((((B (4 * c)) ^^^ (B (4 * c + 1))) ^^^ (B (4 * c + 2))) ^^^ (B (4 * c + 3)))))]) rfl ((nI_add (4 * c) 4).trans (congrArg nI (by omega))) (by decide) rfl ?_
        refine r_goto C 2 dX0_mixColumns_138 (by decide) ?_
        refine r_forget [some (.ref o), some (.int (nI (4 * (c + 1)))), none, none, none, none, none] ⟨Or.inr rfl, Or.inr rfl, Or.inl rfl, Or.inl rfl, Or.inl rfl, Or.inl rfl, Or.inl rfl, trivial⟩ ?_
        exact ih_2 (c + 1) _ (by omega) (by omega) (col4 h1 (by rw [show mixC B (4 * c) = mixC B (4 * c + 0) from rfl, mixC_col B (by omega) (by omega)]; rfl) (by rw [mixC_col B (by omega) (by omega)]; rfl) (by rw [mixC_col B (by omega) (by omega)]; rfl) (by rw [mixC_col B (by omega) (by omega)]; rfl)) (col4' h2)
  refine r_eq rfl rfl (ws_self w_bl).symm ?_
  exact loop_2 _ 0 B (Nat.lt_succ_self _) (by omega) (fun k hk => absurd hk (by omega)) (fun k hk => rfl)
set_option maxHeartbeats 4000000 in
set_option maxRecDepth 100000 in
theorem cX0_unmixColumns9 {w : Wo} {o bl : Nat} (l_o : o < NW) (l_bl : bl < NW) (n_o_bl : o ≠ bl) {sb cl be : Nat} (w_o : w o = ob 0 [.ref sb, .ref cl, .ref bl, .ref be]) {B : Nat → Nat} (w_bl : w bl = ia 16 (nf B)) (hB : b16 B) : Ctr mX0_unmixColumns [.ref o] w (PV fun w' => w' = wset w bl (ia 16 (nf (unmixC B)))) := by
  refine Ctr_intro okX0_unmixColumns rfl (Nat.le_of_ble_eq_true rfl) (L := [some (.ref o), none, none, none]) rfl (fun g ct C T_ => ?_)
  refine r_iconst C dX0_unmixColumns_0 (v := 0) (by decide) ?_
  refine r_istore_n C dX0_unmixColumns_1 (L' := [some (.ref o), some (.int 0), none, none]) (by decide) rfl ?_
  have loop_2 : ∀ (d9 : Nat) (c : Nat) (B1 : Nat → Nat), 4 - c < d9 → c ≤ 4 → (∀ k, k < 4 * c → B1 k = evn B k) → (∀ k, 4 * c ≤ k → B1 k = B k) → Az g mX0_unmixColumns ct 0 0 2 [some (.ref o), some (.int (nI (4 * c))), none, none] [] (wset w bl (ia 16 (nf B1))) := by
    intro d9
    induction d9 with
    | zero => intro c B1 hd9; exact absurd hd9 (Nat.not_lt_zero _)
    | succ d9 ih_2 =>
      intro c B1 hd9 hc h1 h2
      refine r_iload_n C dX0_unmixColumns_2 rfl ?_
      refine r_bipush C dX0_unmixColumns_3 (v := 16) (by decide) ?_
      refine r_icmp_ge C 106 dX0_unmixColumns_5 (by decide) (fun c_5 => ?_) (fun c_5 => ?_)
      · skip
        have c_5 : 16 ≤ (4 * c) := (nI_leI (a := 16) (b := 4 * c) (by omega) (by omega)).mp c_5
        refine r_aload_n C dX0_unmixColumns_106 rfl ?_
        have hE : B1 = evn B := fun_lh (n := 4 * c) h1 h2 (fun k hk => evn_hi _ k (by omega))
        subst hE
        refine r_callVv C (As := []) (rest := []) dX0_unmixColumns_107 (cX0_mixColumns9 l_o l_bl n_o_bl (ws_ne n_o_bl w_o) (B := evn B) ws_eq (b16_evn hB)) okX0_mixColumns mlRX0_57 imX0_mixColumns seX0_mixColumns ⟨by decide, by decide⟩ rfl rfl l_o (ws_ne n_o_bl w_o) rfl rfl (Nat.le_of_ble_eq_true rfl) (by decide) (by decide) (fun w9 h9 => ?_)
        obtain rfl := h9
        refine r_eq rfl rfl ws_same ?_
        exact r_return C T_ rfl dX0_unmixColumns_110 (⟨rfl, rfl⟩)
      · skip
        have c_5 : ¬ (16 ≤ (4 * c)) := fun h9 => c_5 ((nI_leI (a := 16) (b := 4 * c) (by omega) (by omega)).mpr h9)
        refine r_aload_n C dX0_unmixColumns_8 rfl ?_
        refine r_get C dX0_unmixColumns_9 fgRX0_18 l_o (ws_ne n_o_bl w_o) rfl ?_
        refine r_iload_n C dX0_unmixColumns_12 rfl ?_
        refine r_ialdN C dX0_unmixColumns_13 l_bl ws_eq (j := 4 * c) rfl (by omega) (by decide) ?_
        refine r_top (y := nI (B (4 * c))) (congrArg nI (h2 _ (by omega))) ?_
        refine r_aload_n C dX0_unmixColumns_14 rfl ?_
        refine r_get C dX0_unmixColumns_15 fgRX0_18 l_o (ws_ne n_o_bl w_o) rfl ?_
        refine r_iload_n C dX0_unmixColumns_18 rfl ?_
        refine r_iconst C dX0_unmixColumns_19 (v := 2) (by decide) ?_
        refine r_iadd C dX0_unmixColumns_20 ?_
        refine r_top (y := nI ((4 * c) + 2)) (nI_add (4 * c) 2) ?_
        refine r_ialdN C dX0_unmixColumns_21 l_bl ws_eq (j := (4 * c) + 2) rfl (by omega) (by decide) ?_
        refine r_top (y := nI (B (4 * c + 2))) (congrArg nI (h2 _ (by omega))) ?_
        refine r_ixor C dX0_unmixColumns_22 ?_
        refine r_top (y := nI ((B (4 * c)) ^^^ (B (4 * c + 2)))) (nx_xor9 (B (4 * c)) (B (4 * c + 2))) ?_
        have b0 := hB (4 * c) (by omega)
        have b1 := hB (4 * c + 1) (by omega)
        have b2 := hB (4 * c + 2) (by omega)
        have b3 := hB (4 * c + 3) (by omega)
        have x9 := xor_lt b0 b2
        refine r_callSi C (As := [.int (nI ((B (4 * c)) ^^^ (B (4 * c + 2))))]) (rest := []) dX0_unmixColumns_23 (cX0_twice9 (b := (B (4 * c)) ^^^ (B (4 * c + 2))) (by assumption)) okX0_twice mlRX0_36 stX0_twice ⟨by decide, by decide⟩ rfl rfl (Nat.le_of_ble_eq_true rfl) (by decide) (by decide) (fun r1 w9 h9 => ?_)
        obtain ⟨e9, rfl⟩ := h9
        have e9 := e9.symm
        subst e9
        have x9 := xt_lt _ x9
        refine r_callSi C (As := [.int (nI (xt ((B (4 * c)) ^^^ (B (4 * c + 2)))))]) (rest := []) dX0_unmixColumns_26 (cX0_twice9 (b := xt ((B (4 * c)) ^^^ (B (4 * c + 2)))) (by assumption)) okX0_twice mlRX0_36 stX0_twice ⟨by decide, by decide⟩ rfl rfl (Nat.le_of_ble_eq_true rfl) (by decide) (by decide) (fun r2 w9 h9 => ?_)
        obtain ⟨e9, rfl⟩ := h9
        have e9 := e9.symm
        subst e9
        refine r_istore_n C dX0_unmixColumns_29 (L' := [some (.ref o), some (.int (nI (4 * c))), some (.int (nI (xt (xt ((B (4 * c)) ^^^ (B (4 * c + 2))))))), none]) (by decide) rfl ?_
        refine r_aload_n C dX0_unmixColumns_30 rfl ?_
        refine r_get C dX0_unmixColumns_31 fgRX0_18 l_o (ws_ne n_o_bl w_o) rfl ?_
        refine r_iload_n C dX0_unmixColumns_34 rfl ?_
        refine r_iconst C dX0_unmixColumns_35 (v := 1) (by decide) ?_
        refine r_iadd C dX0_unmixColumns_36 ?_
        refine r_top (y := nI ((4 * c) + 1)) (nI_add (4 * c) 1) ?_
        refine r_ialdN C dX0_unmixColumns_37 l_bl ws_eq (j := (4 * c) + 1) rfl (by omega) (by decide) ?_
        refine r_top (y := nI (B (4 * c + 1))) (congrArg nI (h2 _ (by omega))) ?_
        refine r_aload_n C dX0_unmixColumns_38 rfl ?_
        refine r_get C dX0_unmixColumns_39 fgRX0_18 l_o (ws_ne n_o_bl w_o) rfl ?_
        refine r_iload_n C dX0_unmixColumns_42 rfl ?_
        refine r_iconst C dX0_unmixColumns_43 (v := 3) (by decide) ?_
        refine r_iadd C dX0_unmixColumns_44 ?_
        refine r_top (y := nI ((4 * c) + 3)) (nI_add (4 * c) 3) ?_
        refine r_ialdN C dX0_unmixColumns_45 l_bl ws_eq (j := (4 * c) + 3) rfl (by omega) (by decide) ?_
        refine r_top (y := nI (B (4 * c + 3))) (congrArg nI (h2 _ (by omega))) ?_
        refine r_ixor C dX0_unmixColumns_46 ?_
        refine r_top (y := nI ((B (4 * c + 1)) ^^^ (B (4 * c + 3)))) (nx_xor9 (B (4 * c + 1)) (B (4 * c + 3))) ?_
        have x9 := xor_lt b1 b3
        refine r_callSi C (As := [.int (nI ((B (4 * c + 1)) ^^^ (B (4 * c + 3))))]) (rest := []) dX0_unmixColumns_47 (cX0_twice9 (b := (B (4 * c + 1)) ^^^ (B (4 * c + 3))) (by assumption)) okX0_twice mlRX0_36 stX0_twice ⟨by decide, by decide⟩ rfl rfl (Nat.le_of_ble_eq_true rfl) (by decide) (by decide) (fun r3 w9 h9 => ?_)
        obtain ⟨e9, rfl⟩ := h9
        have e9 := e9.symm
        subst e9
        have x9 := xt_lt _ x9
        refine r_callSi C (As := [.int (nI (xt ((B (4 * c + 1)) ^^^ (B (4 * c + 3)))))]) (rest := []) dX0_unmixColumns_50 (cX0_twice9 (b := xt ((B (4 * c + 1)) ^^^ (B (4 * c + 3)))) (by assumption)) okX0_twice mlRX0_36 stX0_twice ⟨by decide, by decide⟩ rfl rfl (Nat.le_of_ble_eq_true rfl) (by decide) (by decide) (fun r4 w9 h9 => ?_)
        obtain ⟨e9, rfl⟩ := h9
        have e9 := e9.symm
        subst e9
        refine r_istore_n C dX0_unmixColumns_53 (L' := [some (.ref o), some (.int (nI (4 * c))), some (.int (nI (xt (xt ((B (4 * c)) ^^^ (B (4 * c + 2))))))), some (.int (nI (xt (xt ((B (4 * c + 1)) ^^^ (B (4 * c + 3)))))))]) (by decide) rfl ?_
        refine r_aload_n C dX0_unmixColumns_54 rfl ?_
        refine r_get C dX0_unmixColumns_55 fgRX0_18 l_o (ws_ne n_o_bl w_o) rfl ?_
        refine r_iload_n C dX0_unmixColumns_58 rfl ?_
        refine r_dup2 C dX0_unmixColumns_59 rfl rfl ?_
        refine r_ialdN C dX0_unmixColumns_60 l_bl ws_eq (j := 4 * c) rfl (by omega) (by decide) ?_
        refine r_top (y := nI (B (4 * c))) (congrArg nI (by rw [h2 _ (by omega)])) ?_
        refine r_iload_n C dX0_unmixColumns_61 rfl ?_
        refine r_ixor C dX0_unmixColumns_62 ?_
        refine r_top (y := nI ((B (4 * c)) ^^^ (xt (xt ((B (4 * c)) ^^^ (B (4 * c + 2))))))) (nx_xor9 (B (4 * c)) (xt (xt ((B (4 * c)) ^^^ (B (4 * c + 2)))))) ?_
        refine r_iastF C dX0_unmixColumns_63 l_bl ws_eq (j := 4 * c) (x := (B (4 * c)) ^^^ (xt (xt ((B (4 * c)) ^^^ (B (4 * c + 2)))))) rfl rfl (by omega) (by decide) ?_
        refine r_eq rfl rfl ws_same ?_
        refine r_aload_n C dX0_unmixColumns_64 rfl ?_
        refine r_get C dX0_unmixColumns_65 fgRX0_18 l_o (ws_ne n_o_bl w_o) rfl ?_
        refine r_iload_n C dX0_unmixColumns_68 rfl ?_
        refine r_iconst C dX0_unmixColumns_69 (v := 1) (by decide) ?_
        refine r_iadd C dX0_unmixColumns_70 ?_
        refine r_top (y := nI ((4 * c) + 1)) (nI_add (4 * c) 1) ?_
        refine r_dup2 C dX0_unmixColumns_71 rfl rfl ?_
        refine r_ialdN C dX0_unmixColumns_72 l_bl ws_eq (j := (4 * c) + 1) rfl (by omega) (by decide) ?_
        refine r_top (y := nI (B (4 * c + 1))) (congrArg nI (by rw [upn_ne (by omega)]; rw [h2 _ (by omega)])) ?_
        refine r_iload_n C dX0_unmixColumns_73 rfl ?_
        refine r_ixor C dX0_unmixColumns_74 ?_
        refine r_top (y := nI ((B (4 * c + 1)) ^^^ (xt (xt ((B (4 * c + 1)) ^^^ (B (4 * c + 3))))))) (nx_xor9 (B (4 * c + 1)) (xt (xt ((B (4 * c + 1)) ^^^ (B (4 * c + 3)))))) ?_
        refine r_iastF C dX0_unmixColumns_75 l_bl ws_eq (j := (4 * c) + 1) (x := (B (4 * c + 1)) ^^^ (xt (xt ((B (4 * c + 1)) ^^^ (B (4 * c + 3)))))) rfl rfl (by omega) (by decide) ?_
        refine r_eq rfl rfl ws_same ?_
        refine r_aload_n C dX0_unmixColumns_76 rfl ?_
        refine r_get C dX0_unmixColumns_77 fgRX0_18 l_o (ws_ne n_o_bl w_o) rfl ?_
        refine r_iload_n C dX0_unmixColumns_80 rfl ?_
        refine r_iconst C dX0_unmixColumns_81 (v := 2) (by decide) ?_
        refine r_iadd C dX0_unmixColumns_82 ?_
        refine r_top (y := nI ((4 * c) + 2)) (nI_add (4 * c) 2) ?_
        refine r_dup2 C dX0_unmixColumns_83 rfl rfl ?_
        refine r_ialdN C dX0_unmixColumns_84 l_bl ws_eq (j := (4 * c) + 2) rfl (by omega) (by decide) ?_
        refine r_top (y := nI (B (4 * c + 2))) (congrArg nI (by rw [upn_ne (by omega)]; rw [upn_ne (by omega)]; rw [h2 _ (by omega)])) ?_
        refine r_iload_n C dX0_unmixColumns_85 rfl ?_
        refine r_ixor C dX0_unmixColumns_86 ?_
        refine r_top (y := nI ((B (4 * c + 2)) ^^^ (xt (xt ((B (4 * c)) ^^^ (B (4 * c + 2))))))) (nx_xor9 (B (4 * c + 2)) (xt (xt ((B (4 * c)) ^^^ (B (4 * c + 2)))))) ?_
        refine r_iastF C dX0_unmixColumns_87 l_bl ws_eq (j := (4 * c) + 2) (x := (B (4 * c + 2)) ^^^ (xt (xt ((B (4 * c)) ^^^ (B (4 * c + 2)))))) rfl rfl (by omega) (by decide) ?_
        refine r_eq rfl rfl ws_same ?_
        refine r_aload_n C dX0_unmixColumns_88 rfl ?_
        refine r_get C dX0_unmixColumns_89 fgRX0_18 l_o (ws_ne n_o_bl w_o) rfl ?_
        refine r_iload_n C dX0_unmixColumns_92 rfl ?_
        refine r_iconst C dX0_unmixColumns_93 (v := 3) (by decide) ?_
        refine r_iadd C dX0_unmixColumns_94 ?_
        refine r_top (y := nI ((4 * c) + 3)) (nI_add (4 * c) 3) ?_
        refine r_dup2 C dX0_unmixColumns_95 rfl rfl ?_
        refine r_ialdN C dX0_unmixColumns_96 l_bl ws_eq (j := (4 * c) + 3) rfl (by omega) (by decide) ?_
        refine r_top (y := nI (B (4 * c + 3))) (congrArg nI (by rw [upn_ne (by omega)]; rw [upn_ne (by omega)]; rw [upn_ne (by omega)]; rw [h2 _ (by omega)])) ?_
        refine r_iload_n C dX0_unmixColumns_97 rfl ?_
        refine r_ixor C dX0_unmixColumns_98 ?_
        refine r_top (y := nI ((B (4 * c + 3)) ^^^ (xt (xt ((B (4 * c + 1)) ^^^ (B (4 * c + 3))))))) (nx_xor9 (B (4 * c + 3)) (xt (xt ((B (4 * c + 1)) ^^^ (B (4 * c + 3)))))) ?_
        refine r_iastF C dX0_unmixColumns_99 l_bl ws_eq (j := (4 * c) + 3) (x := (B (4 * c + 3)) ^^^ (xt (xt ((B (4 * c + 1)) ^^^ (B (4 * c + 3)))))) rfl rfl (by omega) (by decide) ?_
        refine r_eq rfl rfl ws_same ?_
        refine r_iinc C dX0_unmixColumns_100 (v := nI (4 * (c + 1))) (L' := [some (.ref o), some (.int (nI (4 * (c + 1)))), some (.int (nI (xt (xt ((B (4 * c)) ^^^ (B (4 * c + 2))))))), some (.int (nI (xt (xt ((B (4 * c + 1)) ^^^ (B (4 * c + 3)))))))]) rfl ((nI_add (4 * c) 4).trans (congrArg nI (by omega))) (by decide) rfl ?_
        refine r_goto C 2 dX0_unmixColumns_103 (by decide) ?_
        refine r_forget [some (.ref o), some (.int (nI (4 * (c + 1)))), none, none] ⟨Or.inr rfl, Or.inr rfl, Or.inl rfl, Or.inl rfl, trivial⟩ ?_
        exact ih_2 (c + 1) _ (by omega) (by omega) (col4 h1 (by rw [show evn B (4 * c) = evn B (4 * c + 0) from rfl, evn_0 B (by omega) (Or.inl rfl)]; rfl) (by rw [evn_1 B (by omega) (Or.inl rfl)]) (by rw [evn_0 B (by omega) (Or.inr rfl)]) (by rw [evn_1 B (by omega) (Or.inr rfl)])) (col4' h2)
  refine r_eq rfl rfl (ws_self w_bl).symm ?_
  exact loop_2 _ 0 B (Nat.lt_succ_self _) (by omega) (fun k hk => absurd hk (by omega)) (fun k hk => rfl)
