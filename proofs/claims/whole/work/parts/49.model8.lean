set_option maxHeartbeats 4000000 in
set_option maxRecDepth 100000 in
theorem cX6_shift9p {w : Wo} {fa sz rz rv ln pm lo ns os uz ik ms hsz : Int32} (w_35 : w 35 = mo fa sz rz rv ln pm lo ns os uz ik ms hsz) {B : Nat → Nat} (w_55 : w 55 = ia 16 (nf B)) {fot : Nat → Int32} (w_56 : w 56 = ia 16 fot) : Ctr mX6_shift [.ref 35, .int 1] w (PV fun w' => ∃ fo', w' = wset (wset w 56 (ia 16 fo')) 55 (ia 16 (nf (shP B)))) := by
  refine Ctr_intro okX6_shift rfl (Nat.le_of_ble_eq_true rfl) (L := [some (.ref 35), some (.int 1), none, none]) rfl (fun g ct C T_ => ?_)
  refine r_iconst C dX6_shift_0 (v := 0) (by decide) ?_
  refine r_istore_n C dX6_shift_1 (L' := [some (.ref 35), some (.int 1), some (.int 0), none]) (by decide) rfl ?_
  have loop_2 : ∀ (d9 : Nat) (k : Nat) (f1 : Nat → Int32), 16 - k < d9 → k ≤ 16 → (∀ m, m < k → f1 m = nI (shP B m)) → Az g mX6_shift ct 0 0 2 [some (.ref 35), some (.int 1), some (.int (nI k)), none] [] (wset w 56 (ia 16 f1)) := by
    intro d9
    induction d9 with
    | zero => intro k f1 hd9; exact absurd hd9 (Nat.not_lt_zero _)
    | succ d9 ih_2 =>
      intro k f1 hd9 hk h1
      refine r_iload_n C dX6_shift_2 rfl ?_
      refine r_bipush C dX6_shift_3 (v := 16) (by decide) ?_
      refine r_icmp_ge C 45 dX6_shift_5 (by decide) (fun c_5 => ?_) (fun c_5 => ?_)
      · skip
        have c_5 : 16 ≤ k := (nI_leI (a := 16) (b := k) (by omega) (by omega)).mp c_5
        refine r_iconst C dX6_shift_45 (v := 0) (by decide) ?_
        refine r_istore_n C dX6_shift_46 (L' := [some (.ref 35), some (.int 1), some (.int 0), none]) (by decide) rfl ?_
        have loop_47 : ∀ (d9 : Nat) (k2 : Nat) (B1 : Nat → Nat), 16 - k2 < d9 → k2 ≤ 16 → (∀ m, m < k2 → B1 m = shP B m) → (∀ m, k2 ≤ m → B1 m = B m) → Az g mX6_shift ct 0 0 47 [some (.ref 35), some (.int 1), some (.int (nI k2)), none] [] (wset (wset w 56 (ia 16 f1)) 55 (ia 16 (nf B1))) := by
          intro d9
          induction d9 with
          | zero => intro k2 B1 hd9; exact absurd hd9 (Nat.not_lt_zero _)
          | succ d9 ih_47 =>
            intro k2 B1 hd9 hk2 h2 h3
            refine r_iload_n C dX6_shift_47 rfl ?_
            refine r_bipush C dX6_shift_48 (v := 16) (by decide) ?_
            refine r_icmp_ge C 71 dX6_shift_50 (by decide) (fun c_50 => ?_) (fun c_50 => ?_)
            · skip
              have c_50 : 16 ≤ k2 := (nI_leI (a := 16) (b := k2) (by omega) (by omega)).mp c_50
              exact r_return C T_ rfl dX6_shift_71 (⟨rfl, _, by rw [fun_lh (n := k2) h2 h3 (fun m hm => if_neg (by omega))]⟩)
            · skip
              have c_50 : ¬ (16 ≤ k2) := fun h9 => c_50 ((nI_leI (a := 16) (b := k2) (by omega) (by omega)).mpr h9)
              refine r_aload_n C dX6_shift_53 rfl ?_
              refine r_get C dX6_shift_54 fgRX6_141 (Nat.le_of_ble_eq_true rfl) (ws_ne (Nat.ne_of_beq_eq_false rfl) (ws_ne (Nat.ne_of_beq_eq_false rfl) w_35)) rfl ?_
              refine r_iload_n C dX6_shift_57 rfl ?_
              refine r_aload_n C dX6_shift_58 rfl ?_
              refine r_get C dX6_shift_59 fgRX6_144 (Nat.le_of_ble_eq_true rfl) (ws_ne (Nat.ne_of_beq_eq_false rfl) (ws_ne (Nat.ne_of_beq_eq_false rfl) w_35)) rfl ?_
              refine r_iload_n C dX6_shift_62 rfl ?_
              refine r_ialdN C dX6_shift_63 (Nat.le_of_ble_eq_true rfl) (ws_ne (Nat.ne_of_beq_eq_false rfl) ws_eq) (j := k2) rfl (by omega) (by decide) ?_
              refine r_top (y := nI (shP B k2)) (h1 k2 (by omega)) ?_
              refine r_iastF C dX6_shift_64 (Nat.le_of_ble_eq_true rfl) ws_eq (j := k2) (x := shP B k2) rfl rfl (by omega) (by decide) ?_
              refine r_eq rfl rfl ws_same ?_
              refine r_iinc C dX6_shift_65 (v := nI (k2 + 1)) (L' := [some (.ref 35), some (.int 1), some (.int (nI (k2 + 1))), none]) rfl (nI_add k2 1) (by decide) rfl ?_
              refine r_goto C 47 dX6_shift_68 (by decide) ?_
              exact ih_47 (k2 + 1) _ (by omega) (by omega) (upn_lt h2 rfl) (upn_ge h3)
        refine r_eq rfl rfl (ws_self (ws_ne (Nat.ne_of_beq_eq_false rfl) w_55)).symm ?_
        exact loop_47 _ 0 _ (Nat.lt_succ_self _) (by omega) (fun m hm => absurd hm (Nat.not_lt_zero m)) (fun m hm => rfl)
      · skip
        have c_5 : ¬ (16 ≤ k) := fun h9 => c_5 ((nI_leI (a := 16) (b := k) (by omega) (by omega)).mpr h9)
        refine r_iload_n C dX6_shift_8 rfl ?_
        refine r_iconst C dX6_shift_9 (v := 4) (by decide) ?_
        refine r_irem C dX6_shift_10 (by decide) ?_
        refine r_top (y := nI (k % 4)) (pk_rem (a := k) (d := 4) (by omega) (by omega) (by omega)) ?_
        refine r_istore_n C dX6_shift_11 (L' := [some (.ref 35), some (.int 1), some (.int (nI k)), some (.int (nI (k % 4)))]) (by decide) rfl ?_
        refine r_aload_n C dX6_shift_12 rfl ?_
        refine r_get C dX6_shift_13 fgRX6_144 (Nat.le_of_ble_eq_true rfl) (ws_ne (Nat.ne_of_beq_eq_false rfl) w_35) rfl ?_
        refine r_iload_n C dX6_shift_16 rfl ?_
        refine r_aload_n C dX6_shift_17 rfl ?_
        refine r_get C dX6_shift_18 fgRX6_141 (Nat.le_of_ble_eq_true rfl) (ws_ne (Nat.ne_of_beq_eq_false rfl) w_35) rfl ?_
        refine r_iload_n C dX6_shift_21 rfl ?_
        refine r_iconst C dX6_shift_22 (v := 4) (by decide) ?_
        refine r_iload_n C dX6_shift_23 rfl ?_
        refine r_iconst C dX6_shift_24 (v := 4) (by decide) ?_
        refine r_idiv C dX6_shift_25 (by decide) ?_
        refine r_top (y := nI (k / 4)) (pk_div (a := k) (d := 4) (by omega) (by omega) (by omega)) ?_
        refine r_iload_n C dX6_shift_26 rfl ?_
        refine r_iload_n C dX6_shift_27 rfl ?_
        refine r_imul C dX6_shift_28 ?_
        refine r_top (y := nI (1 * (k % 4))) (pk_mul 1 (k % 4)) ?_
        refine r_iadd C dX6_shift_29 ?_
        refine r_top (y := nI ((k / 4) + (1 * (k % 4)))) (nI_add (k / 4) (1 * (k % 4))) ?_
        refine r_bipush C dX6_shift_30 (v := 32) (by decide) ?_
        refine r_iadd C dX6_shift_32 ?_
        refine r_top (y := nI (((k / 4) + (1 * (k % 4))) + 32)) (nI_add ((k / 4) + (1 * (k % 4))) 32) ?_
        refine r_iconst C dX6_shift_33 (v := 4) (by decide) ?_
        refine r_irem C dX6_shift_34 (by decide) ?_
        refine r_top (y := nI ((((k / 4) + (1 * (k % 4))) + 32) % 4)) (pk_rem (a := ((k / 4) + (1 * (k % 4))) + 32) (d := 4) (by omega) (by omega) (by omega)) ?_
        refine r_imul C dX6_shift_35 ?_
        refine r_top (y := nI (4 * ((((k / 4) + (1 * (k % 4))) + 32) % 4))) (pk_mul 4 ((((k / 4) + (1 * (k % 4))) + 32) % 4)) ?_
        refine r_iadd C dX6_shift_36 ?_
        refine r_top (y := nI ((k % 4) + (4 * ((((k / 4) + (1 * (k % 4))) + 32) % 4)))) (nI_add (k % 4) (4 * ((((k / 4) + (1 * (k % 4))) + 32) % 4))) ?_
        refine r_ialdN C dX6_shift_37 (Nat.le_of_ble_eq_true rfl) (ws_ne (Nat.ne_of_beq_eq_false rfl) w_55) (j := (k % 4) + (4 * ((((k / 4) + (1 * (k % 4))) + 32) % 4))) rfl (by omega) (by decide) ?_
        refine r_top (y := nI (B ((k % 4) + (4 * ((((k / 4) + (1 * (k % 4))) + 32) % 4))))) (nf_at B ((k % 4) + (4 * ((((k / 4) + (1 * (k % 4))) + 32) % 4)))) ?_
        refine r_iastN C dX6_shift_38 (Nat.le_of_ble_eq_true rfl) ws_eq (j := k) rfl (by omega) (by decide) ?_
        refine r_eq rfl rfl ws_same ?_
        refine r_iinc C dX6_shift_39 (v := nI (k + 1)) (L' := [some (.ref 35), some (.int 1), some (.int (nI (k + 1))), some (.int (nI (k % 4)))]) rfl (nI_add k 1) (by decide) rfl ?_
        refine r_goto C 2 dX6_shift_42 (by decide) ?_
        refine r_forget [some (.ref 35), some (.int 1), some (.int (nI (k + 1))), none] ⟨Or.inr rfl, Or.inr rfl, Or.inr rfl, Or.inl rfl, trivial⟩ ?_
        exact ih_2 (k + 1) _ (by omega) (by omega) (up_lt h1 (by unfold shP; rw [if_pos (by omega)]; congr 2; omega))
  refine r_eq rfl rfl (ws_self w_56).symm ?_
  exact loop_2 _ 0 _ (Nat.lt_succ_self _) (by omega) (fun m hm => absurd hm (Nat.not_lt_zero m))
theorem shm_eq : ∀ a, a < 4 → ∀ r, r < 4 → (nI a + (-1) * nI r) + 32 = nI (a + 32 - r) := by decide +kernel
set_option maxHeartbeats 4000000 in
set_option maxRecDepth 100000 in
theorem cX6_shift9m {w : Wo} {fa sz rz rv ln pm lo ns os uz ik ms hsz : Int32} (w_35 : w 35 = mo fa sz rz rv ln pm lo ns os uz ik ms hsz) {B : Nat → Nat} (w_55 : w 55 = ia 16 (nf B)) {fot : Nat → Int32} (w_56 : w 56 = ia 16 fot) : Ctr mX6_shift [.ref 35, .int (-1)] w (PV fun w' => ∃ fo', w' = wset (wset w 56 (ia 16 fo')) 55 (ia 16 (nf (shM B)))) := by
  refine Ctr_intro okX6_shift rfl (Nat.le_of_ble_eq_true rfl) (L := [some (.ref 35), some (.int (-1)), none, none]) rfl (fun g ct C T_ => ?_)
  refine r_iconst C dX6_shift_0 (v := 0) (by decide) ?_
  refine r_istore_n C dX6_shift_1 (L' := [some (.ref 35), some (.int (-1)), some (.int 0), none]) (by decide) rfl ?_
  have loop_2 : ∀ (d9 : Nat) (k : Nat) (f1 : Nat → Int32), 16 - k < d9 → k ≤ 16 → (∀ m, m < k → f1 m = nI (shM B m)) → Az g mX6_shift ct 0 0 2 [some (.ref 35), some (.int (-1)), some (.int (nI k)), none] [] (wset w 56 (ia 16 f1)) := by
    intro d9
    induction d9 with
    | zero => intro k f1 hd9; exact absurd hd9 (Nat.not_lt_zero _)
    | succ d9 ih_2 =>
      intro k f1 hd9 hk h1
      refine r_iload_n C dX6_shift_2 rfl ?_
      refine r_bipush C dX6_shift_3 (v := 16) (by decide) ?_
      refine r_icmp_ge C 45 dX6_shift_5 (by decide) (fun c_5 => ?_) (fun c_5 => ?_)
      · skip
        have c_5 : 16 ≤ k := (nI_leI (a := 16) (b := k) (by omega) (by omega)).mp c_5
        refine r_iconst C dX6_shift_45 (v := 0) (by decide) ?_
        refine r_istore_n C dX6_shift_46 (L' := [some (.ref 35), some (.int (-1)), some (.int 0), none]) (by decide) rfl ?_
        have loop_47 : ∀ (d9 : Nat) (k2 : Nat) (B1 : Nat → Nat), 16 - k2 < d9 → k2 ≤ 16 → (∀ m, m < k2 → B1 m = shM B m) → (∀ m, k2 ≤ m → B1 m = B m) → Az g mX6_shift ct 0 0 47 [some (.ref 35), some (.int (-1)), some (.int (nI k2)), none] [] (wset (wset w 56 (ia 16 f1)) 55 (ia 16 (nf B1))) := by
          intro d9
          induction d9 with
          | zero => intro k2 B1 hd9; exact absurd hd9 (Nat.not_lt_zero _)
          | succ d9 ih_47 =>
            intro k2 B1 hd9 hk2 h2 h3
            refine r_iload_n C dX6_shift_47 rfl ?_
            refine r_bipush C dX6_shift_48 (v := 16) (by decide) ?_
            refine r_icmp_ge C 71 dX6_shift_50 (by decide) (fun c_50 => ?_) (fun c_50 => ?_)
            · skip
              have c_50 : 16 ≤ k2 := (nI_leI (a := 16) (b := k2) (by omega) (by omega)).mp c_50
              exact r_return C T_ rfl dX6_shift_71 (⟨rfl, _, by rw [fun_lh (n := k2) h2 h3 (fun m hm => if_neg (by omega))]⟩)
            · skip
              have c_50 : ¬ (16 ≤ k2) := fun h9 => c_50 ((nI_leI (a := 16) (b := k2) (by omega) (by omega)).mpr h9)
              refine r_aload_n C dX6_shift_53 rfl ?_
              refine r_get C dX6_shift_54 fgRX6_141 (Nat.le_of_ble_eq_true rfl) (ws_ne (Nat.ne_of_beq_eq_false rfl) (ws_ne (Nat.ne_of_beq_eq_false rfl) w_35)) rfl ?_
              refine r_iload_n C dX6_shift_57 rfl ?_
              refine r_aload_n C dX6_shift_58 rfl ?_
              refine r_get C dX6_shift_59 fgRX6_144 (Nat.le_of_ble_eq_true rfl) (ws_ne (Nat.ne_of_beq_eq_false rfl) (ws_ne (Nat.ne_of_beq_eq_false rfl) w_35)) rfl ?_
              refine r_iload_n C dX6_shift_62 rfl ?_
              refine r_ialdN C dX6_shift_63 (Nat.le_of_ble_eq_true rfl) (ws_ne (Nat.ne_of_beq_eq_false rfl) ws_eq) (j := k2) rfl (by omega) (by decide) ?_
              refine r_top (y := nI (shM B k2)) (h1 k2 (by omega)) ?_
              refine r_iastF C dX6_shift_64 (Nat.le_of_ble_eq_true rfl) ws_eq (j := k2) (x := shM B k2) rfl rfl (by omega) (by decide) ?_
              refine r_eq rfl rfl ws_same ?_
              refine r_iinc C dX6_shift_65 (v := nI (k2 + 1)) (L' := [some (.ref 35), some (.int (-1)), some (.int (nI (k2 + 1))), none]) rfl (nI_add k2 1) (by decide) rfl ?_
              refine r_goto C 47 dX6_shift_68 (by decide) ?_
              exact ih_47 (k2 + 1) _ (by omega) (by omega) (upn_lt h2 rfl) (upn_ge h3)
        refine r_eq rfl rfl (ws_self (ws_ne (Nat.ne_of_beq_eq_false rfl) w_55)).symm ?_
        exact loop_47 _ 0 _ (Nat.lt_succ_self _) (by omega) (fun m hm => absurd hm (Nat.not_lt_zero m)) (fun m hm => rfl)
      · skip
        have c_5 : ¬ (16 ≤ k) := fun h9 => c_5 ((nI_leI (a := 16) (b := k) (by omega) (by omega)).mpr h9)
        refine r_iload_n C dX6_shift_8 rfl ?_
        refine r_iconst C dX6_shift_9 (v := 4) (by decide) ?_
        refine r_irem C dX6_shift_10 (by decide) ?_
        refine r_top (y := nI (k % 4)) (pk_rem (a := k) (d := 4) (by omega) (by omega) (by omega)) ?_
        refine r_istore_n C dX6_shift_11 (L' := [some (.ref 35), some (.int (-1)), some (.int (nI k)), some (.int (nI (k % 4)))]) (by decide) rfl ?_
        refine r_aload_n C dX6_shift_12 rfl ?_
        refine r_get C dX6_shift_13 fgRX6_144 (Nat.le_of_ble_eq_true rfl) (ws_ne (Nat.ne_of_beq_eq_false rfl) w_35) rfl ?_
        refine r_iload_n C dX6_shift_16 rfl ?_
        refine r_aload_n C dX6_shift_17 rfl ?_
        refine r_get C dX6_shift_18 fgRX6_141 (Nat.le_of_ble_eq_true rfl) (ws_ne (Nat.ne_of_beq_eq_false rfl) w_35) rfl ?_
        refine r_iload_n C dX6_shift_21 rfl ?_
        refine r_iconst C dX6_shift_22 (v := 4) (by decide) ?_
        refine r_iload_n C dX6_shift_23 rfl ?_
        refine r_iconst C dX6_shift_24 (v := 4) (by decide) ?_
        refine r_idiv C dX6_shift_25 (by decide) ?_
        refine r_top (y := nI (k / 4)) (pk_div (a := k) (d := 4) (by omega) (by omega) (by omega)) ?_
        refine r_iload_n C dX6_shift_26 rfl ?_
        refine r_iload_n C dX6_shift_27 rfl ?_
        refine r_imul C dX6_shift_28 ?_
        refine r_iadd C dX6_shift_29 ?_
        refine r_bipush C dX6_shift_30 (v := 32) (by decide) ?_
        refine r_iadd C dX6_shift_32 ?_
        refine r_top (y := nI (k / 4 + 32 - k % 4)) (shm_eq (k / 4) (by omega) (k % 4) (by omega)) ?_
        refine r_iconst C dX6_shift_33 (v := 4) (by decide) ?_
        refine r_irem C dX6_shift_34 (by decide) ?_
        refine r_top (y := nI ((k / 4 + 32 - k % 4) % 4)) (pk_rem (a := k / 4 + 32 - k % 4) (d := 4) (by omega) (by omega) (by omega)) ?_
        refine r_imul C dX6_shift_35 ?_
        refine r_top (y := nI (4 * ((k / 4 + 32 - k % 4) % 4))) (pk_mul 4 ((k / 4 + 32 - k % 4) % 4)) ?_
        refine r_iadd C dX6_shift_36 ?_
        refine r_top (y := nI ((k % 4) + (4 * ((k / 4 + 32 - k % 4) % 4)))) (nI_add (k % 4) (4 * ((k / 4 + 32 - k % 4) % 4))) ?_
        refine r_ialdN C dX6_shift_37 (Nat.le_of_ble_eq_true rfl) (ws_ne (Nat.ne_of_beq_eq_false rfl) w_55) (j := (k % 4) + (4 * ((k / 4 + 32 - k % 4) % 4))) rfl (by omega) (by decide) ?_
        refine r_top (y := nI (B ((k % 4) + (4 * ((k / 4 + 32 - k % 4) % 4))))) (nf_at B ((k % 4) + (4 * ((k / 4 + 32 - k % 4) % 4)))) ?_
        refine r_iastN C dX6_shift_38 (Nat.le_of_ble_eq_true rfl) ws_eq (j := k) rfl (by omega) (by decide) ?_
        refine r_eq rfl rfl ws_same ?_
        refine r_iinc C dX6_shift_39 (v := nI (k + 1)) (L' := [some (.ref 35), some (.int (-1)), some (.int (nI (k + 1))), some (.int (nI (k % 4)))]) rfl (nI_add k 1) (by decide) rfl ?_
        refine r_goto C 2 dX6_shift_42 (by decide) ?_
        refine r_forget [some (.ref 35), some (.int (-1)), some (.int (nI (k + 1))), none] ⟨Or.inr rfl, Or.inr rfl, Or.inr rfl, Or.inl rfl, trivial⟩ ?_
        exact ih_2 (k + 1) _ (by omega) (by omega) (up_lt h1 (by unfold shM; rw [if_pos (by omega)]; congr 2; omega))
  refine r_eq rfl rfl (ws_self w_56).symm ?_
  exact loop_2 _ 0 _ (Nat.lt_succ_self _) (by omega) (fun m hm => absurd hm (Nat.not_lt_zero m))
set_option maxHeartbeats 4000000 in
set_option maxRecDepth 100000 in
theorem cX6_mixColumns9 {w : Wo} {fa sz rz rv ln pm lo ns os uz ik ms hsz : Int32} (w_35 : w 35 = mo fa sz rz rv ln pm lo ns os uz ik ms hsz) {B : Nat → Nat} (w_55 : w 55 = ia 16 (nf B)) {fot : Nat → Int32} (w_56 : w 56 = ia 16 fot) (hB : b16 B) {p q s t : Nat} (hp : p < 256) (hq : q < 256) (hs9 : s < 256) (ht : t < 256) : Ctr mX6_mixColumns [.ref 35, .int (nI p), .int (nI q), .int (nI s), .int (nI t)] w (PV fun w' => ∃ fo', w' = wset (wset w 56 (ia 16 fo')) 55 (ia 16 (nf (mxP p q s t B)))) := by
  refine Ctr_intro okX6_mixColumns rfl (Nat.le_of_ble_eq_true rfl) (L := [some (.ref 35), some (.int (nI p)), some (.int (nI q)), some (.int (nI s)), some (.int (nI t)), none, none, none]) rfl (fun g ct C T_ => ?_)
  refine r_iconst C dX6_mixColumns_0 (v := 0) (by decide) ?_
  refine r_istore C dX6_mixColumns_1 (L' := [some (.ref 35), some (.int (nI p)), some (.int (nI q)), some (.int (nI s)), some (.int (nI t)), some (.int 0), none, none]) (by decide) rfl ?_
  have loop_3 : ∀ (d9 : Nat) (k : Nat) (f1 : Nat → Int32), 16 - k < d9 → k ≤ 16 → (∀ m, m < k → f1 m = nI (mxP p q s t B m)) → Az g mX6_mixColumns ct 0 0 3 [some (.ref 35), some (.int (nI p)), some (.int (nI q)), some (.int (nI s)), some (.int (nI t)), some (.int (nI k)), none, none] [] (wset w 56 (ia 16 f1)) := by
    intro d9
    induction d9 with
    | zero => intro k f1 hd9; exact absurd hd9 (Nat.not_lt_zero _)
    | succ d9 ih_3 =>
      intro k f1 hd9 hk h1
      refine r_iload C dX6_mixColumns_3 rfl ?_
      refine r_bipush C dX6_mixColumns_5 (v := 16) (by decide) ?_
      refine r_icmp_ge C 110 dX6_mixColumns_7 (by decide) (fun c_7 => ?_) (fun c_7 => ?_)
      · skip
        have c_7 : 16 ≤ k := (nI_leI (a := 16) (b := k) (by omega) (by omega)).mp c_7
        refine r_iconst C dX6_mixColumns_110 (v := 0) (by decide) ?_
        refine r_istore C dX6_mixColumns_111 (L' := [some (.ref 35), some (.int (nI p)), some (.int (nI q)), some (.int (nI s)), some (.int (nI t)), some (.int 0), none, none]) (by decide) rfl ?_
        have loop_113 : ∀ (d9 : Nat) (k2 : Nat) (B1 : Nat → Nat), 16 - k2 < d9 → k2 ≤ 16 → (∀ m, m < k2 → B1 m = mxP p q s t B m) → (∀ m, k2 ≤ m → B1 m = B m) → Az g mX6_mixColumns ct 0 0 113 [some (.ref 35), some (.int (nI p)), some (.int (nI q)), some (.int (nI s)), some (.int (nI t)), some (.int (nI k2)), none, none] [] (wset (wset w 56 (ia 16 f1)) 55 (ia 16 (nf B1))) := by
          intro d9
          induction d9 with
          | zero => intro k2 B1 hd9; exact absurd hd9 (Nat.not_lt_zero _)
          | succ d9 ih_113 =>
            intro k2 B1 hd9 hk2 h2 h3
            refine r_iload C dX6_mixColumns_113 rfl ?_
            refine r_bipush C dX6_mixColumns_115 (v := 16) (by decide) ?_
            refine r_icmp_ge C 140 dX6_mixColumns_117 (by decide) (fun c_117 => ?_) (fun c_117 => ?_)
            · skip
              have c_117 : 16 ≤ k2 := (nI_leI (a := 16) (b := k2) (by omega) (by omega)).mp c_117
              exact r_return C T_ rfl dX6_mixColumns_140 (⟨rfl, _, by rw [fun_lh (n := k2) h2 h3 (fun m hm => if_neg (by omega))]⟩)
            · skip
              have c_117 : ¬ (16 ≤ k2) := fun h9 => c_117 ((nI_leI (a := 16) (b := k2) (by omega) (by omega)).mpr h9)
              refine r_aload_n C dX6_mixColumns_120 rfl ?_
              refine r_get C dX6_mixColumns_121 fgRX6_141 (Nat.le_of_ble_eq_true rfl) (ws_ne (Nat.ne_of_beq_eq_false rfl) (ws_ne (Nat.ne_of_beq_eq_false rfl) w_35)) rfl ?_
              refine r_iload C dX6_mixColumns_124 rfl ?_
              refine r_aload_n C dX6_mixColumns_126 rfl ?_
              refine r_get C dX6_mixColumns_127 fgRX6_144 (Nat.le_of_ble_eq_true rfl) (ws_ne (Nat.ne_of_beq_eq_false rfl) (ws_ne (Nat.ne_of_beq_eq_false rfl) w_35)) rfl ?_
              refine r_iload C dX6_mixColumns_130 rfl ?_
              refine r_ialdN C dX6_mixColumns_132 (Nat.le_of_ble_eq_true rfl) (ws_ne (Nat.ne_of_beq_eq_false rfl) ws_eq) (j := k2) rfl (by omega) (by decide) ?_
              refine r_top (y := nI (mxP p q s t B k2)) (h1 k2 (by omega)) ?_
              refine r_iastF C dX6_mixColumns_133 (Nat.le_of_ble_eq_true rfl) ws_eq (j := k2) (x := mxP p q s t B k2) rfl rfl (by omega) (by decide) ?_
              refine r_eq rfl rfl ws_same ?_
              refine r_iinc C dX6_mixColumns_134 (v := nI (k2 + 1)) (L' := [some (.ref 35), some (.int (nI p)), some (.int (nI q)), some (.int (nI s)), some (.int (nI t)), some (.int (nI (k2 + 1))), none, none]) rfl (nI_add k2 1) (by decide) rfl ?_
              refine r_goto C 113 dX6_mixColumns_137 (by decide) ?_
              exact ih_113 (k2 + 1) _ (by omega) (by omega) (upn_lt h2 rfl) (upn_ge h3)
        refine r_eq rfl rfl (ws_self (ws_ne (Nat.ne_of_beq_eq_false rfl) w_55)).symm ?_
        exact loop_113 _ 0 _ (Nat.lt_succ_self _) (by omega) (fun m hm => absurd hm (Nat.not_lt_zero m)) (fun m hm => rfl)
      · skip
        have c_7 : ¬ (16 ≤ k) := fun h9 => c_7 ((nI_leI (a := 16) (b := k) (by omega) (by omega)).mpr h9)
        refine r_iload C dX6_mixColumns_10 rfl ?_
        refine r_iload C dX6_mixColumns_12 rfl ?_
        refine r_iconst C dX6_mixColumns_14 (v := 4) (by decide) ?_
        refine r_irem C dX6_mixColumns_15 (by decide) ?_
        refine r_top (y := nI (k % 4)) (pk_rem (a := k) (d := 4) (by omega) (by omega) (by omega)) ?_
        refine r_isub C dX6_mixColumns_16 ?_
        refine r_top (y := nI (k - (k % 4))) (pk_sub (a := k) (b := k % 4) (by omega)) ?_
        refine r_istore C dX6_mixColumns_17 (L' := [some (.ref 35), some (.int (nI p)), some (.int (nI q)), some (.int (nI s)), some (.int (nI t)), some (.int (nI k)), some (.int (nI (k - (k % 4)))), none]) (by decide) rfl ?_
        refine r_iload C dX6_mixColumns_19 rfl ?_
        refine r_iconst C dX6_mixColumns_21 (v := 4) (by decide) ?_
        refine r_irem C dX6_mixColumns_22 (by decide) ?_
        refine r_top (y := nI (k % 4)) (pk_rem (a := k) (d := 4) (by omega) (by omega) (by omega)) ?_
        refine r_istore C dX6_mixColumns_23 (L' := [some (.ref 35), some (.int (nI p)), some (.int (nI q)), some (.int (nI s)), some (.int (nI t)), some (.int (nI k)), some (.int (nI (k - (k % 4)))), some (.int (nI (k % 4)))]) (by decide) rfl ?_
        refine r_aload_n C dX6_mixColumns_25 rfl ?_
        refine r_get C dX6_mixColumns_26 fgRX6_144 (Nat.le_of_ble_eq_true rfl) (ws_ne (Nat.ne_of_beq_eq_false rfl) w_35) rfl ?_
        refine r_iload C dX6_mixColumns_29 rfl ?_
        refine r_aload_n C dX6_mixColumns_31 rfl ?_
        refine r_get C dX6_mixColumns_32 fgRX6_141 (Nat.le_of_ble_eq_true rfl) (ws_ne (Nat.ne_of_beq_eq_false rfl) w_35) rfl ?_
        refine r_iload C dX6_mixColumns_35 rfl ?_
        refine r_iload C dX6_mixColumns_37 rfl ?_
        refine r_iadd C dX6_mixColumns_39 ?_
        refine r_top (y := nI ((k - (k % 4)) + (k % 4))) (nI_add (k - (k % 4)) (k % 4)) ?_
        refine r_ialdN C dX6_mixColumns_40 (Nat.le_of_ble_eq_true rfl) (ws_ne (Nat.ne_of_beq_eq_false rfl) w_55) (j := (k - (k % 4)) + (k % 4)) rfl (by omega) (by decide) ?_
        refine r_top (y := nI (B ((k - (k % 4)) + (k % 4)))) (nf_at B ((k - (k % 4)) + (k % 4))) ?_
        refine r_iload_n C dX6_mixColumns_41 rfl ?_
        refine r_callSi C (As := [.int (nI (B ((k - (k % 4)) + (k % 4)))), .int (nI p)]) (rest := [.int (nI k), .ref 56]) dX6_mixColumns_42 (cX6_product9 (a := B ((k - (k % 4)) + (k % 4))) (b := p) (hB _ (by omega)) (by assumption)) okX6_product mlRX6_248 stX6_product ⟨by decide, by decide⟩ rfl rfl (Nat.le_of_ble_eq_true rfl) (by decide) (by decide) (fun r_1 w9 h9 => ?_)
        obtain ⟨e9, rfl⟩ := h9
        have e9 := e9.symm
        subst e9
        refine r_aload_n C dX6_mixColumns_45 rfl ?_
        refine r_get C dX6_mixColumns_46 fgRX6_141 (Nat.le_of_ble_eq_true rfl) (ws_ne (Nat.ne_of_beq_eq_false rfl) w_35) rfl ?_
        refine r_iload C dX6_mixColumns_49 rfl ?_
        refine r_iload C dX6_mixColumns_51 rfl ?_
        refine r_iconst C dX6_mixColumns_53 (v := 1) (by decide) ?_
        refine r_iadd C dX6_mixColumns_54 ?_
        refine r_top (y := nI ((k % 4) + 1)) (nI_add (k % 4) 1) ?_
        refine r_iconst C dX6_mixColumns_55 (v := 4) (by decide) ?_
        refine r_irem C dX6_mixColumns_56 (by decide) ?_
        refine r_top (y := nI (((k % 4) + 1) % 4)) (pk_rem (a := (k % 4) + 1) (d := 4) (by omega) (by omega) (by omega)) ?_
        refine r_iadd C dX6_mixColumns_57 ?_
        refine r_top (y := nI ((k - (k % 4)) + (((k % 4) + 1) % 4))) (nI_add (k - (k % 4)) (((k % 4) + 1) % 4)) ?_
        refine r_ialdN C dX6_mixColumns_58 (Nat.le_of_ble_eq_true rfl) (ws_ne (Nat.ne_of_beq_eq_false rfl) w_55) (j := (k - (k % 4)) + (((k % 4) + 1) % 4)) rfl (by omega) (by decide) ?_
        refine r_top (y := nI (B ((k - (k % 4)) + (((k % 4) + 1) % 4)))) (nf_at B ((k - (k % 4)) + (((k % 4) + 1) % 4))) ?_
        refine r_iload_n C dX6_mixColumns_59 rfl ?_
        refine r_callSi C (As := [.int (nI (B ((k - (k % 4)) + (((k % 4) + 1) % 4)))), .int (nI q)]) (rest := [.int (nI (prd (B ((k - (k % 4)) + (k % 4))) p)), .int (nI k), .ref 56]) dX6_mixColumns_60 (cX6_product9 (a := B ((k - (k % 4)) + (((k % 4) + 1) % 4))) (b := q) (hB _ (by omega)) (by assumption)) okX6_product mlRX6_248 stX6_product ⟨by decide, by decide⟩ rfl rfl (Nat.le_of_ble_eq_true rfl) (by decide) (by decide) (fun r_2 w9 h9 => ?_)
        obtain ⟨e9, rfl⟩ := h9
        have e9 := e9.symm
        subst e9
        refine r_ixor C dX6_mixColumns_63 ?_
        refine r_top (y := nI ((prd (B ((k - (k % 4)) + (k % 4))) p) ^^^ (prd (B ((k - (k % 4)) + (((k % 4) + 1) % 4))) q))) (nx_xor9 (prd (B ((k - (k % 4)) + (k % 4))) p) (prd (B ((k - (k % 4)) + (((k % 4) + 1) % 4))) q)) ?_
        refine r_aload_n C dX6_mixColumns_64 rfl ?_
        refine r_get C dX6_mixColumns_65 fgRX6_141 (Nat.le_of_ble_eq_true rfl) (ws_ne (Nat.ne_of_beq_eq_false rfl) w_35) rfl ?_
        refine r_iload C dX6_mixColumns_68 rfl ?_
        refine r_iload C dX6_mixColumns_70 rfl ?_
        refine r_iconst C dX6_mixColumns_72 (v := 2) (by decide) ?_
        refine r_iadd C dX6_mixColumns_73 ?_
        refine r_top (y := nI ((k % 4) + 2)) (nI_add (k % 4) 2) ?_
        refine r_iconst C dX6_mixColumns_74 (v := 4) (by decide) ?_
        refine r_irem C dX6_mixColumns_75 (by decide) ?_
        refine r_top (y := nI (((k % 4) + 2) % 4)) (pk_rem (a := (k % 4) + 2) (d := 4) (by omega) (by omega) (by omega)) ?_
        refine r_iadd C dX6_mixColumns_76 ?_
        refine r_top (y := nI ((k - (k % 4)) + (((k % 4) + 2) % 4))) (nI_add (k - (k % 4)) (((k % 4) + 2) % 4)) ?_
        refine r_ialdN C dX6_mixColumns_77 (Nat.le_of_ble_eq_true rfl) (ws_ne (Nat.ne_of_beq_eq_false rfl) w_55) (j := (k - (k % 4)) + (((k % 4) + 2) % 4)) rfl (by omega) (by decide) ?_
        refine r_top (y := nI (B ((k - (k % 4)) + (((k % 4) + 2) % 4)))) (nf_at B ((k - (k % 4)) + (((k % 4) + 2) % 4))) ?_
        refine r_iload_n C dX6_mixColumns_78 rfl ?_
        refine r_callSi C (As := [.int (nI (B ((k - (k % 4)) + (((k % 4) + 2) % 4)))), .int (nI s)]) (rest := [.int (nI ((prd (B ((k - (k % 4)) + (k % 4))) p) ^^^ (prd (B ((k - (k % 4)) + (((k % 4) + 1) % 4))) q))), .int (nI k), .ref 56]) dX6_mixColumns_79 (cX6_product9 (a := B ((k - (k % 4)) + (((k % 4) + 2) % 4))) (b := s) (hB _ (by omega)) (by assumption)) okX6_product mlRX6_248 stX6_product ⟨by decide, by decide⟩ rfl rfl (Nat.le_of_ble_eq_true rfl) (by decide) (by decide) (fun r_3 w9 h9 => ?_)
        obtain ⟨e9, rfl⟩ := h9
        have e9 := e9.symm
        subst e9
        refine r_ixor C dX6_mixColumns_82 ?_
        refine r_top (y := nI (((prd (B ((k - (k % 4)) + (k % 4))) p) ^^^ (prd (B ((k - (k % 4)) + (((k % 4) + 1) % 4))) q)) ^^^ (prd (B ((k - (k % 4)) + (((k % 4) + 2) % 4))) s))) (nx_xor9 ((prd (B ((k - (k % 4)) + (k % 4))) p) ^^^ (prd (B ((k - (k % 4)) + (((k % 4) + 1) % 4))) q)) (prd (B ((k - (k % 4)) + (((k % 4) + 2) % 4))) s)) ?_
        refine r_aload_n C dX6_mixColumns_83 rfl ?_
        refine r_get C dX6_mixColumns_84 fgRX6_141 (Nat.le_of_ble_eq_true rfl) (ws_ne (Nat.ne_of_beq_eq_false rfl) w_35) rfl ?_
        refine r_iload C dX6_mixColumns_87 rfl ?_
        refine r_iload C dX6_mixColumns_89 rfl ?_
        refine r_iconst C dX6_mixColumns_91 (v := 3) (by decide) ?_
        refine r_iadd C dX6_mixColumns_92 ?_
        refine r_top (y := nI ((k % 4) + 3)) (nI_add (k % 4) 3) ?_
        refine r_iconst C dX6_mixColumns_93 (v := 4) (by decide) ?_
        refine r_irem C dX6_mixColumns_94 (by decide) ?_
        refine r_top (y := nI (((k % 4) + 3) % 4)) (pk_rem (a := (k % 4) + 3) (d := 4) (by omega) (by omega) (by omega)) ?_
        refine r_iadd C dX6_mixColumns_95 ?_
        refine r_top (y := nI ((k - (k % 4)) + (((k % 4) + 3) % 4))) (nI_add (k - (k % 4)) (((k % 4) + 3) % 4)) ?_
        refine r_ialdN C dX6_mixColumns_96 (Nat.le_of_ble_eq_true rfl) (ws_ne (Nat.ne_of_beq_eq_false rfl) w_55) (j := (k - (k % 4)) + (((k % 4) + 3) % 4)) rfl (by omega) (by decide) ?_
        refine r_top (y := nI (B ((k - (k % 4)) + (((k % 4) + 3) % 4)))) (nf_at B ((k - (k % 4)) + (((k % 4) + 3) % 4))) ?_
        refine r_iload C dX6_mixColumns_97 rfl ?_
        refine r_callSi C (As := [.int (nI (B ((k - (k % 4)) + (((k % 4) + 3) % 4)))), .int (nI t)]) (rest := [.int (nI (((prd (B ((k - (k % 4)) + (k % 4))) p) ^^^ (prd (B ((k - (k % 4)) + (((k % 4) + 1) % 4))) q)) ^^^ (prd (B ((k - (k % 4)) + (((k % 4) + 2) % 4))) s))), .int (nI k), .ref 56]) dX6_mixColumns_99 (cX6_product9 (a := B ((k - (k % 4)) + (((k % 4) + 3) % 4))) (b := t) (hB _ (by omega)) (by assumption)) okX6_product mlRX6_248 stX6_product ⟨by decide, by decide⟩ rfl rfl (Nat.le_of_ble_eq_true rfl) (by decide) (by decide) (fun r_4 w9 h9 => ?_)
        obtain ⟨e9, rfl⟩ := h9
        have e9 := e9.symm
        subst e9
        refine r_ixor C dX6_mixColumns_102 ?_
        refine r_top (y := nI ((((prd (B ((k - (k % 4)) + (k % 4))) p) ^^^ (prd (B ((k - (k % 4)) + (((k % 4) + 1) % 4))) q)) ^^^ (prd (B ((k - (k % 4)) + (((k % 4) + 2) % 4))) s)) ^^^ (prd (B ((k - (k % 4)) + (((k % 4) + 3) % 4))) t))) (nx_xor9 (((prd (B ((k - (k % 4)) + (k % 4))) p) ^^^ (prd (B ((k - (k % 4)) + (((k % 4) + 1) % 4))) q)) ^^^ (prd (B ((k - (k % 4)) + (((k % 4) + 2) % 4))) s)) (prd (B ((k - (k % 4)) + (((k % 4) + 3) % 4))) t)) ?_
        refine r_iastN C dX6_mixColumns_103 (Nat.le_of_ble_eq_true rfl) ws_eq (j := k) rfl (by omega) (by decide) ?_
        refine r_eq rfl rfl ws_same ?_
        refine r_iinc C dX6_mixColumns_104 (v := nI (k + 1)) (L' := [some (.ref 35), some (.int (nI p)), some (.int (nI q)), some (.int (nI s)), some (.int (nI t)), some (.int (nI (k + 1))), some (.int (nI (k - (k % 4)))), some (.int (nI (k % 4)))]) rfl (nI_add k 1) (by decide) rfl ?_
        refine r_goto C 3 dX6_mixColumns_107 (by decide) ?_
        refine r_forget [some (.ref 35), some (.int (nI p)), some (.int (nI q)), some (.int (nI s)), some (.int (nI t)), some (.int (nI (k + 1))), none, none] ⟨Or.inr rfl, Or.inr rfl, Or.inr rfl, Or.inr rfl, Or.inr rfl, Or.inr rfl, Or.inl rfl, Or.inl rfl, trivial⟩ ?_
        exact ih_3 (k + 1) _ (by omega) (by omega) (up_lt h1 (by unfold mxP; rw [if_pos (by omega)]))
  refine r_eq rfl rfl (ws_self w_56).symm ?_
  exact loop_3 _ 0 _ (Nat.lt_succ_self _) (by omega) (fun m hm => absurd hm (Nat.not_lt_zero m))
set_option maxHeartbeats 4000000 in
set_option maxRecDepth 100000 in
theorem cX6_makeBlock9 {w : Wo} {fa sz rz rv ln pm lo ns os uz ik ms hsz : Int32} (w_35 : w 35 = mo fa sz rz rv ln pm lo ns os uz ik ms hsz) {B K KK SW : Nat → Nat} (w_55 : w 55 = ia 16 (nf B)) (w_54 : w 54 = ia 176 (nf K)) {fot : Nat → Int32} (w_56 : w 56 = ia 16 fot) (w_57 : w 57 = ia 256 (nf SW)) (hsw : ∀ x, x < 256 → SW x = sw x) (hB : b16 B) (hK : ∀ k, k < 176 → K k = KK k) (hKK : ∀ k, k < 176 → KK k < 256) : Ctr mX6_makeBlock [.ref 35] w (PV fun w' => ∃ fo', w' = wset (wset w 55 (ia 16 (nf (mkB KK B)))) 56 (ia 16 fo')) := by
  refine Ctr_intro okX6_makeBlock rfl (Nat.le_of_ble_eq_true rfl) (L := [some (.ref 35), none, none]) rfl (fun g ct C T_ => ?_)
  refine r_aload_n C dX6_makeBlock_0 rfl ?_
  refine r_iconst C dX6_makeBlock_1 (v := 0) (by decide) ?_
  refine r_callVv C (As := [.int 0]) (rest := []) dX6_makeBlock_2 (cX6_addKey9 w_35 (B := B) w_55 w_54 hK (r := 0) (by omega)) okX6_addKey mlRX6_257 imX6_addKey seX6_addKey ⟨by decide, by decide⟩ rfl rfl (Nat.le_of_ble_eq_true rfl) w_35 rfl rfl (Nat.le_of_ble_eq_true rfl) (by decide) (by decide) (fun w9 h9 => ?_)
  obtain rfl := h9
  refine r_iconst C dX6_makeBlock_5 (v := 1) (by decide) ?_
  refine r_istore_n C dX6_makeBlock_6 (L' := [some (.ref 35), some (.int 1), none]) (by decide) rfl ?_
  have loop_7 : ∀ (d9 : Nat) (r : Nat) (B1 : Nat → Nat) (fo1 : Nat → Int32), 10 - r < d9 → r ≤ 10 → B1 = mkR KK r B → Az g mX6_makeBlock ct 0 0 7 [some (.ref 35), some (.int (nI (r + 1))), none] [] (wset (wset w 55 (ia 16 (nf B1))) 56 (ia 16 fo1)) := by
    intro d9
    induction d9 with
    | zero => intro r B1 fo1 hd9; exact absurd hd9 (Nat.not_lt_zero _)
    | succ d9 ih_7 =>
      intro r B1 fo1 hd9 hr hB1
      have hB6 : b16 B1 := by rw [hB1]; exact b16_mkR hKK hB r hr
      refine r_iload_n C dX6_makeBlock_7 rfl ?_
      refine r_bipush C dX6_makeBlock_8 (v := 10) (by decide) ?_
      refine r_icmp_gt C 74 dX6_makeBlock_10 (by decide) (fun c_10 => ?_) (fun c_10 => ?_)
      · skip
        have c_10 : 10 < (r + 1) := (nI_ltI (a := 10) (b := r + 1) (by omega) (by omega)).mp c_10
        exact r_return C T_ rfl dX6_makeBlock_74 (⟨rfl, _, by rw [hB1, show r = 10 by omega]; rfl⟩)
      · skip
        have c_10 : ¬ (10 < (r + 1)) := fun h9 => c_10 ((nI_ltI (a := 10) (b := r + 1) (by omega) (by omega)).mpr h9)
        refine r_iconst C dX6_makeBlock_13 (v := 0) (by decide) ?_
        refine r_istore_n C dX6_makeBlock_14 (L' := [some (.ref 35), some (.int (nI (r + 1))), some (.int 0)]) (by decide) rfl ?_
        have loop_15 : ∀ (d9 : Nat) (k : Nat) (B2 : Nat → Nat), 16 - k < d9 → k ≤ 16 → (∀ m, m < k → B2 m = swA B1 m) → (∀ m, k ≤ m → B2 m = B1 m) → Az g mX6_makeBlock ct 0 0 15 [some (.ref 35), some (.int (nI (r + 1))), some (.int (nI k))] [] (wset (wset w 55 (ia 16 (nf B2))) 56 (ia 16 fo1)) := by
          intro d9
          induction d9 with
          | zero => intro k B2 hd9; exact absurd hd9 (Nat.not_lt_zero _)
          | succ d9 ih_15 =>
            intro k B2 hd9 hk h2 h3
            refine r_iload_n C dX6_makeBlock_15 rfl ?_
            refine r_bipush C dX6_makeBlock_16 (v := 16) (by decide) ?_
            refine r_icmp_ge C 44 dX6_makeBlock_18 (by decide) (fun c_18 => ?_) (fun c_18 => ?_)
            · skip
              have c_18 : 16 ≤ k := (nI_leI (a := 16) (b := k) (by omega) (by omega)).mp c_18
              have hA9 : B2 = swA B1 := fun_lh (n := k) h2 h3 (fun m hm => if_neg (by omega))
              subst hA9
              refine r_aload_n C dX6_makeBlock_44 rfl ?_
              refine r_iconst C dX6_makeBlock_45 (v := 1) (by decide) ?_
              refine r_callVv C (As := [.int 1]) (rest := []) dX6_makeBlock_46 (cX6_shift9p (ws_ne (Nat.ne_of_beq_eq_false rfl) (ws_ne (Nat.ne_of_beq_eq_false rfl) w_35)) (B := swA B1) (ws_ne (Nat.ne_of_beq_eq_false rfl) ws_eq) ws_eq) okX6_shift mlRX6_260 imX6_shift seX6_shift ⟨by decide, by decide⟩ rfl rfl (Nat.le_of_ble_eq_true rfl) (ws_ne (Nat.ne_of_beq_eq_false rfl) (ws_ne (Nat.ne_of_beq_eq_false rfl) w_35)) rfl rfl (Nat.le_of_ble_eq_true rfl) (by decide) (by decide) (fun w9 h9 => ?_)
              obtain ⟨fo_1, rfl⟩ := h9
              refine r_eq rfl rfl ((congrArg (fun z => wset (z) 55 (ia 16 (nf (shP (swA B1))))) ws_same).trans ((ws_comm (Nat.ne_of_beq_eq_false rfl)).trans (congrArg (fun z => wset z 56 (ia 16 fo_1)) ws_same))) ?_
              refine r_iload_n C dX6_makeBlock_49 rfl ?_
              refine r_bipush C dX6_makeBlock_50 (v := 10) (by decide) ?_
              refine r_icmp_ge C 63 dX6_makeBlock_52 (by decide) (fun c_52 => ?_) (fun c_52 => ?_)
              · skip
                have c_52 : 10 ≤ (r + 1) := (nI_leI (a := 10) (b := r + 1) (by omega) (by omega)).mp c_52
                refine r_aload_n C dX6_makeBlock_63 rfl ?_
                refine r_iload_n C dX6_makeBlock_64 rfl ?_
                refine r_callVv C (As := [.int (nI (r + 1))]) (rest := []) dX6_makeBlock_65 (cX6_addKey9 (ws_ne (Nat.ne_of_beq_eq_false rfl) (ws_ne (Nat.ne_of_beq_eq_false rfl) w_35)) (B := shP (swA B1)) (ws_ne (Nat.ne_of_beq_eq_false rfl) ws_eq) (ws_ne (Nat.ne_of_beq_eq_false rfl) (ws_ne (Nat.ne_of_beq_eq_false rfl) w_54)) hK (r := r + 1) (by omega)) okX6_addKey mlRX6_257 imX6_addKey seX6_addKey ⟨by decide, by decide⟩ rfl rfl (Nat.le_of_ble_eq_true rfl) (ws_ne (Nat.ne_of_beq_eq_false rfl) (ws_ne (Nat.ne_of_beq_eq_false rfl) w_35)) rfl rfl (Nat.le_of_ble_eq_true rfl) (by decide) (by decide) (fun w9 h9 => ?_)
                obtain rfl := h9
                refine r_eq rfl rfl ((ws_comm (Nat.ne_of_beq_eq_false rfl)).trans (congrArg (fun z => wset z 56 (ia 16 fo_1)) ws_same)) ?_
                refine r_iinc C dX6_makeBlock_68 (v := nI ((r + 1) + 1)) (L' := [some (.ref 35), some (.int (nI ((r + 1) + 1))), some (.int (nI k))]) rfl (nI_add (r + 1) 1) (by decide) rfl ?_
                refine r_goto C 7 dX6_makeBlock_71 (by decide) ?_
                refine r_forget [some (.ref 35), some (.int (nI ((r + 1) + 1))), none] ⟨Or.inr rfl, Or.inr rfl, Or.inl rfl, trivial⟩ ?_
                exact ih_7 (r + 1) _ _ (by omega) (by omega) (by rw [mkR, if_neg (show ¬ r + 1 < 10 by omega), ← hB1, swT_of])
              · skip
                have c_52 : ¬ (10 ≤ (r + 1)) := fun h9 => c_52 ((nI_leI (a := 10) (b := r + 1) (by omega) (by omega)).mpr h9)
                refine r_aload_n C dX6_makeBlock_55 rfl ?_
                refine r_iconst C dX6_makeBlock_56 (v := 2) (by decide) ?_
                refine r_iconst C dX6_makeBlock_57 (v := 3) (by decide) ?_
                refine r_iconst C dX6_makeBlock_58 (v := 1) (by decide) ?_
                refine r_iconst C dX6_makeBlock_59 (v := 1) (by decide) ?_
                refine r_callVv C (As := [.int 2, .int 3, .int 1, .int 1]) (rest := []) dX6_makeBlock_60 (cX6_mixColumns9 (ws_ne (Nat.ne_of_beq_eq_false rfl) (ws_ne (Nat.ne_of_beq_eq_false rfl) w_35)) (B := shP (swA B1)) (ws_ne (Nat.ne_of_beq_eq_false rfl) ws_eq) ws_eq (by rw [swT_of]; exact b16_swT) (p := 2) (q := 3) (s := 1) (t := 1) (by decide) (by decide) (by decide) (by decide)) okX6_mixColumns mlRX6_263 imX6_mixColumns seX6_mixColumns ⟨by decide, by decide⟩ rfl rfl (Nat.le_of_ble_eq_true rfl) (ws_ne (Nat.ne_of_beq_eq_false rfl) (ws_ne (Nat.ne_of_beq_eq_false rfl) w_35)) rfl rfl (Nat.le_of_ble_eq_true rfl) (by decide) (by decide) (fun w9 h9 => ?_)
                obtain ⟨fo_2, rfl⟩ := h9
                refine r_eq rfl rfl ((congrArg (fun z => wset (z) 55 (ia 16 (nf (mxP 2 3 1 1 (shP (swA B1)))))) ws_same).trans ((ws_comm (Nat.ne_of_beq_eq_false rfl)).trans (congrArg (fun z => wset z 56 (ia 16 fo_2)) ws_same))) ?_
                refine r_aload_n C dX6_makeBlock_63 rfl ?_
                refine r_iload_n C dX6_makeBlock_64 rfl ?_
                refine r_callVv C (As := [.int (nI (r + 1))]) (rest := []) dX6_makeBlock_65 (cX6_addKey9 (ws_ne (Nat.ne_of_beq_eq_false rfl) (ws_ne (Nat.ne_of_beq_eq_false rfl) w_35)) (B := mxP 2 3 1 1 (shP (swA B1))) (ws_ne (Nat.ne_of_beq_eq_false rfl) ws_eq) (ws_ne (Nat.ne_of_beq_eq_false rfl) (ws_ne (Nat.ne_of_beq_eq_false rfl) w_54)) hK (r := r + 1) (by omega)) okX6_addKey mlRX6_257 imX6_addKey seX6_addKey ⟨by decide, by decide⟩ rfl rfl (Nat.le_of_ble_eq_true rfl) (ws_ne (Nat.ne_of_beq_eq_false rfl) (ws_ne (Nat.ne_of_beq_eq_false rfl) w_35)) rfl rfl (Nat.le_of_ble_eq_true rfl) (by decide) (by decide) (fun w9 h9 => ?_)
                obtain rfl := h9
                refine r_eq rfl rfl ((ws_comm (Nat.ne_of_beq_eq_false rfl)).trans (congrArg (fun z => wset z 56 (ia 16 fo_2)) ws_same)) ?_
                refine r_iinc C dX6_makeBlock_68 (v := nI ((r + 1) + 1)) (L' := [some (.ref 35), some (.int (nI ((r + 1) + 1))), some (.int (nI k))]) rfl (nI_add (r + 1) 1) (by decide) rfl ?_
                refine r_goto C 7 dX6_makeBlock_71 (by decide) ?_
                refine r_forget [some (.ref 35), some (.int (nI ((r + 1) + 1))), none] ⟨Or.inr rfl, Or.inr rfl, Or.inl rfl, trivial⟩ ?_
                exact ih_7 (r + 1) _ _ (by omega) (by omega) (by rw [mkR, if_pos (show r + 1 < 10 by omega), ← hB1, mxP_mix (by rw [swT_of]; exact b16_swT), swT_of])
            · skip
              have c_18 : ¬ (16 ≤ k) := fun h9 => c_18 ((nI_leI (a := 16) (b := k) (by omega) (by omega)).mpr h9)
              refine r_aload_n C dX6_makeBlock_21 rfl ?_
              refine r_get C dX6_makeBlock_22 fgRX6_141 (Nat.le_of_ble_eq_true rfl) (ws_ne (Nat.ne_of_beq_eq_false rfl) (ws_ne (Nat.ne_of_beq_eq_false rfl) w_35)) rfl ?_
              refine r_iload_n C dX6_makeBlock_25 rfl ?_
              refine r_aload_n C dX6_makeBlock_26 rfl ?_
              refine r_get C dX6_makeBlock_27 fgRX6_147 (Nat.le_of_ble_eq_true rfl) (ws_ne (Nat.ne_of_beq_eq_false rfl) (ws_ne (Nat.ne_of_beq_eq_false rfl) w_35)) rfl ?_
              refine r_aload_n C dX6_makeBlock_30 rfl ?_
              refine r_get C dX6_makeBlock_31 fgRX6_141 (Nat.le_of_ble_eq_true rfl) (ws_ne (Nat.ne_of_beq_eq_false rfl) (ws_ne (Nat.ne_of_beq_eq_false rfl) w_35)) rfl ?_
              refine r_iload_n C dX6_makeBlock_34 rfl ?_
              refine r_ialdN C dX6_makeBlock_35 (Nat.le_of_ble_eq_true rfl) (ws_ne (Nat.ne_of_beq_eq_false rfl) ws_eq) (j := k) rfl (by omega) (by decide) ?_
              refine r_top (y := nI (B1 k)) (congrArg nI (h3 k (Nat.le_refl _))) ?_
              have hbk := hB6 k (by omega)
              refine r_ialdN C dX6_makeBlock_36 (Nat.le_of_ble_eq_true rfl) (ws_ne (Nat.ne_of_beq_eq_false rfl) (ws_ne (Nat.ne_of_beq_eq_false rfl) w_57)) (j := B1 k) rfl (by omega) (by decide) ?_
              refine r_top (y := nI (SW (B1 k))) (nf_at SW (B1 k)) ?_
              refine r_iastF C dX6_makeBlock_37 (Nat.le_of_ble_eq_true rfl) (ws_ne (Nat.ne_of_beq_eq_false rfl) ws_eq) (j := k) (x := SW (B1 k)) rfl rfl (by omega) (by decide) ?_
              refine r_eq rfl rfl ((ws_comm (Nat.ne_of_beq_eq_false rfl)).trans (congrArg (fun z => wset z 56 (ia 16 fo1)) ws_same)) ?_
              refine r_iinc C dX6_makeBlock_38 (v := nI (k + 1)) (L' := [some (.ref 35), some (.int (nI (r + 1))), some (.int (nI (k + 1)))]) rfl (nI_add k 1) (by decide) rfl ?_
              refine r_goto C 15 dX6_makeBlock_41 (by decide) ?_
              exact ih_15 (k + 1) _ (by omega) (by omega) (upn_lt h2 (by unfold swA; rw [if_pos (by omega), hsw _ hbk])) (upn_ge h3)
        exact loop_15 _ 0 _ (Nat.lt_succ_self _) (by omega) (fun m hm => absurd hm (Nat.not_lt_zero m)) (fun m hm => rfl)
  refine r_eq rfl rfl (ws_self (ws_ne (Nat.ne_of_beq_eq_false rfl) w_56)).symm ?_
  exact loop_7 _ 0 _ _ (Nat.lt_succ_self _) (by omega) rfl
theorem b16_shM {B : Nat → Nat} (h : b16 B) : b16 (shM B) := fun k hk => by
  unfold shM
  rw [if_pos hk]
  exact h _ (by omega)
set_option maxHeartbeats 4000000 in
set_option maxRecDepth 100000 in
theorem cX6_undoBlock9 {w : Wo} {fa sz rz rv ln pm lo ns os uz ik ms hsz : Int32} (w_35 : w 35 = mo fa sz rz rv ln pm lo ns os uz ik ms hsz) {B K KK BK : Nat → Nat} (w_55 : w 55 = ia 16 (nf B)) (w_54 : w 54 = ia 176 (nf K)) {fot : Nat → Int32} (w_56 : w 56 = ia 16 fot) (w_58 : w 58 = ia 256 (nf BK)) (hbk : ∀ x, x < 256 → BK x = bk x) (hB : b16 B) (hK : ∀ k, k < 176 → K k = KK k) (hKK : ∀ k, k < 176 → KK k < 256) : Ctr mX6_undoBlock [.ref 35] w (PV fun w' => ∃ fo', w' = wset (wset w 55 (ia 16 (nf (umB KK B)))) 56 (ia 16 fo')) := by
  refine Ctr_intro okX6_undoBlock rfl (Nat.le_of_ble_eq_true rfl) (L := [some (.ref 35), none, none]) rfl (fun g ct C T_ => ?_)
  refine r_bipush C dX6_undoBlock_0 (v := 10) (by decide) ?_
  refine r_istore_n C dX6_undoBlock_2 (L' := [some (.ref 35), some (.int 10), none]) (by decide) rfl ?_
  have loop_3 : ∀ (d9 : Nat) (r : Nat) (B1 : Nat → Nat) (fo1 : Nat → Int32), 10 - r < d9 → r ≤ 10 → B1 = umR KK r B → Az g mX6_undoBlock ct 0 0 3 [some (.ref 35), some (.int (nI (10 - r))), none] [] (wset (wset w 55 (ia 16 (nf B1))) 56 (ia 16 fo1)) := by
    intro d9
    induction d9 with
    | zero => intro r B1 fo1 hd9; exact absurd hd9 (Nat.not_lt_zero _)
    | succ d9 ih_3 =>
      intro r B1 fo1 hd9 hr hB1
      have hB6 : b16 B1 := by rw [hB1]; exact b16_umR hKK hB r hr
      refine r_iload_n C dX6_undoBlock_3 rfl ?_
      refine r_iconst C dX6_undoBlock_4 (v := 1) (by decide) ?_
      refine r_icmp_lt C 72 dX6_undoBlock_5 (by decide) (fun c_5 => ?_) (fun c_5 => ?_)
      · skip
        have c_5 : (10 - r) < 1 := (nI_ltI (a := 10 - r) (b := 1) (by omega) (by omega)).mp c_5
        refine r_aload_n C dX6_undoBlock_72 rfl ?_
        refine r_iconst C dX6_undoBlock_73 (v := 0) (by decide) ?_
        refine r_callVv C (As := [.int 0]) (rest := []) dX6_undoBlock_74 (cX6_addKey9 (ws_ne (Nat.ne_of_beq_eq_false rfl) (ws_ne (Nat.ne_of_beq_eq_false rfl) w_35)) (B := B1) (ws_ne (Nat.ne_of_beq_eq_false rfl) ws_eq) (ws_ne (Nat.ne_of_beq_eq_false rfl) (ws_ne (Nat.ne_of_beq_eq_false rfl) w_54)) hK (r := 0) (by omega)) okX6_addKey mlRX6_257 imX6_addKey seX6_addKey ⟨by decide, by decide⟩ rfl rfl (Nat.le_of_ble_eq_true rfl) (ws_ne (Nat.ne_of_beq_eq_false rfl) (ws_ne (Nat.ne_of_beq_eq_false rfl) w_35)) rfl rfl (Nat.le_of_ble_eq_true rfl) (by decide) (by decide) (fun w9 h9 => ?_)
        obtain rfl := h9
        refine r_eq rfl rfl ((ws_comm (Nat.ne_of_beq_eq_false rfl)).trans (congrArg (fun z => wset z 56 (ia 16 fo1)) ws_same)) ?_
        exact r_return C T_ rfl dX6_undoBlock_77 (⟨rfl, _, by rw [hB1, show r = 10 by omega]; rfl⟩)
      · skip
        have c_5 : ¬ ((10 - r) < 1) := fun h9 => c_5 ((nI_ltI (a := 10 - r) (b := 1) (by omega) (by omega)).mpr h9)
        refine r_aload_n C dX6_undoBlock_8 rfl ?_
        refine r_iload_n C dX6_undoBlock_9 rfl ?_
        refine r_callVv C (As := [.int (nI (10 - r))]) (rest := []) dX6_undoBlock_10 (cX6_addKey9 (ws_ne (Nat.ne_of_beq_eq_false rfl) (ws_ne (Nat.ne_of_beq_eq_false rfl) w_35)) (B := B1) (ws_ne (Nat.ne_of_beq_eq_false rfl) ws_eq) (ws_ne (Nat.ne_of_beq_eq_false rfl) (ws_ne (Nat.ne_of_beq_eq_false rfl) w_54)) hK (r := 10 - r) (by omega)) okX6_addKey mlRX6_257 imX6_addKey seX6_addKey ⟨by decide, by decide⟩ rfl rfl (Nat.le_of_ble_eq_true rfl) (ws_ne (Nat.ne_of_beq_eq_false rfl) (ws_ne (Nat.ne_of_beq_eq_false rfl) w_35)) rfl rfl (Nat.le_of_ble_eq_true rfl) (by decide) (by decide) (fun w9 h9 => ?_)
        obtain rfl := h9
        refine r_eq rfl rfl ((ws_comm (Nat.ne_of_beq_eq_false rfl)).trans (congrArg (fun z => wset z 56 (ia 16 fo1)) ws_same)) ?_
        refine r_iload_n C dX6_undoBlock_13 rfl ?_
        refine r_bipush C dX6_undoBlock_14 (v := 10) (by decide) ?_
        refine r_icmp_ge C 31 dX6_undoBlock_16 (by decide) (fun c_16 => ?_) (fun c_16 => ?_)
        · skip
          have c_16 : 10 ≤ (10 - r) := (nI_leI (a := 10) (b := 10 - r) (by omega) (by omega)).mp c_16
          refine r_aload_n C dX6_undoBlock_31 rfl ?_
          refine r_iconst C dX6_undoBlock_32 (v := (-1)) (by decide) ?_
          refine r_callVv C (As := [.int (-1)]) (rest := []) dX6_undoBlock_33 (cX6_shift9m (ws_ne (Nat.ne_of_beq_eq_false rfl) (ws_ne (Nat.ne_of_beq_eq_false rfl) w_35)) (B := addC KK (10 - r) B1) (ws_ne (Nat.ne_of_beq_eq_false rfl) ws_eq) ws_eq) okX6_shift mlRX6_260 imX6_shift seX6_shift ⟨by decide, by decide⟩ rfl rfl (Nat.le_of_ble_eq_true rfl) (ws_ne (Nat.ne_of_beq_eq_false rfl) (ws_ne (Nat.ne_of_beq_eq_false rfl) w_35)) rfl rfl (Nat.le_of_ble_eq_true rfl) (by decide) (by decide) (fun w9 h9 => ?_)
          obtain ⟨fo_1, rfl⟩ := h9
          refine r_eq rfl rfl ((congrArg (fun z => wset (z) 55 (ia 16 (nf (shM (addC KK (10 - r) B1))))) ws_same).trans ((ws_comm (Nat.ne_of_beq_eq_false rfl)).trans (congrArg (fun z => wset z 56 (ia 16 fo_1)) ws_same))) ?_
          refine r_iconst C dX6_undoBlock_36 (v := 0) (by decide) ?_
          refine r_istore_n C dX6_undoBlock_37 (L' := [some (.ref 35), some (.int (nI (10 - r))), some (.int 0)]) (by decide) rfl ?_
          have loop_38 : ∀ (d9 : Nat) (k : Nat) (B2 : Nat → Nat), 16 - k < d9 → k ≤ 16 → (∀ m, m < k → B2 m = bkA (shM (addC KK (10 - r) B1)) m) → (∀ m, k ≤ m → B2 m = (shM (addC KK (10 - r) B1)) m) → Az g mX6_undoBlock ct 0 0 38 [some (.ref 35), some (.int (nI (10 - r))), some (.int (nI k))] [] (wset (wset w 55 (ia 16 (nf B2))) 56 (ia 16 fo_1)) := by
            intro d9
            induction d9 with
            | zero => intro k B2 hd9; exact absurd hd9 (Nat.not_lt_zero _)
            | succ d9 ih_38 =>
              intro k B2 hd9 hk h2 h3
              refine r_iload_n C dX6_undoBlock_38 rfl ?_
              refine r_bipush C dX6_undoBlock_39 (v := 16) (by decide) ?_
              refine r_icmp_ge C 66 dX6_undoBlock_41 (by decide) (fun c_41 => ?_) (fun c_41 => ?_)
              · skip
                have c_41 : 16 ≤ k := (nI_leI (a := 16) (b := k) (by omega) (by omega)).mp c_41
                have hA9 : B2 = bkA (shM (addC KK (10 - r) B1)) := fun_lh (n := k) h2 h3 (fun m hm => if_neg (by omega))
                subst hA9
                refine r_iinc C dX6_undoBlock_66 (v := nI (10 - (r + 1))) (L' := [some (.ref 35), some (.int (nI (10 - (r + 1)))), some (.int (nI k))]) rfl ((nI_dec1 (by omega)).trans (congrArg nI (by omega))) (by decide) rfl ?_
                refine r_goto C 3 dX6_undoBlock_69 (by decide) ?_
                refine r_forget [some (.ref 35), some (.int (nI (10 - (r + 1)))), none] ⟨Or.inr rfl, Or.inr rfl, Or.inl rfl, trivial⟩ ?_
                exact ih_3 (r + 1) _ _ (by omega) (by omega) (by rw [umR, if_neg (show ¬ 10 - r < 10 by omega), ← hB1, ← swTB_of])
              · skip
                have c_41 : ¬ (16 ≤ k) := fun h9 => c_41 ((nI_leI (a := 16) (b := k) (by omega) (by omega)).mpr h9)
                refine r_aload_n C dX6_undoBlock_44 rfl ?_
                refine r_get C dX6_undoBlock_45 fgRX6_141 (Nat.le_of_ble_eq_true rfl) (ws_ne (Nat.ne_of_beq_eq_false rfl) (ws_ne (Nat.ne_of_beq_eq_false rfl) w_35)) rfl ?_
                refine r_iload_n C dX6_undoBlock_48 rfl ?_
                refine r_aload_n C dX6_undoBlock_49 rfl ?_
                refine r_aload_n C dX6_undoBlock_50 rfl ?_
                refine r_get C dX6_undoBlock_51 fgRX6_141 (Nat.le_of_ble_eq_true rfl) (ws_ne (Nat.ne_of_beq_eq_false rfl) (ws_ne (Nat.ne_of_beq_eq_false rfl) w_35)) rfl ?_
                refine r_iload_n C dX6_undoBlock_54 rfl ?_
                refine r_ialdN C dX6_undoBlock_55 (Nat.le_of_ble_eq_true rfl) (ws_ne (Nat.ne_of_beq_eq_false rfl) ws_eq) (j := k) rfl (by omega) (by decide) ?_
                refine r_top (y := nI ((shM (addC KK (10 - r) B1)) k)) (congrArg nI (h3 k (Nat.le_refl _))) ?_
                have hb9 : (shM (addC KK (10 - r) B1)) k < 256 := b16_shM (b16_addC hKK (by omega) hB6) k (show k < 16 by omega)
                refine r_callVi C (As := [.int (nI ((shM (addC KK (10 - r) B1)) k))]) (rest := [.int (nI k), .ref 55]) dX6_undoBlock_56 (cX6_unswapped9 (ws_ne (Nat.ne_of_beq_eq_false rfl) (ws_ne (Nat.ne_of_beq_eq_false rfl) w_35)) (ws_ne (Nat.ne_of_beq_eq_false rfl) (ws_ne (Nat.ne_of_beq_eq_false rfl) w_58)) (b := (shM (addC KK (10 - r) B1)) k) hb9) okX6_unswapped mlRX6_267 imX6_unswapped seX6_unswapped ⟨by decide, by decide⟩ rfl rfl (Nat.le_of_ble_eq_true rfl) (ws_ne (Nat.ne_of_beq_eq_false rfl) (ws_ne (Nat.ne_of_beq_eq_false rfl) w_35)) rfl rfl (Nat.le_of_ble_eq_true rfl) (by decide) (by decide) (fun r_2 w9 h9 => ?_)
                obtain ⟨e9, rfl⟩ := h9
                have e9 := e9.symm
                subst e9
                refine r_iastF C dX6_undoBlock_59 (Nat.le_of_ble_eq_true rfl) (ws_ne (Nat.ne_of_beq_eq_false rfl) ws_eq) (j := k) (x := BK ((shM (addC KK (10 - r) B1)) k)) rfl rfl (by omega) (by decide) ?_
                refine r_eq rfl rfl ((ws_comm (Nat.ne_of_beq_eq_false rfl)).trans (congrArg (fun z => wset z 56 (ia 16 fo_1)) ws_same)) ?_
                refine r_iinc C dX6_undoBlock_60 (v := nI (k + 1)) (L' := [some (.ref 35), some (.int (nI (10 - r))), some (.int (nI (k + 1)))]) rfl (nI_add k 1) (by decide) rfl ?_
                refine r_goto C 38 dX6_undoBlock_63 (by decide) ?_
                exact ih_38 (k + 1) _ (by omega) (by omega) (upn_lt h2 (by unfold bkA; rw [if_pos (by omega), hbk _ hb9])) (upn_ge h3)
          exact loop_38 _ 0 _ (Nat.lt_succ_self _) (by omega) (fun m hm => absurd hm (Nat.not_lt_zero m)) (fun m hm => rfl)
        · skip
          have c_16 : ¬ (10 ≤ (10 - r)) := fun h9 => c_16 ((nI_leI (a := 10) (b := 10 - r) (by omega) (by omega)).mpr h9)
          refine r_aload_n C dX6_undoBlock_19 rfl ?_
          refine r_bipush C dX6_undoBlock_20 (v := 14) (by decide) ?_
          refine r_bipush C dX6_undoBlock_22 (v := 11) (by decide) ?_
          refine r_bipush C dX6_undoBlock_24 (v := 13) (by decide) ?_
          refine r_bipush C dX6_undoBlock_26 (v := 9) (by decide) ?_
          refine r_callVv C (As := [.int 14, .int 11, .int 13, .int 9]) (rest := []) dX6_undoBlock_28 (cX6_mixColumns9 (ws_ne (Nat.ne_of_beq_eq_false rfl) (ws_ne (Nat.ne_of_beq_eq_false rfl) w_35)) (B := addC KK (10 - r) B1) (ws_ne (Nat.ne_of_beq_eq_false rfl) ws_eq) ws_eq (b16_addC hKK (by omega) hB6) (p := 14) (q := 11) (s := 13) (t := 9) (by decide) (by decide) (by decide) (by decide)) okX6_mixColumns mlRX6_263 imX6_mixColumns seX6_mixColumns ⟨by decide, by decide⟩ rfl rfl (Nat.le_of_ble_eq_true rfl) (ws_ne (Nat.ne_of_beq_eq_false rfl) (ws_ne (Nat.ne_of_beq_eq_false rfl) w_35)) rfl rfl (Nat.le_of_ble_eq_true rfl) (by decide) (by decide) (fun w9 h9 => ?_)
          obtain ⟨fo_3, rfl⟩ := h9
          refine r_eq rfl rfl ((congrArg (fun z => wset (z) 55 (ia 16 (nf (mxP 14 11 13 9 (addC KK (10 - r) B1))))) ws_same).trans ((ws_comm (Nat.ne_of_beq_eq_false rfl)).trans (congrArg (fun z => wset z 56 (ia 16 fo_3)) ws_same))) ?_
          refine r_aload_n C dX6_undoBlock_31 rfl ?_
          refine r_iconst C dX6_undoBlock_32 (v := (-1)) (by decide) ?_
          refine r_callVv C (As := [.int (-1)]) (rest := []) dX6_undoBlock_33 (cX6_shift9m (ws_ne (Nat.ne_of_beq_eq_false rfl) (ws_ne (Nat.ne_of_beq_eq_false rfl) w_35)) (B := mxP 14 11 13 9 (addC KK (10 - r) B1)) (ws_ne (Nat.ne_of_beq_eq_false rfl) ws_eq) ws_eq) okX6_shift mlRX6_260 imX6_shift seX6_shift ⟨by decide, by decide⟩ rfl rfl (Nat.le_of_ble_eq_true rfl) (ws_ne (Nat.ne_of_beq_eq_false rfl) (ws_ne (Nat.ne_of_beq_eq_false rfl) w_35)) rfl rfl (Nat.le_of_ble_eq_true rfl) (by decide) (by decide) (fun w9 h9 => ?_)
          obtain ⟨fo_4, rfl⟩ := h9
          refine r_eq rfl rfl ((congrArg (fun z => wset (z) 55 (ia 16 (nf (shM (mxP 14 11 13 9 (addC KK (10 - r) B1)))))) ws_same).trans ((ws_comm (Nat.ne_of_beq_eq_false rfl)).trans (congrArg (fun z => wset z 56 (ia 16 fo_4)) ws_same))) ?_
          refine r_iconst C dX6_undoBlock_36 (v := 0) (by decide) ?_
          refine r_istore_n C dX6_undoBlock_37 (L' := [some (.ref 35), some (.int (nI (10 - r))), some (.int 0)]) (by decide) rfl ?_
          have loop_38 : ∀ (d9 : Nat) (k : Nat) (B2 : Nat → Nat), 16 - k < d9 → k ≤ 16 → (∀ m, m < k → B2 m = bkA (shM (mxP 14 11 13 9 (addC KK (10 - r) B1))) m) → (∀ m, k ≤ m → B2 m = (shM (mxP 14 11 13 9 (addC KK (10 - r) B1))) m) → Az g mX6_undoBlock ct 0 0 38 [some (.ref 35), some (.int (nI (10 - r))), some (.int (nI k))] [] (wset (wset w 55 (ia 16 (nf B2))) 56 (ia 16 fo_4)) := by
            intro d9
            induction d9 with
            | zero => intro k B2 hd9; exact absurd hd9 (Nat.not_lt_zero _)
            | succ d9 ih_38 =>
              intro k B2 hd9 hk h2 h3
              refine r_iload_n C dX6_undoBlock_38 rfl ?_
              refine r_bipush C dX6_undoBlock_39 (v := 16) (by decide) ?_
              refine r_icmp_ge C 66 dX6_undoBlock_41 (by decide) (fun c_41 => ?_) (fun c_41 => ?_)
              · skip
                have c_41 : 16 ≤ k := (nI_leI (a := 16) (b := k) (by omega) (by omega)).mp c_41
                have hA9 : B2 = bkA (shM (mxP 14 11 13 9 (addC KK (10 - r) B1))) := fun_lh (n := k) h2 h3 (fun m hm => if_neg (by omega))
                subst hA9
                refine r_iinc C dX6_undoBlock_66 (v := nI (10 - (r + 1))) (L' := [some (.ref 35), some (.int (nI (10 - (r + 1)))), some (.int (nI k))]) rfl ((nI_dec1 (by omega)).trans (congrArg nI (by omega))) (by decide) rfl ?_
                refine r_goto C 3 dX6_undoBlock_69 (by decide) ?_
                refine r_forget [some (.ref 35), some (.int (nI (10 - (r + 1)))), none] ⟨Or.inr rfl, Or.inr rfl, Or.inl rfl, trivial⟩ ?_
                exact ih_3 (r + 1) _ _ (by omega) (by omega) (by rw [umR, if_pos (show 10 - r < 10 by omega), ← hB1, ← swTB_of, mxP_un (b16_addC hKK (by omega) hB6)])
              · skip
                have c_41 : ¬ (16 ≤ k) := fun h9 => c_41 ((nI_leI (a := 16) (b := k) (by omega) (by omega)).mpr h9)
                refine r_aload_n C dX6_undoBlock_44 rfl ?_
                refine r_get C dX6_undoBlock_45 fgRX6_141 (Nat.le_of_ble_eq_true rfl) (ws_ne (Nat.ne_of_beq_eq_false rfl) (ws_ne (Nat.ne_of_beq_eq_false rfl) w_35)) rfl ?_
                refine r_iload_n C dX6_undoBlock_48 rfl ?_
                refine r_aload_n C dX6_undoBlock_49 rfl ?_
                refine r_aload_n C dX6_undoBlock_50 rfl ?_
                refine r_get C dX6_undoBlock_51 fgRX6_141 (Nat.le_of_ble_eq_true rfl) (ws_ne (Nat.ne_of_beq_eq_false rfl) (ws_ne (Nat.ne_of_beq_eq_false rfl) w_35)) rfl ?_
                refine r_iload_n C dX6_undoBlock_54 rfl ?_
                refine r_ialdN C dX6_undoBlock_55 (Nat.le_of_ble_eq_true rfl) (ws_ne (Nat.ne_of_beq_eq_false rfl) ws_eq) (j := k) rfl (by omega) (by decide) ?_
                refine r_top (y := nI ((shM (mxP 14 11 13 9 (addC KK (10 - r) B1))) k)) (congrArg nI (h3 k (Nat.le_refl _))) ?_
                have hb9 : (shM (mxP 14 11 13 9 (addC KK (10 - r) B1))) k < 256 := b16_shM (by rw [mxP_un (b16_addC hKK (by omega) hB6)]; exact b16_unmixC (b16_addC hKK (by omega) hB6)) k (show k < 16 by omega)
                refine r_callVi C (As := [.int (nI ((shM (mxP 14 11 13 9 (addC KK (10 - r) B1))) k))]) (rest := [.int (nI k), .ref 55]) dX6_undoBlock_56 (cX6_unswapped9 (ws_ne (Nat.ne_of_beq_eq_false rfl) (ws_ne (Nat.ne_of_beq_eq_false rfl) w_35)) (ws_ne (Nat.ne_of_beq_eq_false rfl) (ws_ne (Nat.ne_of_beq_eq_false rfl) w_58)) (b := (shM (mxP 14 11 13 9 (addC KK (10 - r) B1))) k) hb9) okX6_unswapped mlRX6_267 imX6_unswapped seX6_unswapped ⟨by decide, by decide⟩ rfl rfl (Nat.le_of_ble_eq_true rfl) (ws_ne (Nat.ne_of_beq_eq_false rfl) (ws_ne (Nat.ne_of_beq_eq_false rfl) w_35)) rfl rfl (Nat.le_of_ble_eq_true rfl) (by decide) (by decide) (fun r_5 w9 h9 => ?_)
                obtain ⟨e9, rfl⟩ := h9
                have e9 := e9.symm
                subst e9
                refine r_iastF C dX6_undoBlock_59 (Nat.le_of_ble_eq_true rfl) (ws_ne (Nat.ne_of_beq_eq_false rfl) ws_eq) (j := k) (x := BK ((shM (mxP 14 11 13 9 (addC KK (10 - r) B1))) k)) rfl rfl (by omega) (by decide) ?_
                refine r_eq rfl rfl ((ws_comm (Nat.ne_of_beq_eq_false rfl)).trans (congrArg (fun z => wset z 56 (ia 16 fo_4)) ws_same)) ?_
                refine r_iinc C dX6_undoBlock_60 (v := nI (k + 1)) (L' := [some (.ref 35), some (.int (nI (10 - r))), some (.int (nI (k + 1)))]) rfl (nI_add k 1) (by decide) rfl ?_
                refine r_goto C 38 dX6_undoBlock_63 (by decide) ?_
                exact ih_38 (k + 1) _ (by omega) (by omega) (upn_lt h2 (by unfold bkA; rw [if_pos (by omega), hbk _ hb9])) (upn_ge h3)
          exact loop_38 _ 0 _ (Nat.lt_succ_self _) (by omega) (fun m hm => absurd hm (Nat.not_lt_zero m)) (fun m hm => rfl)
  refine r_eq rfl rfl (ws_self w_55).symm ?_
  refine r_eq rfl rfl (ws_self (ws_ne (Nat.ne_of_beq_eq_false rfl) w_56)).symm ?_
  exact loop_3 _ 0 _ _ (Nat.lt_succ_self _) (by omega) rfl
