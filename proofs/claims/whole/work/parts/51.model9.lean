theorem exG_n {K0 X : Nat → Nat} {c j : Nat} (hX : X = (exS K0 c).1) (h : ¬ c % 4 = 0) (hj : j < 4) : X (4 * (c + 4) - 16 + j) ^^^ X (4 * (c + 4) - 4 + j) = (exS K0 (c + 1)).1 (4 * (c + 4) + j) := by
  rw [exS, if_neg h]
  show _ = if _ then _ else _
  rw [if_pos (by omega), ← hX, show 4 * (c + 4) + j - 16 = 4 * (c + 4) - 16 + j by omega, show 4 * (c + 4) + j - 4 = 4 * (c + 4) - 4 + j by omega]
theorem exG_0 {K0 X : Nat → Nat} {c j e : Nat} (hX : X = (exS K0 c).1) (he : e = (exS K0 c).2) (h : c % 4 = 0) (hj : j = 0) : X (4 * (c + 4) - 16 + j) ^^^ (sw (X (4 * (c + 4) - 4 + (j + 1) % 4)) ^^^ e) = (exS K0 (c + 1)).1 (4 * (c + 4) + j) := by
  subst hj
  rw [exS, if_pos h]
  show _ = upn _ _ _ (4 * (c + 4))
  rw [upn_ne (by omega), upn_ne (by omega), upn_ne (by omega), upn_eq, ← hX, ← he, Nat.add_zero, show 4 * (c + 4) - 4 + (0 + 1) % 4 = 4 * (c + 4) - 3 by omega, Nat.xor_assoc]
theorem exG_j {K0 X : Nat → Nat} {c j : Nat} (hX : X = (exS K0 c).1) (h : c % 4 = 0) (hj : 1 ≤ j) (hj2 : j < 4) : X (4 * (c + 4) - 16 + j) ^^^ sw (X (4 * (c + 4) - 4 + (j + 1) % 4)) = (exS K0 (c + 1)).1 (4 * (c + 4) + j) := by
  rw [exS, if_pos h]
  show _ = upn _ _ _ (4 * (c + 4) + j)
  rcases (show j = 1 ∨ j = 2 ∨ j = 3 by omega) with rfl | rfl | rfl
  · rw [upn_ne (by omega), upn_ne (by omega), upn_eq, ← hX, show 4 * (c + 4) - 16 + 1 = 4 * (c + 4) - 15 by omega, show 4 * (c + 4) - 4 + (1 + 1) % 4 = 4 * (c + 4) - 2 by omega]
  · rw [upn_ne (by omega), upn_eq, ← hX, show 4 * (c + 4) - 16 + 2 = 4 * (c + 4) - 14 by omega, show 4 * (c + 4) - 4 + (2 + 1) % 4 = 4 * (c + 4) - 1 by omega]
  · rw [upn_eq, ← hX, show 4 * (c + 4) - 16 + 3 = 4 * (c + 4) - 13 by omega, show 4 * (c + 4) - 4 + (3 + 1) % 4 = 4 * (c + 4) - 4 by omega]
theorem exK {K2 G : Nat → Nat} {i j x : Nat} (h4 : ∀ m, i ≤ m → m < i + j → K2 m = G m) (hx : x = G (i + j)) : ∀ m, i ≤ m → m < i + (j + 1) → upn K2 (i + j) x m = G m := by
  intro m h1 h2
  unfold upn
  by_cases e : m = i + j
  · rw [if_pos e, e, hx]
  · rw [if_neg e]
    exact h4 m h1 (by omega)
theorem exJ {K0 K2 X : Nat → Nat} {c j : Nat} (hX : X = (exS K0 c).1) (h3 : ∀ m, m < 4 * (c + 4) → K2 m = X m) (h4 : ∀ m, 4 * (c + 4) ≤ m → m < 4 * (c + 4) + j → K2 m = (exS K0 (c + 1)).1 m) (hj : 4 ≤ j) : ∀ k, k < 4 * (c + 1 + 4) → K2 k = (exS K0 (c + 1)).1 k := by
  intro k hk
  by_cases e : k < 4 * (c + 4)
  · rw [h3 k e, hX, exS]
    split
    · show _ = upn _ _ _ k
      rw [upn_ne (by omega), upn_ne (by omega), upn_ne (by omega), upn_ne (by omega)]
    · show _ = if _ then _ else _
      rw [if_neg (by omega)]
  · exact h4 k (by omega) (by omega)
set_option maxHeartbeats 4000000 in
set_option maxRecDepth 100000 in
theorem cX6_makeColumns9 {w : Wo} {hl : List Nat} {fh : Nat → Int32} {fa sz rz rv ln pm lo ns os uz ik ms : Int32} (w_35 : w 35 = mo fa sz rz rv ln pm lo ns os uz ik ms (nI hl.length)) (w_50 : w 50 = ia 16 fh) (h_hl : hs fh hl) (k_hl : hl.length ≤ 16) (hbh : byt hl) {K SW BK : Nat → Nat} (w_54 : w 54 = ia 176 (nf K)) (w_57 : w 57 = ia 256 (nf SW)) (w_58 : w 58 = ia 256 (nf BK)) : Ctr mX6_makeColumns [.ref 35] w (PV fun w' => ∃ SW' BK' K', w' = wset (wset (wset w 57 (ia 256 (nf SW'))) 58 (ia 256 (nf BK'))) 54 (ia 176 (nf K')) ∧ (∀ x, x < 256 → SW' x = sw x) ∧ (∀ x, x < 256 → BK' x = bk x) ∧ ∀ k, k < 176 → K' k = kx hl k) := by
  refine Ctr_intro okX6_makeColumns rfl (Nat.le_of_ble_eq_true rfl) (L := [some (.ref 35), none, none, none, none]) rfl (fun g ct C T_ => ?_)
  refine r_aload_n C dX6_makeColumns_0 rfl ?_
  refine r_callVv C (As := []) (rest := []) dX6_makeColumns_1 (cX6_makeSwaps9 w_35 w_57 w_58) okX6_makeSwaps mlRX6_254 imX6_makeSwaps seX6_makeSwaps ⟨by decide, by decide⟩ rfl rfl (Nat.le_of_ble_eq_true rfl) w_35 rfl rfl (Nat.le_of_ble_eq_true rfl) (by decide) (by decide) (fun w9 h9 => ?_)
  obtain ⟨SW2, BK2, rfl, hsw, hbk⟩ := h9
  refine r_iconst C dX6_makeColumns_4 (v := 0) (by decide) ?_
  refine r_istore_n C dX6_makeColumns_5 (L' := [some (.ref 35), some (.int 0), none, none, none]) (by decide) rfl ?_
  have loop_6 : ∀ (d9 : Nat) (i : Nat) (K1 : Nat → Nat), 16 - i < d9 → i ≤ 16 → (∀ k, k < i → K1 k = hl.getD k 0) → Az g mX6_makeColumns ct 0 0 6 [some (.ref 35), some (.int (nI i)), none, none, none] [] (wset (wset (wset w 57 (ia 256 (nf SW2))) 58 (ia 256 (nf BK2))) 54 (ia 176 (nf K1))) := by
    intro d9
    induction d9 with
    | zero => intro i K1 hd9; exact absurd hd9 (Nat.not_lt_zero _)
    | succ d9 ih_6 =>
      intro i K1 hd9 hi h1
      refine r_iload_n C dX6_makeColumns_6 rfl ?_
      refine r_bipush C dX6_makeColumns_7 (v := 16) (by decide) ?_
      refine r_icmp_ge C 42 dX6_makeColumns_9 (by decide) (fun c_9 => ?_) (fun c_9 => ?_)
      · skip
        have c_9 : 16 ≤ i := (nI_leI (a := 16) (b := i) (by omega) (by omega)).mp c_9
        refine r_iconst C dX6_makeColumns_42 (v := 1) (by decide) ?_
        refine r_istore_n C dX6_makeColumns_43 (L' := [some (.ref 35), some (.int 1), none, none, none]) (by decide) rfl ?_
        refine r_iconst C dX6_makeColumns_44 (v := 4) (by decide) ?_
        refine r_istore_n C dX6_makeColumns_45 (L' := [some (.ref 35), some (.int 1), some (.int 4), none, none]) (by decide) rfl ?_
        have loop_46 : ∀ (d9 : Nat) (c : Nat) (e : Nat) (X : Nat → Nat) (K1 : Nat → Nat), 40 - c < d9 → c ≤ 40 → X = (exS (fun k => hl.getD k 0) c).1 → e = (exS (fun k => hl.getD k 0) c).2 → (∀ k, k < 4 * (c + 4) → K1 k = X k) → Az g mX6_makeColumns ct 0 0 46 [some (.ref 35), some (.int (nI e)), some (.int (nI (c + 4))), none, none] [] (wset (wset (wset w 57 (ia 256 (nf SW2))) 58 (ia 256 (nf BK2))) 54 (ia 176 (nf K1))) := by
          intro d9
          induction d9 with
          | zero => intro c e X K1 hd9; exact absurd hd9 (Nat.not_lt_zero _)
          | succ d9 ih_46 =>
            intro c e X K1 hd9 hc hX he h2
            have hX6 : ∀ k, X k < 256 := by rw [hX]; exact (exS_lt (fun k => byt_getD hbh k) c).1
            have he6 : e < 256 := by rw [he]; exact (exS_lt (fun k => byt_getD hbh k) c).2
            refine r_iload_n C dX6_makeColumns_46 rfl ?_
            refine r_bipush C dX6_makeColumns_47 (v := 44) (by decide) ?_
            refine r_icmp_ge C 177 dX6_makeColumns_49 (by decide) (fun c_49 => ?_) (fun c_49 => ?_)
            · skip
              have c_49 : 44 ≤ (c + 4) := (nI_leI (a := 44) (b := c + 4) (by omega) (by omega)).mp c_49
              exact r_return C T_ rfl dX6_makeColumns_177 (⟨rfl, _, _, K1, rfl, hsw, hbk, fun k hk => (h2 k (by omega)).trans (by rw [hX, show c = 40 by omega]; rfl)⟩)
            · skip
              have c_49 : ¬ (44 ≤ (c + 4)) := fun h9 => c_49 ((nI_leI (a := 44) (b := c + 4) (by omega) (by omega)).mpr h9)
              refine r_iconst C dX6_makeColumns_52 (v := 0) (by decide) ?_
              refine r_istore_n C dX6_makeColumns_53 (L' := [some (.ref 35), some (.int (nI e)), some (.int (nI (c + 4))), some (.int 0), none]) (by decide) rfl ?_
              have loop_54 : ∀ (d9 : Nat) (j : Nat) (K2 : Nat → Nat), 4 - j < d9 → j ≤ 4 → (∀ m, m < 4 * (c + 4) → K2 m = X m) → (∀ m, 4 * (c + 4) ≤ m → m < 4 * (c + 4) + j → K2 m = (exS (fun k => hl.getD k 0) (c + 1)).1 m) → Az g mX6_makeColumns ct 0 0 54 [some (.ref 35), some (.int (nI e)), some (.int (nI (c + 4))), some (.int (nI j)), none] [] (wset (wset (wset w 57 (ia 256 (nf SW2))) 58 (ia 256 (nf BK2))) 54 (ia 176 (nf K2))) := by
                intro d9
                induction d9 with
                | zero => intro j K2 hd9; exact absurd hd9 (Nat.not_lt_zero _)
                | succ d9 ih_54 =>
                  intro j K2 hd9 hj h3 h4
                  refine r_iload_n C dX6_makeColumns_54 rfl ?_
                  refine r_iconst C dX6_makeColumns_55 (v := 4) (by decide) ?_
                  refine r_icmp_ge C 156 dX6_makeColumns_56 (by decide) (fun c_56 => ?_) (fun c_56 => ?_)
                  · skip
                    have c_56 : 4 ≤ j := (nI_leI (a := 4) (b := j) (by omega) (by omega)).mp c_56
                    refine r_iload_n C dX6_makeColumns_156 rfl ?_
                    refine r_iconst C dX6_makeColumns_157 (v := 4) (by decide) ?_
                    refine r_irem C dX6_makeColumns_158 (by decide) ?_
                    refine r_top (y := nI ((c + 4) % 4)) (pk_rem (a := c + 4) (d := 4) (by omega) (by omega) (by omega)) ?_
                    refine r_if_ne C 169 dX6_makeColumns_159 (by decide) (fun c_159 => ?_) (fun c_159 => ?_)
                    · skip
                      have c_159 : ¬ (((c + 4) % 4) = 0) := fun h9 => c_159 ((nI_eq (a := (c + 4) % 4) (b := 0) (by omega) (by omega)).mpr h9)
                      refine r_iload_n C dX6_makeColumns_169 rfl ?_
                      refine r_istore_n C dX6_makeColumns_170 (L' := [some (.ref 35), some (.int (nI e)), some (.int (nI (c + 4))), some (.int (nI j)), none]) (by decide) rfl ?_
                      refine r_iinc C dX6_makeColumns_171 (v := nI (c + 1 + 4)) (L' := [some (.ref 35), some (.int (nI e)), some (.int (nI (c + 1 + 4))), some (.int (nI j)), none]) rfl ((nI_add (c + 4) 1).trans (congrArg nI (by omega))) (by decide) rfl ?_
                      refine r_goto C 46 dX6_makeColumns_174 (by decide) ?_
                      refine r_forget [some (.ref 35), some (.int (nI e)), some (.int (nI (c + 1 + 4))), none, none] ⟨Or.inr rfl, Or.inr rfl, Or.inr rfl, Or.inl rfl, Or.inl rfl, trivial⟩ ?_
                      exact ih_46 (c + 1) e _ _ (by omega) (by omega) rfl (by rw [exS, if_neg (by omega), he]) (exJ hX h3 h4 (by omega))
                    · skip
                      have c_159 : ((c + 4) % 4) = 0 := (nI_eq (a := (c + 4) % 4) (b := 0) (by omega) (by omega)).mp c_159
                      refine r_iload_n C dX6_makeColumns_162 rfl ?_
                      refine r_callSi C (As := [.int (nI e)]) (rest := []) dX6_makeColumns_163 (cX6_doubled9 (v := e) he6) okX6_doubled mlRX6_245 stX6_doubled ⟨by decide, by decide⟩ rfl rfl (Nat.le_of_ble_eq_true rfl) (by decide) (by decide) (fun r_1 w9 h9 => ?_)
                      obtain ⟨e9, rfl⟩ := h9
                      have e9 := e9.symm
                      subst e9
                      refine r_goto C 170 dX6_makeColumns_166 (by decide) ?_
                      refine r_istore_n C dX6_makeColumns_170 (L' := [some (.ref 35), some (.int (nI (xt e))), some (.int (nI (c + 4))), some (.int (nI j)), none]) (by decide) rfl ?_
                      refine r_iinc C dX6_makeColumns_171 (v := nI (c + 1 + 4)) (L' := [some (.ref 35), some (.int (nI (xt e))), some (.int (nI (c + 1 + 4))), some (.int (nI j)), none]) rfl ((nI_add (c + 4) 1).trans (congrArg nI (by omega))) (by decide) rfl ?_
                      refine r_goto C 46 dX6_makeColumns_174 (by decide) ?_
                      refine r_forget [some (.ref 35), some (.int (nI (xt e))), some (.int (nI (c + 1 + 4))), none, none] ⟨Or.inr rfl, Or.inr rfl, Or.inr rfl, Or.inl rfl, Or.inl rfl, trivial⟩ ?_
                      exact ih_46 (c + 1) (xt e) _ _ (by omega) (by omega) rfl (by rw [exS, if_pos (by omega), he]) (exJ hX h3 h4 (by omega))
                  · skip
                    have c_56 : ¬ (4 ≤ j) := fun h9 => c_56 ((nI_leI (a := 4) (b := j) (by omega) (by omega)).mpr h9)
                    refine r_iload_n C dX6_makeColumns_59 rfl ?_
                    refine r_iconst C dX6_makeColumns_60 (v := 4) (by decide) ?_
                    refine r_irem C dX6_makeColumns_61 (by decide) ?_
                    refine r_top (y := nI ((c + 4) % 4)) (pk_rem (a := c + 4) (d := 4) (by omega) (by omega) (by omega)) ?_
                    refine r_if_ne C 89 dX6_makeColumns_62 (by decide) (fun c_62 => ?_) (fun c_62 => ?_)
                    · skip
                      have c_62 : ¬ (((c + 4) % 4) = 0) := fun h9 => c_62 ((nI_eq (a := (c + 4) % 4) (b := 0) (by omega) (by omega)).mpr h9)
                      refine r_aload_n C dX6_makeColumns_89 rfl ?_
                      refine r_get C dX6_makeColumns_90 fgRX6_138 (Nat.le_of_ble_eq_true rfl) (ws_ne (Nat.ne_of_beq_eq_false rfl) (ws_ne (Nat.ne_of_beq_eq_false rfl) (ws_ne (Nat.ne_of_beq_eq_false rfl) w_35))) rfl ?_
                      refine r_iconst C dX6_makeColumns_93 (v := 4) (by decide) ?_
                      refine r_iload_n C dX6_makeColumns_94 rfl ?_
                      refine r_imul C dX6_makeColumns_95 ?_
                      refine r_top (y := nI (4 * (c + 4))) (pk_mul 4 (c + 4)) ?_
                      refine r_iconst C dX6_makeColumns_96 (v := 4) (by decide) ?_
                      refine r_isub C dX6_makeColumns_97 ?_
                      refine r_top (y := nI ((4 * (c + 4)) - 4)) (pk_sub (a := 4 * (c + 4)) (b := 4) (by omega)) ?_
                      refine r_iload_n C dX6_makeColumns_98 rfl ?_
                      refine r_iadd C dX6_makeColumns_99 ?_
                      refine r_top (y := nI (((4 * (c + 4)) - 4) + j)) (nI_add ((4 * (c + 4)) - 4) j) ?_
                      refine r_ialdN C dX6_makeColumns_100 (Nat.le_of_ble_eq_true rfl) ws_eq (j := ((4 * (c + 4)) - 4) + j) rfl (by omega) (by decide) ?_
                      refine r_top (y := nI (X (4 * (c + 4) - 4 + j))) (congrArg nI (h3 _ (by omega))) ?_
                      refine r_istore C dX6_makeColumns_101 (L' := [some (.ref 35), some (.int (nI e)), some (.int (nI (c + 4))), some (.int (nI j)), some (.int (nI (X (4 * (c + 4) - 4 + j))))]) (by decide) rfl ?_
                      refine r_iload_n C dX6_makeColumns_103 rfl ?_
                      refine r_iconst C dX6_makeColumns_104 (v := 4) (by decide) ?_
                      refine r_irem C dX6_makeColumns_105 (by decide) ?_
                      refine r_top (y := nI ((c + 4) % 4)) (pk_rem (a := c + 4) (d := 4) (by omega) (by omega) (by omega)) ?_
                      refine r_if_ne C 120 dX6_makeColumns_106 (by decide) (fun c_106 => ?_) (fun c_106 => ?_)
                      · skip
                        have c_106 : ¬ (((c + 4) % 4) = 0) := fun h9 => c_106 ((nI_eq (a := (c + 4) % 4) (b := 0) (by omega) (by omega)).mpr h9)
                        refine r_iload C dX6_makeColumns_120 rfl ?_
                        refine r_istore C dX6_makeColumns_122 (L' := [some (.ref 35), some (.int (nI e)), some (.int (nI (c + 4))), some (.int (nI j)), some (.int (nI (X (4 * (c + 4) - 4 + j))))]) (by decide) rfl ?_
                        refine r_aload_n C dX6_makeColumns_124 rfl ?_
                        refine r_get C dX6_makeColumns_125 fgRX6_138 (Nat.le_of_ble_eq_true rfl) (ws_ne (Nat.ne_of_beq_eq_false rfl) (ws_ne (Nat.ne_of_beq_eq_false rfl) (ws_ne (Nat.ne_of_beq_eq_false rfl) w_35))) rfl ?_
                        refine r_iconst C dX6_makeColumns_128 (v := 4) (by decide) ?_
                        refine r_iload_n C dX6_makeColumns_129 rfl ?_
                        refine r_imul C dX6_makeColumns_130 ?_
                        refine r_top (y := nI (4 * (c + 4))) (pk_mul 4 (c + 4)) ?_
                        refine r_iload_n C dX6_makeColumns_131 rfl ?_
                        refine r_iadd C dX6_makeColumns_132 ?_
                        refine r_top (y := nI ((4 * (c + 4)) + j)) (nI_add (4 * (c + 4)) j) ?_
                        refine r_aload_n C dX6_makeColumns_133 rfl ?_
                        refine r_get C dX6_makeColumns_134 fgRX6_138 (Nat.le_of_ble_eq_true rfl) (ws_ne (Nat.ne_of_beq_eq_false rfl) (ws_ne (Nat.ne_of_beq_eq_false rfl) (ws_ne (Nat.ne_of_beq_eq_false rfl) w_35))) rfl ?_
                        refine r_iconst C dX6_makeColumns_137 (v := 4) (by decide) ?_
                        refine r_iload_n C dX6_makeColumns_138 rfl ?_
                        refine r_imul C dX6_makeColumns_139 ?_
                        refine r_top (y := nI (4 * (c + 4))) (pk_mul 4 (c + 4)) ?_
                        refine r_bipush C dX6_makeColumns_140 (v := 16) (by decide) ?_
                        refine r_isub C dX6_makeColumns_142 ?_
                        refine r_top (y := nI ((4 * (c + 4)) - 16)) (pk_sub (a := 4 * (c + 4)) (b := 16) (by omega)) ?_
                        refine r_iload_n C dX6_makeColumns_143 rfl ?_
                        refine r_iadd C dX6_makeColumns_144 ?_
                        refine r_top (y := nI (((4 * (c + 4)) - 16) + j)) (nI_add ((4 * (c + 4)) - 16) j) ?_
                        refine r_ialdN C dX6_makeColumns_145 (Nat.le_of_ble_eq_true rfl) ws_eq (j := ((4 * (c + 4)) - 16) + j) rfl (by omega) (by decide) ?_
                        refine r_top (y := nI (X (4 * (c + 4) - 16 + j))) (congrArg nI (h3 _ (by omega))) ?_
                        refine r_iload C dX6_makeColumns_146 rfl ?_
                        refine r_ixor C dX6_makeColumns_148 ?_
                        refine r_top (y := nI ((X (4 * (c + 4) - 16 + j)) ^^^ (X (4 * (c + 4) - 4 + j)))) (nx_xor9 (X (4 * (c + 4) - 16 + j)) (X (4 * (c + 4) - 4 + j))) ?_
                        refine r_iastF C dX6_makeColumns_149 (Nat.le_of_ble_eq_true rfl) ws_eq (j := (4 * (c + 4)) + j) (x := (X (4 * (c + 4) - 16 + j)) ^^^ (X (4 * (c + 4) - 4 + j))) rfl rfl (by omega) (by decide) ?_
                        refine r_eq rfl rfl ws_same ?_
                        refine r_iinc C dX6_makeColumns_150 (v := nI (j + 1)) (L' := [some (.ref 35), some (.int (nI e)), some (.int (nI (c + 4))), some (.int (nI (j + 1))), some (.int (nI (X (4 * (c + 4) - 4 + j))))]) rfl (nI_add j 1) (by decide) rfl ?_
                        refine r_goto C 54 dX6_makeColumns_153 (by decide) ?_
                        refine r_forget [some (.ref 35), some (.int (nI e)), some (.int (nI (c + 4))), some (.int (nI (j + 1))), none] ⟨Or.inr rfl, Or.inr rfl, Or.inr rfl, Or.inr rfl, Or.inl rfl, trivial⟩ ?_
                        exact ih_54 (j + 1) _ (by omega) (by omega) (fun m hm => by rw [upn_ne (by omega)]; exact h3 m hm) (exK h4 (exG_n hX (by omega) (by omega)))
                      · skip
                        have c_106 : ((c + 4) % 4) = 0 := (nI_eq (a := (c + 4) % 4) (b := 0) (by omega) (by omega)).mp c_106
                        exact (by first | omega | exact absurd c_106 c_62 | exact absurd c_62 c_106)
                    · skip
                      have c_62 : ((c + 4) % 4) = 0 := (nI_eq (a := (c + 4) % 4) (b := 0) (by omega) (by omega)).mp c_62
                      refine r_aload_n C dX6_makeColumns_65 rfl ?_
                      refine r_get C dX6_makeColumns_66 fgRX6_147 (Nat.le_of_ble_eq_true rfl) (ws_ne (Nat.ne_of_beq_eq_false rfl) (ws_ne (Nat.ne_of_beq_eq_false rfl) (ws_ne (Nat.ne_of_beq_eq_false rfl) w_35))) rfl ?_
                      refine r_aload_n C dX6_makeColumns_69 rfl ?_
                      refine r_get C dX6_makeColumns_70 fgRX6_138 (Nat.le_of_ble_eq_true rfl) (ws_ne (Nat.ne_of_beq_eq_false rfl) (ws_ne (Nat.ne_of_beq_eq_false rfl) (ws_ne (Nat.ne_of_beq_eq_false rfl) w_35))) rfl ?_
                      refine r_iconst C dX6_makeColumns_73 (v := 4) (by decide) ?_
                      refine r_iload_n C dX6_makeColumns_74 rfl ?_
                      refine r_imul C dX6_makeColumns_75 ?_
                      refine r_top (y := nI (4 * (c + 4))) (pk_mul 4 (c + 4)) ?_
                      refine r_iconst C dX6_makeColumns_76 (v := 4) (by decide) ?_
                      refine r_isub C dX6_makeColumns_77 ?_
                      refine r_top (y := nI ((4 * (c + 4)) - 4)) (pk_sub (a := 4 * (c + 4)) (b := 4) (by omega)) ?_
                      refine r_iload_n C dX6_makeColumns_78 rfl ?_
                      refine r_iconst C dX6_makeColumns_79 (v := 1) (by decide) ?_
                      refine r_iadd C dX6_makeColumns_80 ?_
                      refine r_top (y := nI (j + 1)) (nI_add j 1) ?_
                      refine r_iconst C dX6_makeColumns_81 (v := 4) (by decide) ?_
                      refine r_irem C dX6_makeColumns_82 (by decide) ?_
                      refine r_top (y := nI ((j + 1) % 4)) (pk_rem (a := j + 1) (d := 4) (by omega) (by omega) (by omega)) ?_
                      refine r_iadd C dX6_makeColumns_83 ?_
                      refine r_top (y := nI (((4 * (c + 4)) - 4) + ((j + 1) % 4))) (nI_add ((4 * (c + 4)) - 4) ((j + 1) % 4)) ?_
                      refine r_ialdN C dX6_makeColumns_84 (Nat.le_of_ble_eq_true rfl) ws_eq (j := ((4 * (c + 4)) - 4) + ((j + 1) % 4)) rfl (by omega) (by decide) ?_
                      refine r_top (y := nI (X (4 * (c + 4) - 4 + (j + 1) % 4))) (congrArg nI (h3 _ (by omega))) ?_
                      refine r_ialdN C dX6_makeColumns_85 (Nat.le_of_ble_eq_true rfl) (ws_ne (Nat.ne_of_beq_eq_false rfl) (ws_ne (Nat.ne_of_beq_eq_false rfl) ws_eq)) (j := X (4 * (c + 4) - 4 + (j + 1) % 4)) rfl (hX6 _) (by decide) ?_
                      refine r_top (y := nI (sw (X (4 * (c + 4) - 4 + (j + 1) % 4)))) (congrArg nI (hsw _ (hX6 _))) ?_
                      refine r_goto C 101 dX6_makeColumns_86 (by decide) ?_
                      refine r_istore C dX6_makeColumns_101 (L' := [some (.ref 35), some (.int (nI e)), some (.int (nI (c + 4))), some (.int (nI j)), some (.int (nI (sw (X (4 * (c + 4) - 4 + (j + 1) % 4)))))]) (by decide) rfl ?_
                      refine r_iload_n C dX6_makeColumns_103 rfl ?_
                      refine r_iconst C dX6_makeColumns_104 (v := 4) (by decide) ?_
                      refine r_irem C dX6_makeColumns_105 (by decide) ?_
                      refine r_top (y := nI ((c + 4) % 4)) (pk_rem (a := c + 4) (d := 4) (by omega) (by omega) (by omega)) ?_
                      refine r_if_ne C 120 dX6_makeColumns_106 (by decide) (fun c_106 => ?_) (fun c_106 => ?_)
                      · skip
                        have c_106 : ¬ (((c + 4) % 4) = 0) := fun h9 => c_106 ((nI_eq (a := (c + 4) % 4) (b := 0) (by omega) (by omega)).mpr h9)
                        exact (by first | omega | exact absurd c_106 c_62 | exact absurd c_62 c_106)
                      · skip
                        have c_106 : ((c + 4) % 4) = 0 := (nI_eq (a := (c + 4) % 4) (b := 0) (by omega) (by omega)).mp c_106
                        refine r_iload_n C dX6_makeColumns_109 rfl ?_
                        refine r_if_ne C 120 dX6_makeColumns_110 (by decide) (fun c_110 => ?_) (fun c_110 => ?_)
                        · skip
                          have c_110 : ¬ (j = 0) := fun h9 => c_110 ((nI_eq (a := j) (b := 0) (by omega) (by omega)).mpr h9)
                          refine r_iload C dX6_makeColumns_120 rfl ?_
                          refine r_istore C dX6_makeColumns_122 (L' := [some (.ref 35), some (.int (nI e)), some (.int (nI (c + 4))), some (.int (nI j)), some (.int (nI (sw (X (4 * (c + 4) - 4 + (j + 1) % 4)))))]) (by decide) rfl ?_
                          refine r_aload_n C dX6_makeColumns_124 rfl ?_
                          refine r_get C dX6_makeColumns_125 fgRX6_138 (Nat.le_of_ble_eq_true rfl) (ws_ne (Nat.ne_of_beq_eq_false rfl) (ws_ne (Nat.ne_of_beq_eq_false rfl) (ws_ne (Nat.ne_of_beq_eq_false rfl) w_35))) rfl ?_
                          refine r_iconst C dX6_makeColumns_128 (v := 4) (by decide) ?_
                          refine r_iload_n C dX6_makeColumns_129 rfl ?_
                          refine r_imul C dX6_makeColumns_130 ?_
                          refine r_top (y := nI (4 * (c + 4))) (pk_mul 4 (c + 4)) ?_
                          refine r_iload_n C dX6_makeColumns_131 rfl ?_
                          refine r_iadd C dX6_makeColumns_132 ?_
                          refine r_top (y := nI ((4 * (c + 4)) + j)) (nI_add (4 * (c + 4)) j) ?_
                          refine r_aload_n C dX6_makeColumns_133 rfl ?_
                          refine r_get C dX6_makeColumns_134 fgRX6_138 (Nat.le_of_ble_eq_true rfl) (ws_ne (Nat.ne_of_beq_eq_false rfl) (ws_ne (Nat.ne_of_beq_eq_false rfl) (ws_ne (Nat.ne_of_beq_eq_false rfl) w_35))) rfl ?_
                          refine r_iconst C dX6_makeColumns_137 (v := 4) (by decide) ?_
                          refine r_iload_n C dX6_makeColumns_138 rfl ?_
                          refine r_imul C dX6_makeColumns_139 ?_
                          refine r_top (y := nI (4 * (c + 4))) (pk_mul 4 (c + 4)) ?_
                          refine r_bipush C dX6_makeColumns_140 (v := 16) (by decide) ?_
                          refine r_isub C dX6_makeColumns_142 ?_
                          refine r_top (y := nI ((4 * (c + 4)) - 16)) (pk_sub (a := 4 * (c + 4)) (b := 16) (by omega)) ?_
                          refine r_iload_n C dX6_makeColumns_143 rfl ?_
                          refine r_iadd C dX6_makeColumns_144 ?_
                          refine r_top (y := nI (((4 * (c + 4)) - 16) + j)) (nI_add ((4 * (c + 4)) - 16) j) ?_
                          refine r_ialdN C dX6_makeColumns_145 (Nat.le_of_ble_eq_true rfl) ws_eq (j := ((4 * (c + 4)) - 16) + j) rfl (by omega) (by decide) ?_
                          refine r_top (y := nI (X (4 * (c + 4) - 16 + j))) (congrArg nI (h3 _ (by omega))) ?_
                          refine r_iload C dX6_makeColumns_146 rfl ?_
                          refine r_ixor C dX6_makeColumns_148 ?_
                          refine r_top (y := nI ((X (4 * (c + 4) - 16 + j)) ^^^ (sw (X (4 * (c + 4) - 4 + (j + 1) % 4))))) (nx_xor9 (X (4 * (c + 4) - 16 + j)) (sw (X (4 * (c + 4) - 4 + (j + 1) % 4)))) ?_
                          refine r_iastF C dX6_makeColumns_149 (Nat.le_of_ble_eq_true rfl) ws_eq (j := (4 * (c + 4)) + j) (x := (X (4 * (c + 4) - 16 + j)) ^^^ (sw (X (4 * (c + 4) - 4 + (j + 1) % 4)))) rfl rfl (by omega) (by decide) ?_
                          refine r_eq rfl rfl ws_same ?_
                          refine r_iinc C dX6_makeColumns_150 (v := nI (j + 1)) (L' := [some (.ref 35), some (.int (nI e)), some (.int (nI (c + 4))), some (.int (nI (j + 1))), some (.int (nI (sw (X (4 * (c + 4) - 4 + (j + 1) % 4)))))]) rfl (nI_add j 1) (by decide) rfl ?_
                          refine r_goto C 54 dX6_makeColumns_153 (by decide) ?_
                          refine r_forget [some (.ref 35), some (.int (nI e)), some (.int (nI (c + 4))), some (.int (nI (j + 1))), none] ⟨Or.inr rfl, Or.inr rfl, Or.inr rfl, Or.inr rfl, Or.inl rfl, trivial⟩ ?_
                          exact ih_54 (j + 1) _ (by omega) (by omega) (fun m hm => by rw [upn_ne (by omega)]; exact h3 m hm) (exK h4 (exG_j hX (by omega) (by omega) (by omega)))
                        · skip
                          have c_110 : j = 0 := (nI_eq (a := j) (b := 0) (by omega) (by omega)).mp c_110
                          refine r_iload C dX6_makeColumns_113 rfl ?_
                          refine r_iload_n C dX6_makeColumns_115 rfl ?_
                          refine r_ixor C dX6_makeColumns_116 ?_
                          refine r_top (y := nI ((sw (X (4 * (c + 4) - 4 + (j + 1) % 4))) ^^^ e)) (nx_xor9 (sw (X (4 * (c + 4) - 4 + (j + 1) % 4))) e) ?_
                          refine r_goto C 122 dX6_makeColumns_117 (by decide) ?_
                          refine r_istore C dX6_makeColumns_122 (L' := [some (.ref 35), some (.int (nI e)), some (.int (nI (c + 4))), some (.int (nI j)), some (.int (nI ((sw (X (4 * (c + 4) - 4 + (j + 1) % 4))) ^^^ e)))]) (by decide) rfl ?_
                          refine r_aload_n C dX6_makeColumns_124 rfl ?_
                          refine r_get C dX6_makeColumns_125 fgRX6_138 (Nat.le_of_ble_eq_true rfl) (ws_ne (Nat.ne_of_beq_eq_false rfl) (ws_ne (Nat.ne_of_beq_eq_false rfl) (ws_ne (Nat.ne_of_beq_eq_false rfl) w_35))) rfl ?_
                          refine r_iconst C dX6_makeColumns_128 (v := 4) (by decide) ?_
                          refine r_iload_n C dX6_makeColumns_129 rfl ?_
                          refine r_imul C dX6_makeColumns_130 ?_
                          refine r_top (y := nI (4 * (c + 4))) (pk_mul 4 (c + 4)) ?_
                          refine r_iload_n C dX6_makeColumns_131 rfl ?_
                          refine r_iadd C dX6_makeColumns_132 ?_
                          refine r_top (y := nI ((4 * (c + 4)) + j)) (nI_add (4 * (c + 4)) j) ?_
                          refine r_aload_n C dX6_makeColumns_133 rfl ?_
                          refine r_get C dX6_makeColumns_134 fgRX6_138 (Nat.le_of_ble_eq_true rfl) (ws_ne (Nat.ne_of_beq_eq_false rfl) (ws_ne (Nat.ne_of_beq_eq_false rfl) (ws_ne (Nat.ne_of_beq_eq_false rfl) w_35))) rfl ?_
                          refine r_iconst C dX6_makeColumns_137 (v := 4) (by decide) ?_
                          refine r_iload_n C dX6_makeColumns_138 rfl ?_
                          refine r_imul C dX6_makeColumns_139 ?_
                          refine r_top (y := nI (4 * (c + 4))) (pk_mul 4 (c + 4)) ?_
                          refine r_bipush C dX6_makeColumns_140 (v := 16) (by decide) ?_
                          refine r_isub C dX6_makeColumns_142 ?_
                          refine r_top (y := nI ((4 * (c + 4)) - 16)) (pk_sub (a := 4 * (c + 4)) (b := 16) (by omega)) ?_
                          refine r_iload_n C dX6_makeColumns_143 rfl ?_
                          refine r_iadd C dX6_makeColumns_144 ?_
                          refine r_top (y := nI (((4 * (c + 4)) - 16) + j)) (nI_add ((4 * (c + 4)) - 16) j) ?_
                          refine r_ialdN C dX6_makeColumns_145 (Nat.le_of_ble_eq_true rfl) ws_eq (j := ((4 * (c + 4)) - 16) + j) rfl (by omega) (by decide) ?_
                          refine r_top (y := nI (X (4 * (c + 4) - 16 + j))) (congrArg nI (h3 _ (by omega))) ?_
                          refine r_iload C dX6_makeColumns_146 rfl ?_
                          refine r_ixor C dX6_makeColumns_148 ?_
                          refine r_top (y := nI ((X (4 * (c + 4) - 16 + j)) ^^^ ((sw (X (4 * (c + 4) - 4 + (j + 1) % 4))) ^^^ e))) (nx_xor9 (X (4 * (c + 4) - 16 + j)) ((sw (X (4 * (c + 4) - 4 + (j + 1) % 4))) ^^^ e)) ?_
                          refine r_iastF C dX6_makeColumns_149 (Nat.le_of_ble_eq_true rfl) ws_eq (j := (4 * (c + 4)) + j) (x := (X (4 * (c + 4) - 16 + j)) ^^^ ((sw (X (4 * (c + 4) - 4 + (j + 1) % 4))) ^^^ e)) rfl rfl (by omega) (by decide) ?_
                          refine r_eq rfl rfl ws_same ?_
                          refine r_iinc C dX6_makeColumns_150 (v := nI (j + 1)) (L' := [some (.ref 35), some (.int (nI e)), some (.int (nI (c + 4))), some (.int (nI (j + 1))), some (.int (nI ((sw (X (4 * (c + 4) - 4 + (j + 1) % 4))) ^^^ e)))]) rfl (nI_add j 1) (by decide) rfl ?_
                          refine r_goto C 54 dX6_makeColumns_153 (by decide) ?_
                          refine r_forget [some (.ref 35), some (.int (nI e)), some (.int (nI (c + 4))), some (.int (nI (j + 1))), none] ⟨Or.inr rfl, Or.inr rfl, Or.inr rfl, Or.inr rfl, Or.inl rfl, trivial⟩ ?_
                          exact ih_54 (j + 1) _ (by omega) (by omega) (fun m hm => by rw [upn_ne (by omega)]; exact h3 m hm) (exK h4 (exG_0 hX he (by omega) c_110))
              exact loop_54 _ 0 K1 (Nat.lt_succ_self _) (by omega) h2 (fun m h8 h9 => absurd h8 (by omega))
        exact loop_46 _ 0 1 _ K1 (Nat.lt_succ_self _) (by omega) rfl rfl (fun k hk => h1 k (by omega))
      · skip
        have c_9 : ¬ (16 ≤ i) := fun h9 => c_9 ((nI_leI (a := 16) (b := i) (by omega) (by omega)).mpr h9)
        refine r_aload_n C dX6_makeColumns_12 rfl ?_
        refine r_get C dX6_makeColumns_13 fgRX6_138 (Nat.le_of_ble_eq_true rfl) (ws_ne (Nat.ne_of_beq_eq_false rfl) (ws_ne (Nat.ne_of_beq_eq_false rfl) (ws_ne (Nat.ne_of_beq_eq_false rfl) w_35))) rfl ?_
        refine r_iload_n C dX6_makeColumns_16 rfl ?_
        refine r_iload_n C dX6_makeColumns_17 rfl ?_
        refine r_aload_n C dX6_makeColumns_18 rfl ?_
        refine r_get C dX6_makeColumns_19 fgRX6_188 (Nat.le_of_ble_eq_true rfl) (ws_ne (Nat.ne_of_beq_eq_false rfl) (ws_ne (Nat.ne_of_beq_eq_false rfl) (ws_ne (Nat.ne_of_beq_eq_false rfl) w_35))) rfl ?_
        refine r_icmp_ge C 34 dX6_makeColumns_22 (by decide) (fun c_22 => ?_) (fun c_22 => ?_)
        · skip
          have c_22 : hl.length ≤ i := (nI_leI (a := hl.length) (b := i) (by omega) (by omega)).mp c_22
          refine r_iconst C dX6_makeColumns_34 (v := 0) (by decide) ?_
          refine r_iastF C dX6_makeColumns_35 (Nat.le_of_ble_eq_true rfl) ws_eq (j := i) (x := 0) rfl rfl (by omega) (by decide) ?_
          refine r_eq rfl rfl ws_same ?_
          refine r_iinc C dX6_makeColumns_36 (v := nI (i + 1)) (L' := [some (.ref 35), some (.int (nI (i + 1))), none, none, none]) rfl (nI_add i 1) (by decide) rfl ?_
          refine r_goto C 6 dX6_makeColumns_39 (by decide) ?_
          exact ih_6 (i + 1) _ (by omega) (by omega) (upn_lt (G := fun k => hl.getD k 0) h1 (gd_ge (by omega)).symm)
        · skip
          have c_22 : ¬ (hl.length ≤ i) := fun h9 => c_22 ((nI_leI (a := hl.length) (b := i) (by omega) (by omega)).mpr h9)
          refine r_aload_n C dX6_makeColumns_25 rfl ?_
          refine r_get C dX6_makeColumns_26 fgRX6_126 (Nat.le_of_ble_eq_true rfl) (ws_ne (Nat.ne_of_beq_eq_false rfl) (ws_ne (Nat.ne_of_beq_eq_false rfl) (ws_ne (Nat.ne_of_beq_eq_false rfl) w_35))) rfl ?_
          refine r_iload_n C dX6_makeColumns_29 rfl ?_
          refine r_ialdN C dX6_makeColumns_30 (Nat.le_of_ble_eq_true rfl) (ws_ne (Nat.ne_of_beq_eq_false rfl) (ws_ne (Nat.ne_of_beq_eq_false rfl) (ws_ne (Nat.ne_of_beq_eq_false rfl) w_50))) (j := i) rfl (by omega) (by decide) ?_
          refine r_top (y := nI (hl.getD i 0)) (h_hl i (by omega)) ?_
          refine r_goto C 35 dX6_makeColumns_31 (by decide) ?_
          refine r_iastF C dX6_makeColumns_35 (Nat.le_of_ble_eq_true rfl) ws_eq (j := i) (x := hl.getD i 0) rfl rfl (by omega) (by decide) ?_
          refine r_eq rfl rfl ws_same ?_
          refine r_iinc C dX6_makeColumns_36 (v := nI (i + 1)) (L' := [some (.ref 35), some (.int (nI (i + 1))), none, none, none]) rfl (nI_add i 1) (by decide) rfl ?_
          refine r_goto C 6 dX6_makeColumns_39 (by decide) ?_
          exact ih_6 (i + 1) _ (by omega) (by omega) (upn_lt (G := fun k => hl.getD k 0) h1 rfl)
  refine r_eq rfl rfl (ws_self (ws_ne (Nat.ne_of_beq_eq_false rfl) (ws_ne (Nat.ne_of_beq_eq_false rfl) w_54))).symm ?_
  exact loop_6 _ 0 K (Nat.lt_succ_self _) (by omega) (fun k hk => absurd hk (Nat.not_lt_zero k))
set_option maxHeartbeats 4000000 in
set_option maxRecDepth 100000 in
theorem cX6_undoAt9 {w : Wo} {xs : List Nat} {fx : Nat → Int32} {fa rz rv ln pm lo ns os uz ik ms hsz : Int32} (w_35 : w 35 = mo fa (nI xs.length) rz rv ln pm lo ns os uz ik ms hsz) (w_36 : w 36 = ia 16384 fx) (h_xs : hs fx xs) (k_xs : xs.length ≤ 16384) (bx : byt xs) {B K KK BK : Nat → Nat} (w_55 : w 55 = ia 16 (nf B)) (w_54 : w 54 = ia 176 (nf K)) {fot : Nat → Int32} (w_56 : w 56 = ia 16 fot) (w_58 : w 58 = ia 256 (nf BK)) (hbk : ∀ x, x < 256 → BK x = bk x) (hK : ∀ k, k < 176 → K k = KK k) (hKK : ∀ k, k < 176 → KK k < 256) {q0 : Nat} (hq : 16 ≤ q0) (hq2 : q0 + 16 ≤ xs.length) : Ctr mX6_undoAt [.ref 35, .int (nI q0)] w (PV fun w' => ∃ B' fo', w' = wset (wset w 55 (ia 16 (nf B'))) 56 (ia 16 fo') ∧ ∀ k, k < 16 → B' k = unB KK xs q0 k) := by
  refine Ctr_intro okX6_undoAt rfl (Nat.le_of_ble_eq_true rfl) (L := [some (.ref 35), some (.int (nI q0)), none]) rfl (fun g ct C T_ => ?_)
  refine r_iconst C dX6_undoAt_0 (v := 0) (by decide) ?_
  refine r_istore_n C dX6_undoAt_1 (L' := [some (.ref 35), some (.int (nI q0)), some (.int 0)]) (by decide) rfl ?_
  have loop_2 : ∀ (d9 : Nat) (k : Nat) (B1 : Nat → Nat), 16 - k < d9 → k ≤ 16 → (∀ m, m < k → B1 m = xs.getD (q0 + m) 0) → Az g mX6_undoAt ct 0 0 2 [some (.ref 35), some (.int (nI q0)), some (.int (nI k))] [] (wset w 55 (ia 16 (nf B1))) := by
    intro d9
    induction d9 with
    | zero => intro k B1 hd9; exact absurd hd9 (Nat.not_lt_zero _)
    | succ d9 ih_2 =>
      intro k B1 hd9 hk h1
      refine r_iload_n C dX6_undoAt_2 rfl ?_
      refine r_bipush C dX6_undoAt_3 (v := 16) (by decide) ?_
      refine r_icmp_ge C 28 dX6_undoAt_5 (by decide) (fun c_5 => ?_) (fun c_5 => ?_)
      · skip
        have c_5 : 16 ≤ k := (nI_leI (a := 16) (b := k) (by omega) (by omega)).mp c_5
        refine r_aload_n C dX6_undoAt_28 rfl ?_
        refine r_callVv C (As := []) (rest := []) dX6_undoAt_29 (cX6_undoBlock9 (ws_ne (Nat.ne_of_beq_eq_false rfl) w_35) (B := B1) ws_eq (ws_ne (Nat.ne_of_beq_eq_false rfl) w_54) (ws_ne (Nat.ne_of_beq_eq_false rfl) w_56) (ws_ne (Nat.ne_of_beq_eq_false rfl) w_58) hbk (fun m hm => by rw [h1 m (by omega)]; exact byt_getD bx _) hK hKK) okX6_undoBlock mlRX6_275 imX6_undoBlock seX6_undoBlock ⟨by decide, by decide⟩ rfl rfl (Nat.le_of_ble_eq_true rfl) (ws_ne (Nat.ne_of_beq_eq_false rfl) w_35) rfl rfl (Nat.le_of_ble_eq_true rfl) (by decide) (by decide) (fun w9 h9 => ?_)
        obtain ⟨fo_1, rfl⟩ := h9
        refine r_eq rfl rfl (congrArg (fun z => wset (z) 56 (ia 16 fo_1)) ws_same) ?_
        refine r_iconst C dX6_undoAt_32 (v := 0) (by decide) ?_
        refine r_istore_n C dX6_undoAt_33 (L' := [some (.ref 35), some (.int (nI q0)), some (.int 0)]) (by decide) rfl ?_
        have loop_34 : ∀ (d9 : Nat) (k2 : Nat) (B3 : Nat → Nat), 16 - k2 < d9 → k2 ≤ 16 → (∀ m, m < k2 → B3 m = umB KK B1 m ^^^ xs.getD (q0 - 16 + m) 0) → (∀ m, k2 ≤ m → B3 m = umB KK B1 m) → Az g mX6_undoAt ct 0 0 34 [some (.ref 35), some (.int (nI q0)), some (.int (nI k2))] [] (wset (wset w 55 (ia 16 (nf B3))) 56 (ia 16 fo_1)) := by
          intro d9
          induction d9 with
          | zero => intro k2 B3 hd9; exact absurd hd9 (Nat.not_lt_zero _)
          | succ d9 ih_34 =>
            intro k2 B3 hd9 hk2 h2 h3
            refine r_iload_n C dX6_undoAt_34 rfl ?_
            refine r_bipush C dX6_undoAt_35 (v := 16) (by decide) ?_
            refine r_icmp_ge C 70 dX6_undoAt_37 (by decide) (fun c_37 => ?_) (fun c_37 => ?_)
            · skip
              have c_37 : 16 ≤ k2 := (nI_leI (a := 16) (b := k2) (by omega) (by omega)).mp c_37
              exact r_return C T_ rfl dX6_undoAt_70 (⟨rfl, _, _, rfl, fun m hm => by rw [h2 m (by omega)]; unfold unB; rw [umB_cg (fun j hj => h1 j (by omega)) m hm]⟩)
            · skip
              have c_37 : ¬ (16 ≤ k2) := fun h9 => c_37 ((nI_leI (a := 16) (b := k2) (by omega) (by omega)).mpr h9)
              refine r_aload_n C dX6_undoAt_40 rfl ?_
              refine r_get C dX6_undoAt_41 fgRX6_141 (Nat.le_of_ble_eq_true rfl) (ws_ne (Nat.ne_of_beq_eq_false rfl) (ws_ne (Nat.ne_of_beq_eq_false rfl) w_35)) rfl ?_
              refine r_iload_n C dX6_undoAt_44 rfl ?_
              refine r_aload_n C dX6_undoAt_45 rfl ?_
              refine r_get C dX6_undoAt_46 fgRX6_141 (Nat.le_of_ble_eq_true rfl) (ws_ne (Nat.ne_of_beq_eq_false rfl) (ws_ne (Nat.ne_of_beq_eq_false rfl) w_35)) rfl ?_
              refine r_iload_n C dX6_undoAt_49 rfl ?_
              refine r_ialdN C dX6_undoAt_50 (Nat.le_of_ble_eq_true rfl) (ws_ne (Nat.ne_of_beq_eq_false rfl) ws_eq) (j := k2) rfl (by omega) (by decide) ?_
              refine r_top (y := nI (umB KK B1 k2)) (congrArg nI (h3 k2 (Nat.le_refl _))) ?_
              refine r_aload_n C dX6_undoAt_51 rfl ?_
              refine r_get C dX6_undoAt_52 fgRX6_7 (Nat.le_of_ble_eq_true rfl) (ws_ne (Nat.ne_of_beq_eq_false rfl) (ws_ne (Nat.ne_of_beq_eq_false rfl) w_35)) rfl ?_
              refine r_iload_n C dX6_undoAt_55 rfl ?_
              refine r_bipush C dX6_undoAt_56 (v := 16) (by decide) ?_
              refine r_isub C dX6_undoAt_58 ?_
              refine r_top (y := nI (q0 - 16)) (pk_sub (a := q0) (b := 16) (by omega)) ?_
              refine r_iload_n C dX6_undoAt_59 rfl ?_
              refine r_iadd C dX6_undoAt_60 ?_
              refine r_top (y := nI ((q0 - 16) + k2)) (nI_add (q0 - 16) k2) ?_
              refine r_ialdN C dX6_undoAt_61 (Nat.le_of_ble_eq_true rfl) (ws_ne (Nat.ne_of_beq_eq_false rfl) (ws_ne (Nat.ne_of_beq_eq_false rfl) w_36)) (j := (q0 - 16) + k2) rfl (by omega) (by decide) ?_
              refine r_top (y := nI (xs.getD (q0 - 16 + k2) 0)) (h_xs _ (by omega)) ?_
              refine r_ixor C dX6_undoAt_62 ?_
              refine r_top (y := nI ((umB KK B1 k2) ^^^ (xs.getD (q0 - 16 + k2) 0))) (nx_xor9 (umB KK B1 k2) (xs.getD (q0 - 16 + k2) 0)) ?_
              refine r_iastF C dX6_undoAt_63 (Nat.le_of_ble_eq_true rfl) (ws_ne (Nat.ne_of_beq_eq_false rfl) ws_eq) (j := k2) (x := (umB KK B1 k2) ^^^ (xs.getD (q0 - 16 + k2) 0)) rfl rfl (by omega) (by decide) ?_
              refine r_eq rfl rfl ((ws_comm (Nat.ne_of_beq_eq_false rfl)).trans (congrArg (fun z => wset z 56 (ia 16 fo_1)) ws_same)) ?_
              refine r_iinc C dX6_undoAt_64 (v := nI (k2 + 1)) (L' := [some (.ref 35), some (.int (nI q0)), some (.int (nI (k2 + 1)))]) rfl (nI_add k2 1) (by decide) rfl ?_
              refine r_goto C 34 dX6_undoAt_67 (by decide) ?_
              exact ih_34 (k2 + 1) _ (by omega) (by omega) (upn_lt (G := fun m => umB KK B1 m ^^^ xs.getD (q0 - 16 + m) 0) h2 rfl) (upn_ge h3)
        exact loop_34 _ 0 _ (Nat.lt_succ_self _) (by omega) (fun m hm => absurd hm (Nat.not_lt_zero m)) (fun m hm => rfl)
      · skip
        have c_5 : ¬ (16 ≤ k) := fun h9 => c_5 ((nI_leI (a := 16) (b := k) (by omega) (by omega)).mpr h9)
        refine r_aload_n C dX6_undoAt_8 rfl ?_
        refine r_get C dX6_undoAt_9 fgRX6_141 (Nat.le_of_ble_eq_true rfl) (ws_ne (Nat.ne_of_beq_eq_false rfl) w_35) rfl ?_
        refine r_iload_n C dX6_undoAt_12 rfl ?_
        refine r_aload_n C dX6_undoAt_13 rfl ?_
        refine r_get C dX6_undoAt_14 fgRX6_7 (Nat.le_of_ble_eq_true rfl) (ws_ne (Nat.ne_of_beq_eq_false rfl) w_35) rfl ?_
        refine r_iload_n C dX6_undoAt_17 rfl ?_
        refine r_iload_n C dX6_undoAt_18 rfl ?_
        refine r_iadd C dX6_undoAt_19 ?_
        refine r_top (y := nI (q0 + k)) (nI_add q0 k) ?_
        refine r_ialdN C dX6_undoAt_20 (Nat.le_of_ble_eq_true rfl) (ws_ne (Nat.ne_of_beq_eq_false rfl) w_36) (j := q0 + k) rfl (by omega) (by decide) ?_
        refine r_top (y := nI (xs.getD (q0 + k) 0)) (h_xs _ (by omega)) ?_
        refine r_iastF C dX6_undoAt_21 (Nat.le_of_ble_eq_true rfl) ws_eq (j := k) (x := xs.getD (q0 + k) 0) rfl rfl (by omega) (by decide) ?_
        refine r_eq rfl rfl ws_same ?_
        refine r_iinc C dX6_undoAt_22 (v := nI (k + 1)) (L' := [some (.ref 35), some (.int (nI q0)), some (.int (nI (k + 1)))]) rfl (nI_add k 1) (by decide) rfl ?_
        refine r_goto C 2 dX6_undoAt_25 (by decide) ?_
        exact ih_2 (k + 1) _ (by omega) (by omega) (upn_lt (G := fun m => xs.getD (q0 + m) 0) h1 rfl)
  refine r_eq rfl rfl (ws_self w_55).symm ?_
  exact loop_2 _ 0 _ (Nat.lt_succ_self _) (by omega) (fun m hm => absurd hm (Nat.not_lt_zero m))
set_option maxHeartbeats 4000000 in
set_option maxRecDepth 100000 in
theorem cX6_filling9 {w : Wo} {xs : List Nat} {fx : Nat → Int32} {fa rz rv ln pm lo ns os uz ik ms hsz : Int32} (w_35 : w 35 = mo fa (nI xs.length) rz rv ln pm lo ns os uz ik ms hsz) (w_36 : w 36 = ia 16384 fx) (h_xs : hs fx xs) (k_xs : xs.length ≤ 16384) (bx : byt xs) {B K KK BK : Nat → Nat} (w_55 : w 55 = ia 16 (nf B)) (w_54 : w 54 = ia 176 (nf K)) {fot : Nat → Int32} (w_56 : w 56 = ia 16 fot) (w_58 : w 58 = ia 256 (nf BK)) (hbk : ∀ x, x < 256 → BK x = bk x) (hK : ∀ k, k < 176 → K k = KK k) (hKK : ∀ k, k < 176 → KK k < 256) (hq2 : 32 ≤ xs.length) : Ctr mX6_filling [.ref 35] w (PI fun r w' => (∃ B' fo', w' = wset (wset w 55 (ia 16 (nf B'))) 56 (ia 16 fo') ∧ ∀ k, k < 16 → B' k = unB KK xs (xs.length - 16) k) ∧ r = nI (filB (unB KK xs (xs.length - 16)))) := by
  refine Ctr_intro okX6_filling rfl (Nat.le_of_ble_eq_true rfl) (L := [some (.ref 35), none, none, none]) rfl (fun g ct C T_ => ?_)
  refine r_aload_n C dX6_filling_0 rfl ?_
  refine r_aload_n C dX6_filling_1 rfl ?_
  refine r_get C dX6_filling_2 fgRX6_156 (Nat.le_of_ble_eq_true rfl) w_35 rfl ?_
  refine r_bipush C dX6_filling_5 (v := 16) (by decide) ?_
  refine r_isub C dX6_filling_7 ?_
  refine r_top (y := nI (xs.length - 16)) (pk_sub (a := xs.length) (b := 16) (by omega)) ?_
  refine r_callVv C (As := [.int (nI (xs.length - 16))]) (rest := []) dX6_filling_8 (cX6_undoAt9 w_35 w_36 h_xs k_xs bx w_55 w_54 w_56 w_58 hbk hK hKK (q0 := xs.length - 16) (by omega) (by omega)) okX6_undoAt mlRX6_272 imX6_undoAt seX6_undoAt ⟨by decide, by decide⟩ rfl rfl (Nat.le_of_ble_eq_true rfl) w_35 rfl rfl (Nat.le_of_ble_eq_true rfl) (by decide) (by decide) (fun w9 h9 => ?_)
  obtain ⟨B_1, fo_2, rfl, h_3⟩ := h9
  refine r_aload_n C dX6_filling_11 rfl ?_
  have hb6 : ∀ k, k < 16 → B_1 k < 256 := fun k hk => by rw [h_3 k hk]; exact b16_unB hKK bx _ k hk
  have hb15 := hb6 15 (by decide)
  refine r_get C dX6_filling_12 fgRX6_141 (Nat.le_of_ble_eq_true rfl) (ws_ne (Nat.ne_of_beq_eq_false rfl) (ws_ne (Nat.ne_of_beq_eq_false rfl) w_35)) rfl ?_
  refine r_bipush C dX6_filling_15 (v := 15) (by decide) ?_
  refine r_ialdN C dX6_filling_17 (Nat.le_of_ble_eq_true rfl) (ws_ne (Nat.ne_of_beq_eq_false rfl) ws_eq) (j := 15) rfl (by omega) (by decide) ?_
  refine r_top (y := nI (B_1 15)) (nf_at B_1 15) ?_
  refine r_istore_n C dX6_filling_18 (L' := [some (.ref 35), some (.int (nI (B_1 15))), none, none]) (by decide) rfl ?_
  refine r_iload_n C dX6_filling_19 rfl ?_
  refine r_iconst C dX6_filling_20 (v := 1) (by decide) ?_
  refine r_icmp_lt C 34 dX6_filling_21 (by decide) (fun c_21 => ?_) (fun c_21 => ?_)
  · skip
    have c_21 : (B_1 15) < 1 := (nI_ltI (a := B_1 15) (b := 1) (by omega) (by omega)).mp c_21
    refine r_iconst C dX6_filling_34 (v := 0) (by decide) ?_
    refine r_istore_n C dX6_filling_35 (L' := [some (.ref 35), some (.int (nI (B_1 15))), some (.int 0), none]) (by decide) rfl ?_
    refine r_bipush C dX6_filling_36 (v := 16) (by decide) ?_
    refine r_iload_n C dX6_filling_38 rfl ?_
    refine r_isub C dX6_filling_39 ?_
    refine r_istore_n C dX6_filling_40 (L' := [some (.ref 35), some (.int (nI (B_1 15))), some (.int 0), some (.int (16 - (nI (B_1 15))))]) (by decide) rfl ?_
    refine r_iload_n C dX6_filling_41 rfl ?_
    refine r_if_eq C 73 dX6_filling_42 (by decide) (fun c_42 => ?_) (fun c_42 => ?_)
    · skip
      refine r_iload_n C dX6_filling_73 rfl ?_
      refine r_if_eq C 81 dX6_filling_74 (by decide) (fun c_74 => ?_) (fun c_74 => ?_)
      · skip
        refine r_iconst C dX6_filling_81 (v := 0) (by decide) ?_
        exact r_ireturn C T_ rfl rfl dX6_filling_82 (⟨_, rfl, ⟨_, _, rfl, h_3⟩, by rw [(filB_cg h_3).symm, show filB B_1 = 0 from by unfold filB; rw [if_neg (by omega)]]; rfl⟩)
      · skip
        exact absurd c_74 (by decide)
    · skip
      exact absurd c_42 (by decide)
  · skip
    have c_21 : ¬ ((B_1 15) < 1) := fun h9 => c_21 ((nI_ltI (a := B_1 15) (b := 1) (by omega) (by omega)).mpr h9)
    refine r_iload_n C dX6_filling_24 rfl ?_
    refine r_bipush C dX6_filling_25 (v := 16) (by decide) ?_
    refine r_icmp_gt C 34 dX6_filling_27 (by decide) (fun c_27 => ?_) (fun c_27 => ?_)
    · skip
      have c_27 : 16 < (B_1 15) := (nI_ltI (a := 16) (b := B_1 15) (by omega) (by omega)).mp c_27
      refine r_iconst C dX6_filling_34 (v := 0) (by decide) ?_
      refine r_istore_n C dX6_filling_35 (L' := [some (.ref 35), some (.int (nI (B_1 15))), some (.int 0), none]) (by decide) rfl ?_
      refine r_bipush C dX6_filling_36 (v := 16) (by decide) ?_
      refine r_iload_n C dX6_filling_38 rfl ?_
      refine r_isub C dX6_filling_39 ?_
      refine r_istore_n C dX6_filling_40 (L' := [some (.ref 35), some (.int (nI (B_1 15))), some (.int 0), some (.int (16 - (nI (B_1 15))))]) (by decide) rfl ?_
      refine r_iload_n C dX6_filling_41 rfl ?_
      refine r_if_eq C 73 dX6_filling_42 (by decide) (fun c_42 => ?_) (fun c_42 => ?_)
      · skip
        refine r_iload_n C dX6_filling_73 rfl ?_
        refine r_if_eq C 81 dX6_filling_74 (by decide) (fun c_74 => ?_) (fun c_74 => ?_)
        · skip
          refine r_iconst C dX6_filling_81 (v := 0) (by decide) ?_
          exact r_ireturn C T_ rfl rfl dX6_filling_82 (⟨_, rfl, ⟨_, _, rfl, h_3⟩, by rw [(filB_cg h_3).symm, show filB B_1 = 0 from by unfold filB; rw [if_neg (by omega)]]; rfl⟩)
        · skip
          exact absurd c_74 (by decide)
      · skip
        exact absurd c_42 (by decide)
    · skip
      have c_27 : ¬ (16 < (B_1 15)) := fun h9 => c_27 ((nI_ltI (a := 16) (b := B_1 15) (by omega) (by omega)).mpr h9)
      refine r_iconst C dX6_filling_30 (v := 1) (by decide) ?_
      refine r_goto C 35 dX6_filling_31 (by decide) ?_
      refine r_istore_n C dX6_filling_35 (L' := [some (.ref 35), some (.int (nI (B_1 15))), some (.int 1), none]) (by decide) rfl ?_
      refine r_bipush C dX6_filling_36 (v := 16) (by decide) ?_
      refine r_iload_n C dX6_filling_38 rfl ?_
      refine r_isub C dX6_filling_39 ?_
      refine r_top (y := nI (16 - B_1 15)) (pk_sub (a := 16) (b := B_1 15) (by omega)) ?_
      refine r_istore_n C dX6_filling_40 (L' := [some (.ref 35), some (.int (nI (B_1 15))), some (.int 1), some (.int (nI (16 - B_1 15)))]) (by decide) rfl ?_
      have loop_41 : ∀ (d9 : Nat) (k : Nat) (g9 : Int32), 16 - k < d9 → 16 - B_1 15 ≤ k → k ≤ 16 → ((g9 = 1 ∧ ∀ m, 16 - B_1 15 ≤ m → m < k → B_1 m = B_1 15) ∨ (g9 = 0 ∧ ∃ m, 16 - B_1 15 ≤ m ∧ m < 16 ∧ ¬ B_1 m = B_1 15)) → Az g mX6_filling ct 0 0 41 [some (.ref 35), some (.int (nI (B_1 15))), some (.int g9), some (.int (nI k))] [] (wset (wset w 55 (ia 16 (nf B_1))) 56 (ia 16 fo_2)) := by
        intro d9
        induction d9 with
        | zero => intro k g9 hd9; exact absurd hd9 (Nat.not_lt_zero _)
        | succ d9 ih_41 =>
          intro k g9 hd9 hk hk2 hg
          refine r_iload_n C dX6_filling_41 rfl ?_
          refine r_if_eq C 73 dX6_filling_42 (by decide) (fun c_42 => ?_) (fun c_42 => ?_)
          · skip
            refine r_iload_n C dX6_filling_73 rfl ?_
            refine r_if_eq C 81 dX6_filling_74 (by decide) (fun c_74 => ?_) (fun c_74 => ?_)
            · skip
              refine r_iconst C dX6_filling_81 (v := 0) (by decide) ?_
              exact r_ireturn C T_ rfl rfl dX6_filling_82 (⟨_, rfl, ⟨_, _, rfl, h_3⟩, by rw [(filB_cg h_3).symm, show filB B_1 = 0 from by unfold filB; rw [if_neg (fun z => absurd (z.2.2 _ (hg.resolve_left (fun y => absurd (y.1.symm.trans c_42) (by decide))).2.choose_spec.2.1 (hg.resolve_left (fun y => absurd (y.1.symm.trans c_42) (by decide))).2.choose_spec.1) (hg.resolve_left (fun y => absurd (y.1.symm.trans c_42) (by decide))).2.choose_spec.2.2)]]; rfl⟩)
            · skip
              exact (by first | omega | exact absurd c_74 c_42 | exact absurd c_42 c_74)
          · skip
            refine r_iload_n C dX6_filling_45 rfl ?_
            refine r_bipush C dX6_filling_46 (v := 16) (by decide) ?_
            refine r_icmp_ge C 73 dX6_filling_48 (by decide) (fun c_48 => ?_) (fun c_48 => ?_)
            · skip
              have c_48 : 16 ≤ k := (nI_leI (a := 16) (b := k) (by omega) (by omega)).mp c_48
              refine r_iload_n C dX6_filling_73 rfl ?_
              refine r_if_eq C 81 dX6_filling_74 (by decide) (fun c_74 => ?_) (fun c_74 => ?_)
              · skip
                exact (by first | omega | exact absurd c_74 c_42 | exact absurd c_42 c_74)
              · skip
                refine r_iload_n C dX6_filling_77 rfl ?_
                refine r_goto C 82 dX6_filling_78 (by decide) ?_
                exact r_ireturn C T_ rfl rfl dX6_filling_82 (⟨_, rfl, ⟨_, _, rfl, h_3⟩, by rw [(filB_cg h_3).symm, show filB B_1 = B_1 15 from by unfold filB; rw [if_pos ⟨by omega, by omega, fun m h1 h2 => (hg.resolve_right (fun z => c_74 z.1)).2 m h2 (by omega)⟩]]⟩)
            · skip
              have c_48 : ¬ (16 ≤ k) := fun h9 => c_48 ((nI_leI (a := 16) (b := k) (by omega) (by omega)).mpr h9)
              refine r_aload_n C dX6_filling_51 rfl ?_
              refine r_get C dX6_filling_52 fgRX6_141 (Nat.le_of_ble_eq_true rfl) (ws_ne (Nat.ne_of_beq_eq_false rfl) (ws_ne (Nat.ne_of_beq_eq_false rfl) w_35)) rfl ?_
              refine r_iload_n C dX6_filling_55 rfl ?_
              refine r_ialdN C dX6_filling_56 (Nat.le_of_ble_eq_true rfl) (ws_ne (Nat.ne_of_beq_eq_false rfl) ws_eq) (j := k) rfl (by omega) (by decide) ?_
              refine r_top (y := nI (B_1 k)) (nf_at B_1 k) ?_
              have hbk9 := hb6 k (by omega)
              refine r_iload_n C dX6_filling_57 rfl ?_
              refine r_icmp_ne C 65 dX6_filling_58 (by decide) (fun c_58 => ?_) (fun c_58 => ?_)
              · skip
                have c_58 : ¬ ((B_1 k) = (B_1 15)) := fun h9 => c_58 ((nI_eq (a := B_1 k) (b := B_1 15) (by omega) (by omega)).mpr h9)
                refine r_iconst C dX6_filling_65 (v := 0) (by decide) ?_
                refine r_istore_n C dX6_filling_66 (L' := [some (.ref 35), some (.int (nI (B_1 15))), some (.int 0), some (.int (nI k))]) (by decide) rfl ?_
                refine r_iinc C dX6_filling_67 (v := nI (k + 1)) (L' := [some (.ref 35), some (.int (nI (B_1 15))), some (.int 0), some (.int (nI (k + 1)))]) rfl (nI_add k 1) (by decide) rfl ?_
                refine r_goto C 41 dX6_filling_70 (by decide) ?_
                exact ih_41 (k + 1) 0 (by omega) (by omega) (by omega) (Or.inr ⟨rfl, k, hk, by omega, c_58⟩)
              · skip
                have c_58 : (B_1 k) = (B_1 15) := (nI_eq (a := B_1 k) (b := B_1 15) (by omega) (by omega)).mp c_58
                refine r_iconst C dX6_filling_61 (v := 1) (by decide) ?_
                refine r_goto C 66 dX6_filling_62 (by decide) ?_
                refine r_istore_n C dX6_filling_66 (L' := [some (.ref 35), some (.int (nI (B_1 15))), some (.int 1), some (.int (nI k))]) (by decide) rfl ?_
                refine r_iinc C dX6_filling_67 (v := nI (k + 1)) (L' := [some (.ref 35), some (.int (nI (B_1 15))), some (.int 1), some (.int (nI (k + 1)))]) rfl (nI_add k 1) (by decide) rfl ?_
                refine r_goto C 41 dX6_filling_70 (by decide) ?_
                exact ih_41 (k + 1) 1 (by omega) (by omega) (by omega) (Or.inl ⟨rfl, fun m a1 a2 => if e9 : m = k then by rw [e9]; exact c_58 else (hg.resolve_right (fun z => c_42 z.1)).2 m a1 (by omega)⟩)
      exact loop_41 _ (16 - B_1 15) 1 (Nat.lt_succ_self _) (Nat.le_refl _) (by omega) (Or.inl ⟨rfl, fun m h1 h2 => absurd h1 (by omega)⟩)
