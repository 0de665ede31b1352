set_option maxHeartbeats 4000000 in
set_option maxRecDepth 100000 in
theorem cX2_endedByte9 {w : Wo} {a b : Nat} (l_a : a < NW) (l_b : b < NW) (n_a_b : a ≠ b) {n : Nat} {f : Nat → Int32} {xs : List Nat} (w_a : w a = ob 3 [.ref b, .int (nI xs.length)]) (w_b : w b = ia n f) (h_xs : hs f xs) (k_xs : xs.length ≤ n) (hn : n < 2 ^ 31) {k : Nat} (hk : k < 2 ^ 31) : Ctr mX2_endedByte [.ref a, .int (nI k)] w (PI fun r w' => w' = w ∧ r = nI (endB xs k)) := by
  refine Ctr_intro okX2_endedByte rfl (Nat.le_of_ble_eq_true rfl) (L := [some (.ref a), some (.int (nI k))]) rfl (fun g ct C T_ => ?_)
  refine r_iload_n C dX2_endedByte_0 rfl ?_
  refine r_if_lt C 19 dX2_endedByte_1 (by decide) (fun c_1 => ?_) (fun c_1 => ?_)
  · skip
    exact absurd c_1 (nI_pos (by omega))
  · skip
    refine r_iload_n C dX2_endedByte_4 rfl ?_
    refine r_aload_n C dX2_endedByte_5 rfl ?_
    refine r_get C dX2_endedByte_6 fgRX2_30 l_a w_a rfl ?_
    refine r_icmp_ge C 19 dX2_endedByte_9 (by decide) (fun c_9 => ?_) (fun c_9 => ?_)
    · skip
      have c_9 : xs.length ≤ k := (nI_leI (a := xs.length) (b := k) (by omega) (by omega)).mp c_9
      refine r_iload_n C dX2_endedByte_19 rfl ?_
      refine r_aload_n C dX2_endedByte_20 rfl ?_
      refine r_get C dX2_endedByte_21 fgRX2_30 l_a w_a rfl ?_
      refine r_icmp_ne C 33 dX2_endedByte_24 (by decide) (fun c_24 => ?_) (fun c_24 => ?_)
      · skip
        have c_24 : ¬ (k = xs.length) := fun h9 => c_24 ((nI_eq (a := k) (b := xs.length) (by omega) (by omega)).mpr h9)
        refine r_iconst C dX2_endedByte_33 (v := 0) (by decide) ?_
        exact r_ireturn C T_ rfl rfl dX2_endedByte_34 (⟨_, rfl, rfl, by unfold endB; rw [if_neg (by omega), if_neg (by omega)]; rfl⟩)
      · skip
        have c_24 : k = xs.length := (nI_eq (a := k) (b := xs.length) (by omega) (by omega)).mp c_24
        refine r_sipush C dX2_endedByte_27 (v := 128) (by decide) ?_
        refine r_goto C 34 dX2_endedByte_30 (by decide) ?_
        exact r_ireturn C T_ rfl rfl dX2_endedByte_34 (⟨_, rfl, rfl, by unfold endB; rw [if_neg (by omega), if_pos (by omega)]; rfl⟩)
    · skip
      have c_9 : ¬ (xs.length ≤ k) := fun h9 => c_9 ((nI_leI (a := xs.length) (b := k) (by omega) (by omega)).mpr h9)
      refine r_aload_n C dX2_endedByte_12 rfl ?_
      refine r_get C dX2_endedByte_13 fgRX2_53 l_a w_a rfl ?_
      refine r_iload_n C dX2_endedByte_16 rfl ?_
      refine r_ialdN C dX2_endedByte_17 l_b w_b (j := k) rfl (by omega) (by omega) ?_
      exact r_ireturn C T_ rfl rfl dX2_endedByte_18 (⟨_, rfl, rfl, by unfold endB; rw [if_pos (by omega)]; exact h_xs k (by omega)⟩)
set_option maxHeartbeats 4000000 in
set_option maxRecDepth 100000 in
theorem cX2_loadWords9 {w : Wo} {h wd a b : Nat} (l_h : h < NW) (l_wd : wd < NW) (l_a : a < NW) (l_b : b < NW) (n_h_wd : h ≠ wd) (n_h_a : h ≠ a) (n_h_b : h ≠ b) (n_wd_a : wd ≠ a) (n_wd_b : wd ≠ b) (n_a_b : a ≠ b) {n : Nat} {fw : Nat → Int32} {sA sB sC sD : Int32} (w_h : w h = ob 2 [.ref wd, .int sA, .int sB, .int sC, .int sD]) (w_wd : w wd = ia 16 fw) {f : Nat → Int32} {xs : List Nat} (w_a : w a = ob 3 [.ref b, .int (nI xs.length)]) (w_b : w b = ia n f) (h_xs : hs f xs) (k_xs : xs.length ≤ n) (hn : n < 2 ^ 31) {q0 : Nat} (hq : q0 < 2 ^ 30) : Ctr mX2_loadWords [.ref h, .ref a, .int (nI q0)] w (PV fun w' => ∃ f', w' = wset w wd (ia 16 f') ∧ ∀ j, j < 16 → f' j = le4 (endB xs) (q0 + 4 * j)) := by
  refine Ctr_intro okX2_loadWords rfl (Nat.le_of_ble_eq_true rfl) (L := [some (.ref h), some (.ref a), some (.int (nI q0)), none, none]) rfl (fun g ct C T_ => ?_)
  refine r_iconst C dX2_loadWords_0 (v := 0) (by decide) ?_
  refine r_istore_n C dX2_loadWords_1 (L' := [some (.ref h), some (.ref a), some (.int (nI q0)), some (.int 0), none]) (by decide) rfl ?_
  have loop_2 : ∀ (d9 : Nat) (i : Nat) (f1 : Nat → Int32), 16 - i < d9 → i ≤ 16 → (∀ j, j < i → f1 j = le4 (endB xs) (q0 + 4 * j)) → Az g mX2_loadWords ct 0 0 2 [some (.ref h), some (.ref a), some (.int (nI q0)), some (.int (nI i)), none] [] (wset w wd (ia 16 f1)) := by
    intro d9
    induction d9 with
    | zero => intro i f1 hd9; exact absurd hd9 (Nat.not_lt_zero _)
    | succ d9 ih_2 =>
      intro i f1 hd9 hi hp
      refine r_iload_n C dX2_loadWords_2 rfl ?_
      refine r_bipush C dX2_loadWords_3 (v := 16) (by decide) ?_
      refine r_icmp_ge C 69 dX2_loadWords_5 (by decide) (fun c_5 => ?_) (fun c_5 => ?_)
      · skip
        have c_5 : 16 ≤ i := (nI_leI (a := 16) (b := i) (by omega) (by omega)).mp c_5
        exact r_return C T_ rfl dX2_loadWords_69 (⟨rfl, _, rfl, fun j hj => hp j (by omega)⟩)
      · skip
        have c_5 : ¬ (16 ≤ i) := fun h9 => c_5 ((nI_leI (a := 16) (b := i) (by omega) (by omega)).mpr h9)
        refine r_iload_n C dX2_loadWords_8 rfl ?_
        refine r_iconst C dX2_loadWords_9 (v := 4) (by decide) ?_
        refine r_iload_n C dX2_loadWords_10 rfl ?_
        refine r_imul C dX2_loadWords_11 ?_
        refine r_top (y := nI (4 * i)) (pk_mul 4 i) ?_
        refine r_iadd C dX2_loadWords_12 ?_
        refine r_top (y := nI (q0 + (4 * i))) (nI_add q0 (4 * i)) ?_
        refine r_istore C dX2_loadWords_13 (L' := [some (.ref h), some (.ref a), some (.int (nI q0)), some (.int (nI i)), some (.int (nI (q0 + (4 * i))))]) (by decide) rfl ?_
        refine r_aload_n C dX2_loadWords_15 rfl ?_
        refine r_get C dX2_loadWords_16 fgRX2_7 l_h (ws_ne n_h_wd w_h) rfl ?_
        refine r_iload_n C dX2_loadWords_19 rfl ?_
        refine r_aload_n C dX2_loadWords_20 rfl ?_
        refine r_iload C dX2_loadWords_21 rfl ?_
        refine r_callSi C (As := [.ref a, .int (nI (q0 + (4 * i)))]) (rest := [.int (nI i), .ref wd]) dX2_loadWords_23 (cX2_endedByte9 l_a l_b n_a_b (ws_ne (Ne.symm n_wd_a) w_a) (ws_ne (Ne.symm n_wd_b) w_b) h_xs k_xs hn (k := q0 + (4 * i)) (by omega)) okX2_endedByte mlRX2_49 stX2_endedByte ⟨by decide, by decide⟩ rfl rfl (Nat.le_of_ble_eq_true rfl) (by decide) (by decide) (fun r1 w9 h9 => ?_)
        obtain ⟨e9, rfl⟩ := h9
        have e9 := e9.symm
        subst e9
        refine r_aload_n C dX2_loadWords_26 rfl ?_
        refine r_iload C dX2_loadWords_27 rfl ?_
        refine r_iconst C dX2_loadWords_29 (v := 1) (by decide) ?_
        refine r_iadd C dX2_loadWords_30 ?_
        refine r_top (y := nI ((q0 + (4 * i)) + 1)) (nI_add (q0 + (4 * i)) 1) ?_
        refine r_callSi C (As := [.ref a, .int (nI ((q0 + (4 * i)) + 1))]) (rest := [.int (nI (endB xs (q0 + (4 * i)))), .int (nI i), .ref wd]) dX2_loadWords_31 (cX2_endedByte9 l_a l_b n_a_b (ws_ne (Ne.symm n_wd_a) w_a) (ws_ne (Ne.symm n_wd_b) w_b) h_xs k_xs hn (k := (q0 + (4 * i)) + 1) (by omega)) okX2_endedByte mlRX2_49 stX2_endedByte ⟨by decide, by decide⟩ rfl rfl (Nat.le_of_ble_eq_true rfl) (by decide) (by decide) (fun r2 w9 h9 => ?_)
        obtain ⟨e9, rfl⟩ := h9
        have e9 := e9.symm
        subst e9
        refine r_bipush C dX2_loadWords_34 (v := 8) (by decide) ?_
        refine r_ishl C dX2_loadWords_36 ?_
        refine r_ior C dX2_loadWords_37 ?_
        refine r_aload_n C dX2_loadWords_38 rfl ?_
        refine r_iload C dX2_loadWords_39 rfl ?_
        refine r_iconst C dX2_loadWords_41 (v := 2) (by decide) ?_
        refine r_iadd C dX2_loadWords_42 ?_
        refine r_top (y := nI ((q0 + (4 * i)) + 2)) (nI_add (q0 + (4 * i)) 2) ?_
        refine r_callSi C (As := [.ref a, .int (nI ((q0 + (4 * i)) + 2))]) (rest := [.int ((nI (endB xs (q0 + (4 * i)))) ||| ((nI (endB xs ((q0 + (4 * i)) + 1))) <<< (8 &&& 31))), .int (nI i), .ref wd]) dX2_loadWords_43 (cX2_endedByte9 l_a l_b n_a_b (ws_ne (Ne.symm n_wd_a) w_a) (ws_ne (Ne.symm n_wd_b) w_b) h_xs k_xs hn (k := (q0 + (4 * i)) + 2) (by omega)) okX2_endedByte mlRX2_49 stX2_endedByte ⟨by decide, by decide⟩ rfl rfl (Nat.le_of_ble_eq_true rfl) (by decide) (by decide) (fun r3 w9 h9 => ?_)
        obtain ⟨e9, rfl⟩ := h9
        have e9 := e9.symm
        subst e9
        refine r_bipush C dX2_loadWords_46 (v := 16) (by decide) ?_
        refine r_ishl C dX2_loadWords_48 ?_
        refine r_ior C dX2_loadWords_49 ?_
        refine r_aload_n C dX2_loadWords_50 rfl ?_
        refine r_iload C dX2_loadWords_51 rfl ?_
        refine r_iconst C dX2_loadWords_53 (v := 3) (by decide) ?_
        refine r_iadd C dX2_loadWords_54 ?_
        refine r_top (y := nI ((q0 + (4 * i)) + 3)) (nI_add (q0 + (4 * i)) 3) ?_
        refine r_callSi C (As := [.ref a, .int (nI ((q0 + (4 * i)) + 3))]) (rest := [.int (((nI (endB xs (q0 + (4 * i)))) ||| ((nI (endB xs ((q0 + (4 * i)) + 1))) <<< (8 &&& 31))) ||| ((nI (endB xs ((q0 + (4 * i)) + 2))) <<< (16 &&& 31))), .int (nI i), .ref wd]) dX2_loadWords_55 (cX2_endedByte9 l_a l_b n_a_b (ws_ne (Ne.symm n_wd_a) w_a) (ws_ne (Ne.symm n_wd_b) w_b) h_xs k_xs hn (k := (q0 + (4 * i)) + 3) (by omega)) okX2_endedByte mlRX2_49 stX2_endedByte ⟨by decide, by decide⟩ rfl rfl (Nat.le_of_ble_eq_true rfl) (by decide) (by decide) (fun r4 w9 h9 => ?_)
        obtain ⟨e9, rfl⟩ := h9
        have e9 := e9.symm
        subst e9
        refine r_bipush C dX2_loadWords_58 (v := 24) (by decide) ?_
        refine r_ishl C dX2_loadWords_60 ?_
        refine r_ior C dX2_loadWords_61 ?_
        refine r_iastN C dX2_loadWords_62 l_wd ws_eq (j := i) rfl (by omega) (by decide) ?_
        refine r_eq rfl rfl ws_same ?_
        refine r_iinc C dX2_loadWords_63 (v := nI (i + 1)) (L' := [some (.ref h), some (.ref a), some (.int (nI q0)), some (.int (nI (i + 1))), some (.int (nI (q0 + (4 * i))))]) rfl (nI_add i 1) (by decide) rfl ?_
        refine r_goto C 2 dX2_loadWords_66 (by decide) ?_
        refine r_forget [some (.ref h), some (.ref a), some (.int (nI q0)), some (.int (nI (i + 1))), none] ⟨Or.inr rfl, Or.inr rfl, Or.inr rfl, Or.inr rfl, Or.inl rfl, trivial⟩ ?_
        exact ih_2 (i + 1) _ (by omega) (by omega) (up_lt hp rfl)
  refine r_eq rfl rfl (ws_self w_wd).symm ?_
  exact loop_2 _ 0 fw (Nat.lt_succ_self _) (by omega) (fun j hj => absurd hj (Nat.not_lt_zero j))
set_option maxHeartbeats 4000000 in
set_option maxRecDepth 100000 in
theorem cX2_mixWords9 {w : Wo} {h wd : Nat} (l_h : h < NW) (l_wd : wd < NW) (n_h_wd : h ≠ wd) {fw : Nat → Int32} {sA sB sC sD : Int32} (w_h : w h = ob 2 [.ref wd, .int sA, .int sB, .int sC, .int sD]) (w_wd : w wd = ia 16 fw) : Ctr mX2_mixWords [.ref h] w (PV fun w' => w' = wset w h (ob 2 [.ref wd, .int (mdC fw (sA, sB, sC, sD)).1, .int (mdC fw (sA, sB, sC, sD)).2.1, .int (mdC fw (sA, sB, sC, sD)).2.2.1, .int (mdC fw (sA, sB, sC, sD)).2.2.2])) := by
  refine Ctr_intro okX2_mixWords rfl (Nat.le_of_ble_eq_true rfl) (L := [some (.ref h), none, none, none, none, none, none, none, none]) rfl (fun g ct C T_ => ?_)
  refine r_aload_n C dX2_mixWords_0 rfl ?_
  refine r_get C dX2_mixWords_1 fgRX2_14 l_h w_h rfl ?_
  refine r_istore_n C dX2_mixWords_4 (L' := [some (.ref h), some (.int sA), none, none, none, none, none, none, none]) (by decide) rfl ?_
  refine r_aload_n C dX2_mixWords_5 rfl ?_
  refine r_get C dX2_mixWords_6 fgRX2_19 l_h w_h rfl ?_
  refine r_istore_n C dX2_mixWords_9 (L' := [some (.ref h), some (.int sA), some (.int sB), none, none, none, none, none, none]) (by decide) rfl ?_
  refine r_aload_n C dX2_mixWords_10 rfl ?_
  refine r_get C dX2_mixWords_11 fgRX2_23 l_h w_h rfl ?_
  refine r_istore_n C dX2_mixWords_14 (L' := [some (.ref h), some (.int sA), some (.int sB), some (.int sC), none, none, none, none, none]) (by decide) rfl ?_
  refine r_aload_n C dX2_mixWords_15 rfl ?_
  refine r_get C dX2_mixWords_16 fgRX2_27 l_h w_h rfl ?_
  refine r_istore C dX2_mixWords_19 (L' := [some (.ref h), some (.int sA), some (.int sB), some (.int sC), some (.int sD), none, none, none, none]) (by decide) rfl ?_
  refine r_iconst C dX2_mixWords_21 (v := 0) (by decide) ?_
  refine r_istore C dX2_mixWords_22 (L' := [some (.ref h), some (.int sA), some (.int sB), some (.int sC), some (.int sD), some (.int 0), none, none, none]) (by decide) rfl ?_
  have loop_24 : ∀ (d9 : Nat) (i : Nat) (a : Int32) (b : Int32) (c : Int32) (d : Int32), 64 - i < d9 → i ≤ 64 → (a, b, c, d) = mdR fw i (sA, sB, sC, sD) → Az g mX2_mixWords ct 0 0 24 [some (.ref h), some (.int a), some (.int b), some (.int c), some (.int d), some (.int (nI i)), none, none, none] [] w := by
    intro d9
    induction d9 with
    | zero => intro i a b c d hd9; exact absurd hd9 (Nat.not_lt_zero _)
    | succ d9 ih_24 =>
      intro i a b c d hd9 hi he
      refine r_iload C dX2_mixWords_24 rfl ?_
      refine r_bipush C dX2_mixWords_26 (v := 64) (by decide) ?_
      refine r_icmp_ge C 203 dX2_mixWords_28 (by decide) (fun c_28 => ?_) (fun c_28 => ?_)
      · skip
        have c_28 : 64 ≤ i := (nI_leI (a := 64) (b := i) (by omega) (by omega)).mp c_28
        refine r_aload_n C dX2_mixWords_203 rfl ?_
        refine r_dup C dX2_mixWords_204 rfl ?_
        refine r_get C dX2_mixWords_205 fgRX2_14 l_h w_h rfl ?_
        refine r_iload_n C dX2_mixWords_208 rfl ?_
        refine r_iadd C dX2_mixWords_209 ?_
        refine r_put C dX2_mixWords_210 fpRX2_14 l_h w_h rfl rfl (Nat.le_of_ble_eq_true rfl) (fs' := [.ref wd, .int (sA + a), .int sB, .int sC, .int sD]) rfl ?_
        refine r_aload_n C dX2_mixWords_213 rfl ?_
        refine r_dup C dX2_mixWords_214 rfl ?_
        refine r_get C dX2_mixWords_215 fgRX2_19 l_h ws_eq rfl ?_
        refine r_iload_n C dX2_mixWords_218 rfl ?_
        refine r_iadd C dX2_mixWords_219 ?_
        refine r_put C dX2_mixWords_220 fpRX2_19 l_h ws_eq rfl rfl (Nat.le_of_ble_eq_true rfl) (fs' := [.ref wd, .int (sA + a), .int (sB + b), .int sC, .int sD]) rfl ?_
        refine r_eq rfl rfl ws_same ?_
        refine r_aload_n C dX2_mixWords_223 rfl ?_
        refine r_dup C dX2_mixWords_224 rfl ?_
        refine r_get C dX2_mixWords_225 fgRX2_23 l_h ws_eq rfl ?_
        refine r_iload_n C dX2_mixWords_228 rfl ?_
        refine r_iadd C dX2_mixWords_229 ?_
        refine r_put C dX2_mixWords_230 fpRX2_23 l_h ws_eq rfl rfl (Nat.le_of_ble_eq_true rfl) (fs' := [.ref wd, .int (sA + a), .int (sB + b), .int (sC + c), .int sD]) rfl ?_
        refine r_eq rfl rfl ws_same ?_
        refine r_aload_n C dX2_mixWords_233 rfl ?_
        refine r_dup C dX2_mixWords_234 rfl ?_
        refine r_get C dX2_mixWords_235 fgRX2_27 l_h ws_eq rfl ?_
        refine r_iload C dX2_mixWords_238 rfl ?_
        refine r_iadd C dX2_mixWords_240 ?_
        refine r_put C dX2_mixWords_241 fpRX2_27 l_h ws_eq rfl rfl (Nat.le_of_ble_eq_true rfl) (fs' := [.ref wd, .int (sA + a), .int (sB + b), .int (sC + c), .int (sD + d)]) rfl ?_
        refine r_eq rfl rfl ws_same ?_
        exact r_return C T_ rfl dX2_mixWords_244 (⟨rfl, by unfold mdC; rw [show (64 : Nat) = i by omega, ← he]⟩)
      · skip
        have c_28 : ¬ (64 ≤ i) := fun h9 => c_28 ((nI_leI (a := 64) (b := i) (by omega) (by omega)).mpr h9)
        refine r_iload C dX2_mixWords_31 rfl ?_
        refine r_bipush C dX2_mixWords_33 (v := 16) (by decide) ?_
        refine r_icmp_ge C 57 dX2_mixWords_35 (by decide) (fun c_35 => ?_) (fun c_35 => ?_)
        · skip
          have c_35 : 16 ≤ i := (nI_leI (a := 16) (b := i) (by omega) (by omega)).mp c_35
          refine r_iload C dX2_mixWords_57 rfl ?_
          refine r_bipush C dX2_mixWords_59 (v := 32) (by decide) ?_
          refine r_icmp_ge C 88 dX2_mixWords_61 (by decide) (fun c_61 => ?_) (fun c_61 => ?_)
          · skip
            have c_61 : 32 ≤ i := (nI_leI (a := 32) (b := i) (by omega) (by omega)).mp c_61
            refine r_iload C dX2_mixWords_88 rfl ?_
            refine r_bipush C dX2_mixWords_90 (v := 48) (by decide) ?_
            refine r_icmp_ge C 114 dX2_mixWords_92 (by decide) (fun c_92 => ?_) (fun c_92 => ?_)
            · skip
              have c_92 : 48 ≤ i := (nI_leI (a := 48) (b := i) (by omega) (by omega)).mp c_92
              refine r_iload_n C dX2_mixWords_114 rfl ?_
              refine r_iload_n C dX2_mixWords_115 rfl ?_
              refine r_iload C dX2_mixWords_116 rfl ?_
              refine r_iconst C dX2_mixWords_118 (v := (-1)) (by decide) ?_
              refine r_ixor C dX2_mixWords_119 ?_
              refine r_ior C dX2_mixWords_120 ?_
              refine r_ixor C dX2_mixWords_121 ?_
              refine r_istore C dX2_mixWords_122 (L' := [some (.ref h), some (.int a), some (.int b), some (.int c), some (.int d), some (.int (nI i)), some (.int (c ^^^ (b ||| (d ^^^ (-1))))), none, none]) (by decide) rfl ?_
              refine r_bipush C dX2_mixWords_124 (v := 7) (by decide) ?_
              refine r_iload C dX2_mixWords_126 rfl ?_
              refine r_imul C dX2_mixWords_128 ?_
              refine r_top (y := nI (7 * i)) (pk_mul 7 i) ?_
              refine r_istore C dX2_mixWords_129 (L' := [some (.ref h), some (.int a), some (.int b), some (.int c), some (.int d), some (.int (nI i)), some (.int (c ^^^ (b ||| (d ^^^ (-1))))), some (.int (nI (7 * i))), none]) (by decide) rfl ?_
              refine r_iload C dX2_mixWords_131 rfl ?_
              refine r_iload_n C dX2_mixWords_133 rfl ?_
              refine r_gets C (j := 1) dX2_mixWords_134 rfl slRX2_56 ?_
              refine r_iload C dX2_mixWords_137 rfl ?_
              refine r_tald C dX2_mixWords_139 (j := 1) (t := i) rfl rfl rfl (by show _ < 64; omega) (by decide) ?_
              refine r_iadd C dX2_mixWords_140 ?_
              refine r_aload_n C dX2_mixWords_141 rfl ?_
              refine r_get C dX2_mixWords_142 fgRX2_7 l_h w_h rfl ?_
              refine r_iload C dX2_mixWords_145 rfl ?_
              refine r_bipush C dX2_mixWords_147 (v := 15) (by decide) ?_
              refine r_iand C dX2_mixWords_149 ?_
              refine r_top (y := nI ((7 * i) % 16)) (pk_andN (n := 7 * i) (by omega) 4 rfl) ?_
              refine r_ialdN C dX2_mixWords_150 l_wd w_wd (j := (7 * i) % 16) rfl (by omega) (by decide) ?_
              refine r_iadd C dX2_mixWords_151 ?_
              refine r_iadd C dX2_mixWords_152 ?_
              obtain ⟨fv, hfv⟩ : ∃ z : Int32, z = (c ^^^ (b ||| (d ^^^ (-1)))) + ((a + (tabf sinL i)) + (fw ((7 * i) % 16))) := ⟨_, rfl⟩
              refine r_top hfv.symm ?_
              refine r_istore C dX2_mixWords_153 (L' := [some (.ref h), some (.int a), some (.int b), some (.int c), some (.int d), some (.int (nI i)), some (.int fv), some (.int (nI (7 * i))), none]) (by decide) rfl ?_
              refine r_gets C (j := 2) dX2_mixWords_155 rfl slRX2_59 ?_
              refine r_iload C dX2_mixWords_158 rfl ?_
              refine r_iconst C dX2_mixWords_160 (v := 4) (by decide) ?_
              refine r_ishr C dX2_mixWords_161 ?_
              refine r_top (y := nI (i / 16)) ((pk_shrN (by omega) _ 4 (by decide)).trans (congrArg nI (show i / 2 ^ 4 = i / 16 by omega))) ?_
              refine r_iconst C dX2_mixWords_162 (v := 4) (by decide) ?_
              refine r_imul C dX2_mixWords_163 ?_
              refine r_top (y := nI ((i / 16) * 4)) (pk_mul (i / 16) 4) ?_
              refine r_iload C dX2_mixWords_164 rfl ?_
              refine r_iconst C dX2_mixWords_166 (v := 3) (by decide) ?_
              refine r_iand C dX2_mixWords_167 ?_
              refine r_top (y := nI (i % 4)) (pk_andN (n := i) (by omega) 2 rfl) ?_
              refine r_iadd C dX2_mixWords_168 ?_
              refine r_top (y := nI (((i / 16) * 4) + (i % 4))) (nI_add ((i / 16) * 4) (i % 4)) ?_
              refine r_tald C dX2_mixWords_169 (j := 2) (t := ((i / 16) * 4) + (i % 4)) rfl rfl rfl (by show _ < 16; omega) (by decide) ?_
              refine r_istore C dX2_mixWords_170 (L' := [some (.ref h), some (.int a), some (.int b), some (.int c), some (.int d), some (.int (nI i)), some (.int fv), some (.int (nI (7 * i))), some (.int (tabf turL (((i / 16) * 4) + (i % 4))))]) (by decide) rfl ?_
              refine r_iload C dX2_mixWords_172 rfl ?_
              refine r_istore_n C dX2_mixWords_174 (L' := [some (.ref h), some (.int d), some (.int b), some (.int c), some (.int d), some (.int (nI i)), some (.int fv), some (.int (nI (7 * i))), some (.int (tabf turL (((i / 16) * 4) + (i % 4))))]) (by decide) rfl ?_
              refine r_iload_n C dX2_mixWords_175 rfl ?_
              refine r_istore C dX2_mixWords_176 (L' := [some (.ref h), some (.int d), some (.int b), some (.int c), some (.int c), some (.int (nI i)), some (.int fv), some (.int (nI (7 * i))), some (.int (tabf turL (((i / 16) * 4) + (i % 4))))]) (by decide) rfl ?_
              refine r_iload_n C dX2_mixWords_178 rfl ?_
              refine r_istore_n C dX2_mixWords_179 (L' := [some (.ref h), some (.int d), some (.int b), some (.int b), some (.int c), some (.int (nI i)), some (.int fv), some (.int (nI (7 * i))), some (.int (tabf turL (((i / 16) * 4) + (i % 4))))]) (by decide) rfl ?_
              refine r_iload_n C dX2_mixWords_180 rfl ?_
              refine r_iload C dX2_mixWords_181 rfl ?_
              refine r_iload C dX2_mixWords_183 rfl ?_
              refine r_ishl C dX2_mixWords_185 ?_
              refine r_iload C dX2_mixWords_186 rfl ?_
              refine r_bipush C dX2_mixWords_188 (v := 32) (by decide) ?_
              refine r_iload C dX2_mixWords_190 rfl ?_
              refine r_isub C dX2_mixWords_192 ?_
              refine r_iushr C dX2_mixWords_193 ?_
              refine r_ior C dX2_mixWords_194 ?_
              refine r_iadd C dX2_mixWords_195 ?_
              refine r_istore_n C dX2_mixWords_196 (L' := [some (.ref h), some (.int d), some (.int (b + ((fv <<< ((tabf turL (((i / 16) * 4) + (i % 4))) &&& 31)) ||| ((fv.toUInt32 >>> ((32 - (tabf turL (((i / 16) * 4) + (i % 4)))).toUInt32 &&& Int32.toUInt32 31)).toInt32)))), some (.int b), some (.int c), some (.int (nI i)), some (.int fv), some (.int (nI (7 * i))), some (.int (tabf turL (((i / 16) * 4) + (i % 4))))]) (by decide) rfl ?_
              refine r_iinc C dX2_mixWords_197 (v := nI (i + 1)) (L' := [some (.ref h), some (.int d), some (.int (b + ((fv <<< ((tabf turL (((i / 16) * 4) + (i % 4))) &&& 31)) ||| ((fv.toUInt32 >>> ((32 - (tabf turL (((i / 16) * 4) + (i % 4)))).toUInt32 &&& Int32.toUInt32 31)).toInt32)))), some (.int b), some (.int c), some (.int (nI (i + 1))), some (.int fv), some (.int (nI (7 * i))), some (.int (tabf turL (((i / 16) * 4) + (i % 4))))]) rfl (nI_add i 1) (by decide) rfl ?_
              refine r_goto C 24 dX2_mixWords_200 (by decide) ?_
              refine r_forget [some (.ref h), some (.int d), some (.int (b + ((fv <<< ((tabf turL (((i / 16) * 4) + (i % 4))) &&& 31)) ||| ((fv.toUInt32 >>> ((32 - (tabf turL (((i / 16) * 4) + (i % 4)))).toUInt32 &&& Int32.toUInt32 31)).toInt32)))), some (.int b), some (.int c), some (.int (nI (i + 1))), none, none, none] ⟨Or.inr rfl, Or.inr rfl, Or.inr rfl, Or.inr rfl, Or.inr rfl, Or.inr rfl, Or.inl rfl, Or.inl rfl, Or.inl rfl, trivial⟩ ?_
              exact ih_24 (i + 1) d (b + ((fv <<< ((tabf turL (((i / 16) * 4) + (i % 4))) &&& 31)) ||| ((fv.toUInt32 >>> ((32 - (tabf turL (((i / 16) * 4) + (i % 4)))).toUInt32 &&& Int32.toUInt32 31)).toInt32))) b c (by omega) (by omega) (by rw [mdR, ← he]; simp only [mdS, mdf, mdF, mdG, mdT, rotl, if_neg (show ¬ i < 16 by omega), if_neg (show ¬ i < 32 by omega), if_neg (show ¬ i < 48 by omega)]; rw [hfv])
            · skip
              have c_92 : ¬ (48 ≤ i) := fun h9 => c_92 ((nI_leI (a := 48) (b := i) (by omega) (by omega)).mpr h9)
              refine r_iload_n C dX2_mixWords_95 rfl ?_
              refine r_iload_n C dX2_mixWords_96 rfl ?_
              refine r_ixor C dX2_mixWords_97 ?_
              refine r_iload C dX2_mixWords_98 rfl ?_
              refine r_ixor C dX2_mixWords_100 ?_
              refine r_istore C dX2_mixWords_101 (L' := [some (.ref h), some (.int a), some (.int b), some (.int c), some (.int d), some (.int (nI i)), some (.int ((b ^^^ c) ^^^ d)), none, none]) (by decide) rfl ?_
              refine r_iconst C dX2_mixWords_103 (v := 3) (by decide) ?_
              refine r_iload C dX2_mixWords_104 rfl ?_
              refine r_imul C dX2_mixWords_106 ?_
              refine r_top (y := nI (3 * i)) (pk_mul 3 i) ?_
              refine r_iconst C dX2_mixWords_107 (v := 5) (by decide) ?_
              refine r_iadd C dX2_mixWords_108 ?_
              refine r_top (y := nI ((3 * i) + 5)) (nI_add (3 * i) 5) ?_
              refine r_istore C dX2_mixWords_109 (L' := [some (.ref h), some (.int a), some (.int b), some (.int c), some (.int d), some (.int (nI i)), some (.int ((b ^^^ c) ^^^ d)), some (.int (nI ((3 * i) + 5))), none]) (by decide) rfl ?_
              refine r_goto C 131 dX2_mixWords_111 (by decide) ?_
              refine r_iload C dX2_mixWords_131 rfl ?_
              refine r_iload_n C dX2_mixWords_133 rfl ?_
              refine r_gets C (j := 1) dX2_mixWords_134 rfl slRX2_56 ?_
              refine r_iload C dX2_mixWords_137 rfl ?_
              refine r_tald C dX2_mixWords_139 (j := 1) (t := i) rfl rfl rfl (by show _ < 64; omega) (by decide) ?_
              refine r_iadd C dX2_mixWords_140 ?_
              refine r_aload_n C dX2_mixWords_141 rfl ?_
              refine r_get C dX2_mixWords_142 fgRX2_7 l_h w_h rfl ?_
              refine r_iload C dX2_mixWords_145 rfl ?_
              refine r_bipush C dX2_mixWords_147 (v := 15) (by decide) ?_
              refine r_iand C dX2_mixWords_149 ?_
              refine r_top (y := nI (((3 * i) + 5) % 16)) (pk_andN (n := (3 * i) + 5) (by omega) 4 rfl) ?_
              refine r_ialdN C dX2_mixWords_150 l_wd w_wd (j := ((3 * i) + 5) % 16) rfl (by omega) (by decide) ?_
              refine r_iadd C dX2_mixWords_151 ?_
              refine r_iadd C dX2_mixWords_152 ?_
              obtain ⟨fv, hfv⟩ : ∃ z : Int32, z = ((b ^^^ c) ^^^ d) + ((a + (tabf sinL i)) + (fw (((3 * i) + 5) % 16))) := ⟨_, rfl⟩
              refine r_top hfv.symm ?_
              refine r_istore C dX2_mixWords_153 (L' := [some (.ref h), some (.int a), some (.int b), some (.int c), some (.int d), some (.int (nI i)), some (.int fv), some (.int (nI ((3 * i) + 5))), none]) (by decide) rfl ?_
              refine r_gets C (j := 2) dX2_mixWords_155 rfl slRX2_59 ?_
              refine r_iload C dX2_mixWords_158 rfl ?_
              refine r_iconst C dX2_mixWords_160 (v := 4) (by decide) ?_
              refine r_ishr C dX2_mixWords_161 ?_
              refine r_top (y := nI (i / 16)) ((pk_shrN (by omega) _ 4 (by decide)).trans (congrArg nI (show i / 2 ^ 4 = i / 16 by omega))) ?_
              refine r_iconst C dX2_mixWords_162 (v := 4) (by decide) ?_
              refine r_imul C dX2_mixWords_163 ?_
              refine r_top (y := nI ((i / 16) * 4)) (pk_mul (i / 16) 4) ?_
              refine r_iload C dX2_mixWords_164 rfl ?_
              refine r_iconst C dX2_mixWords_166 (v := 3) (by decide) ?_
              refine r_iand C dX2_mixWords_167 ?_
              refine r_top (y := nI (i % 4)) (pk_andN (n := i) (by omega) 2 rfl) ?_
              refine r_iadd C dX2_mixWords_168 ?_
              refine r_top (y := nI (((i / 16) * 4) + (i % 4))) (nI_add ((i / 16) * 4) (i % 4)) ?_
              refine r_tald C dX2_mixWords_169 (j := 2) (t := ((i / 16) * 4) + (i % 4)) rfl rfl rfl (by show _ < 16; omega) (by decide) ?_
              refine r_istore C dX2_mixWords_170 (L' := [some (.ref h), some (.int a), some (.int b), some (.int c), some (.int d), some (.int (nI i)), some (.int fv), some (.int (nI ((3 * i) + 5))), some (.int (tabf turL (((i / 16) * 4) + (i % 4))))]) (by decide) rfl ?_
              refine r_iload C dX2_mixWords_172 rfl ?_
              refine r_istore_n C dX2_mixWords_174 (L' := [some (.ref h), some (.int d), some (.int b), some (.int c), some (.int d), some (.int (nI i)), some (.int fv), some (.int (nI ((3 * i) + 5))), some (.int (tabf turL (((i / 16) * 4) + (i % 4))))]) (by decide) rfl ?_
              refine r_iload_n C dX2_mixWords_175 rfl ?_
              refine r_istore C dX2_mixWords_176 (L' := [some (.ref h), some (.int d), some (.int b), some (.int c), some (.int c), some (.int (nI i)), some (.int fv), some (.int (nI ((3 * i) + 5))), some (.int (tabf turL (((i / 16) * 4) + (i % 4))))]) (by decide) rfl ?_
              refine r_iload_n C dX2_mixWords_178 rfl ?_
              refine r_istore_n C dX2_mixWords_179 (L' := [some (.ref h), some (.int d), some (.int b), some (.int b), some (.int c), some (.int (nI i)), some (.int fv), some (.int (nI ((3 * i) + 5))), some (.int (tabf turL (((i / 16) * 4) + (i % 4))))]) (by decide) rfl ?_
              refine r_iload_n C dX2_mixWords_180 rfl ?_
              refine r_iload C dX2_mixWords_181 rfl ?_
              refine r_iload C dX2_mixWords_183 rfl ?_
              refine r_ishl C dX2_mixWords_185 ?_
              refine r_iload C dX2_mixWords_186 rfl ?_
              refine r_bipush C dX2_mixWords_188 (v := 32) (by decide) ?_
              refine r_iload C dX2_mixWords_190 rfl ?_
              refine r_isub C dX2_mixWords_192 ?_
              refine r_iushr C dX2_mixWords_193 ?_
              refine r_ior C dX2_mixWords_194 ?_
              refine r_iadd C dX2_mixWords_195 ?_
              refine r_istore_n C dX2_mixWords_196 (L' := [some (.ref h), some (.int d), some (.int (b + ((fv <<< ((tabf turL (((i / 16) * 4) + (i % 4))) &&& 31)) ||| ((fv.toUInt32 >>> ((32 - (tabf turL (((i / 16) * 4) + (i % 4)))).toUInt32 &&& Int32.toUInt32 31)).toInt32)))), some (.int b), some (.int c), some (.int (nI i)), some (.int fv), some (.int (nI ((3 * i) + 5))), some (.int (tabf turL (((i / 16) * 4) + (i % 4))))]) (by decide) rfl ?_
              refine r_iinc C dX2_mixWords_197 (v := nI (i + 1)) (L' := [some (.ref h), some (.int d), some (.int (b + ((fv <<< ((tabf turL (((i / 16) * 4) + (i % 4))) &&& 31)) ||| ((fv.toUInt32 >>> ((32 - (tabf turL (((i / 16) * 4) + (i % 4)))).toUInt32 &&& Int32.toUInt32 31)).toInt32)))), some (.int b), some (.int c), some (.int (nI (i + 1))), some (.int fv), some (.int (nI ((3 * i) + 5))), some (.int (tabf turL (((i / 16) * 4) + (i % 4))))]) rfl (nI_add i 1) (by decide) rfl ?_
              refine r_goto C 24 dX2_mixWords_200 (by decide) ?_
              refine r_forget [some (.ref h), some (.int d), some (.int (b + ((fv <<< ((tabf turL (((i / 16) * 4) + (i % 4))) &&& 31)) ||| ((fv.toUInt32 >>> ((32 - (tabf turL (((i / 16) * 4) + (i % 4)))).toUInt32 &&& Int32.toUInt32 31)).toInt32)))), some (.int b), some (.int c), some (.int (nI (i + 1))), none, none, none] ⟨Or.inr rfl, Or.inr rfl, Or.inr rfl, Or.inr rfl, Or.inr rfl, Or.inr rfl, Or.inl rfl, Or.inl rfl, Or.inl rfl, trivial⟩ ?_
              exact ih_24 (i + 1) d (b + ((fv <<< ((tabf turL (((i / 16) * 4) + (i % 4))) &&& 31)) ||| ((fv.toUInt32 >>> ((32 - (tabf turL (((i / 16) * 4) + (i % 4)))).toUInt32 &&& Int32.toUInt32 31)).toInt32))) b c (by omega) (by omega) (by rw [mdR, ← he]; simp only [mdS, mdf, mdF, mdG, mdT, rotl, if_neg (show ¬ i < 16 by omega), if_neg (show ¬ i < 32 by omega), if_pos (show i < 48 by omega)]; rw [hfv])
          · skip
            have c_61 : ¬ (32 ≤ i) := fun h9 => c_61 ((nI_leI (a := 32) (b := i) (by omega) (by omega)).mpr h9)
            refine r_iload C dX2_mixWords_64 rfl ?_
            refine r_iload_n C dX2_mixWords_66 rfl ?_
            refine r_iand C dX2_mixWords_67 ?_
            refine r_iload C dX2_mixWords_68 rfl ?_
            refine r_iconst C dX2_mixWords_70 (v := (-1)) (by decide) ?_
            refine r_ixor C dX2_mixWords_71 ?_
            refine r_iload_n C dX2_mixWords_72 rfl ?_
            refine r_iand C dX2_mixWords_73 ?_
            refine r_ior C dX2_mixWords_74 ?_
            refine r_istore C dX2_mixWords_75 (L' := [some (.ref h), some (.int a), some (.int b), some (.int c), some (.int d), some (.int (nI i)), some (.int ((d &&& b) ||| ((d ^^^ (-1)) &&& c))), none, none]) (by decide) rfl ?_
            refine r_iconst C dX2_mixWords_77 (v := 5) (by decide) ?_
            refine r_iload C dX2_mixWords_78 rfl ?_
            refine r_imul C dX2_mixWords_80 ?_
            refine r_top (y := nI (5 * i)) (pk_mul 5 i) ?_
            refine r_iconst C dX2_mixWords_81 (v := 1) (by decide) ?_
            refine r_iadd C dX2_mixWords_82 ?_
            refine r_top (y := nI ((5 * i) + 1)) (nI_add (5 * i) 1) ?_
            refine r_istore C dX2_mixWords_83 (L' := [some (.ref h), some (.int a), some (.int b), some (.int c), some (.int d), some (.int (nI i)), some (.int ((d &&& b) ||| ((d ^^^ (-1)) &&& c))), some (.int (nI ((5 * i) + 1))), none]) (by decide) rfl ?_
            refine r_goto C 131 dX2_mixWords_85 (by decide) ?_
            refine r_iload C dX2_mixWords_131 rfl ?_
            refine r_iload_n C dX2_mixWords_133 rfl ?_
            refine r_gets C (j := 1) dX2_mixWords_134 rfl slRX2_56 ?_
            refine r_iload C dX2_mixWords_137 rfl ?_
            refine r_tald C dX2_mixWords_139 (j := 1) (t := i) rfl rfl rfl (by show _ < 64; omega) (by decide) ?_
            refine r_iadd C dX2_mixWords_140 ?_
            refine r_aload_n C dX2_mixWords_141 rfl ?_
            refine r_get C dX2_mixWords_142 fgRX2_7 l_h w_h rfl ?_
            refine r_iload C dX2_mixWords_145 rfl ?_
            refine r_bipush C dX2_mixWords_147 (v := 15) (by decide) ?_
            refine r_iand C dX2_mixWords_149 ?_
            refine r_top (y := nI (((5 * i) + 1) % 16)) (pk_andN (n := (5 * i) + 1) (by omega) 4 rfl) ?_
            refine r_ialdN C dX2_mixWords_150 l_wd w_wd (j := ((5 * i) + 1) % 16) rfl (by omega) (by decide) ?_
            refine r_iadd C dX2_mixWords_151 ?_
            refine r_iadd C dX2_mixWords_152 ?_
            obtain ⟨fv, hfv⟩ : ∃ z : Int32, z = ((d &&& b) ||| ((d ^^^ (-1)) &&& c)) + ((a + (tabf sinL i)) + (fw (((5 * i) + 1) % 16))) := ⟨_, rfl⟩
            refine r_top hfv.symm ?_
            refine r_istore C dX2_mixWords_153 (L' := [some (.ref h), some (.int a), some (.int b), some (.int c), some (.int d), some (.int (nI i)), some (.int fv), some (.int (nI ((5 * i) + 1))), none]) (by decide) rfl ?_
            refine r_gets C (j := 2) dX2_mixWords_155 rfl slRX2_59 ?_
            refine r_iload C dX2_mixWords_158 rfl ?_
            refine r_iconst C dX2_mixWords_160 (v := 4) (by decide) ?_
            refine r_ishr C dX2_mixWords_161 ?_
            refine r_top (y := nI (i / 16)) ((pk_shrN (by omega) _ 4 (by decide)).trans (congrArg nI (show i / 2 ^ 4 = i / 16 by omega))) ?_
            refine r_iconst C dX2_mixWords_162 (v := 4) (by decide) ?_
            refine r_imul C dX2_mixWords_163 ?_
            refine r_top (y := nI ((i / 16) * 4)) (pk_mul (i / 16) 4) ?_
            refine r_iload C dX2_mixWords_164 rfl ?_
            refine r_iconst C dX2_mixWords_166 (v := 3) (by decide) ?_
            refine r_iand C dX2_mixWords_167 ?_
            refine r_top (y := nI (i % 4)) (pk_andN (n := i) (by omega) 2 rfl) ?_
            refine r_iadd C dX2_mixWords_168 ?_
            refine r_top (y := nI (((i / 16) * 4) + (i % 4))) (nI_add ((i / 16) * 4) (i % 4)) ?_
            refine r_tald C dX2_mixWords_169 (j := 2) (t := ((i / 16) * 4) + (i % 4)) rfl rfl rfl (by show _ < 16; omega) (by decide) ?_
            refine r_istore C dX2_mixWords_170 (L' := [some (.ref h), some (.int a), some (.int b), some (.int c), some (.int d), some (.int (nI i)), some (.int fv), some (.int (nI ((5 * i) + 1))), some (.int (tabf turL (((i / 16) * 4) + (i % 4))))]) (by decide) rfl ?_
            refine r_iload C dX2_mixWords_172 rfl ?_
            refine r_istore_n C dX2_mixWords_174 (L' := [some (.ref h), some (.int d), some (.int b), some (.int c), some (.int d), some (.int (nI i)), some (.int fv), some (.int (nI ((5 * i) + 1))), some (.int (tabf turL (((i / 16) * 4) + (i % 4))))]) (by decide) rfl ?_
            refine r_iload_n C dX2_mixWords_175 rfl ?_
            refine r_istore C dX2_mixWords_176 (L' := [some (.ref h), some (.int d), some (.int b), some (.int c), some (.int c), some (.int (nI i)), some (.int fv), some (.int (nI ((5 * i) + 1))), some (.int (tabf turL (((i / 16) * 4) + (i % 4))))]) (by decide) rfl ?_
            refine r_iload_n C dX2_mixWords_178 rfl ?_
            refine r_istore_n C dX2_mixWords_179 (L' := [some (.ref h), some (.int d), some (.int b), some (.int b), some (.int c), some (.int (nI i)), some (.int fv), some (.int (nI ((5 * i) + 1))), some (.int (tabf turL (((i / 16) * 4) + (i % 4))))]) (by decide) rfl ?_
            refine r_iload_n C dX2_mixWords_180 rfl ?_
            refine r_iload C dX2_mixWords_181 rfl ?_
            refine r_iload C dX2_mixWords_183 rfl ?_
            refine r_ishl C dX2_mixWords_185 ?_
            refine r_iload C dX2_mixWords_186 rfl ?_
            refine r_bipush C dX2_mixWords_188 (v := 32) (by decide) ?_
            refine r_iload C dX2_mixWords_190 rfl ?_
            refine r_isub C dX2_mixWords_192 ?_
            refine r_iushr C dX2_mixWords_193 ?_
            refine r_ior C dX2_mixWords_194 ?_
            refine r_iadd C dX2_mixWords_195 ?_
            refine r_istore_n C dX2_mixWords_196 (L' := [some (.ref h), some (.int d), some (.int (b + ((fv <<< ((tabf turL (((i / 16) * 4) + (i % 4))) &&& 31)) ||| ((fv.toUInt32 >>> ((32 - (tabf turL (((i / 16) * 4) + (i % 4)))).toUInt32 &&& Int32.toUInt32 31)).toInt32)))), some (.int b), some (.int c), some (.int (nI i)), some (.int fv), some (.int (nI ((5 * i) + 1))), some (.int (tabf turL (((i / 16) * 4) + (i % 4))))]) (by decide) rfl ?_
            refine r_iinc C dX2_mixWords_197 (v := nI (i + 1)) (L' := [some (.ref h), some (.int d), some (.int (b + ((fv <<< ((tabf turL (((i / 16) * 4) + (i % 4))) &&& 31)) ||| ((fv.toUInt32 >>> ((32 - (tabf turL (((i / 16) * 4) + (i % 4)))).toUInt32 &&& Int32.toUInt32 31)).toInt32)))), some (.int b), some (.int c), some (.int (nI (i + 1))), some (.int fv), some (.int (nI ((5 * i) + 1))), some (.int (tabf turL (((i / 16) * 4) + (i % 4))))]) rfl (nI_add i 1) (by decide) rfl ?_
            refine r_goto C 24 dX2_mixWords_200 (by decide) ?_
            refine r_forget [some (.ref h), some (.int d), some (.int (b + ((fv <<< ((tabf turL (((i / 16) * 4) + (i % 4))) &&& 31)) ||| ((fv.toUInt32 >>> ((32 - (tabf turL (((i / 16) * 4) + (i % 4)))).toUInt32 &&& Int32.toUInt32 31)).toInt32)))), some (.int b), some (.int c), some (.int (nI (i + 1))), none, none, none] ⟨Or.inr rfl, Or.inr rfl, Or.inr rfl, Or.inr rfl, Or.inr rfl, Or.inr rfl, Or.inl rfl, Or.inl rfl, Or.inl rfl, trivial⟩ ?_
            exact ih_24 (i + 1) d (b + ((fv <<< ((tabf turL (((i / 16) * 4) + (i % 4))) &&& 31)) ||| ((fv.toUInt32 >>> ((32 - (tabf turL (((i / 16) * 4) + (i % 4)))).toUInt32 &&& Int32.toUInt32 31)).toInt32))) b c (by omega) (by omega) (by rw [mdR, ← he]; simp only [mdS, mdf, mdF, mdG, mdT, rotl, if_neg (show ¬ i < 16 by omega), if_pos (show i < 32 by omega)]; rw [hfv])
        · skip
          have c_35 : ¬ (16 ≤ i) := fun h9 => c_35 ((nI_leI (a := 16) (b := i) (by omega) (by omega)).mpr h9)
          refine r_iload_n C dX2_mixWords_38 rfl ?_
          refine r_iload_n C dX2_mixWords_39 rfl ?_
          refine r_iand C dX2_mixWords_40 ?_
          refine r_iload_n C dX2_mixWords_41 rfl ?_
          refine r_iconst C dX2_mixWords_42 (v := (-1)) (by decide) ?_
          refine r_ixor C dX2_mixWords_43 ?_
          refine r_iload C dX2_mixWords_44 rfl ?_
          refine r_iand C dX2_mixWords_46 ?_
          refine r_ior C dX2_mixWords_47 ?_
          refine r_istore C dX2_mixWords_48 (L' := [some (.ref h), some (.int a), some (.int b), some (.int c), some (.int d), some (.int (nI i)), some (.int ((b &&& c) ||| ((b ^^^ (-1)) &&& d))), none, none]) (by decide) rfl ?_
          refine r_iload C dX2_mixWords_50 rfl ?_
          refine r_istore C dX2_mixWords_52 (L' := [some (.ref h), some (.int a), some (.int b), some (.int c), some (.int d), some (.int (nI i)), some (.int ((b &&& c) ||| ((b ^^^ (-1)) &&& d))), some (.int (nI i)), none]) (by decide) rfl ?_
          refine r_goto C 131 dX2_mixWords_54 (by decide) ?_
          refine r_iload C dX2_mixWords_131 rfl ?_
          refine r_iload_n C dX2_mixWords_133 rfl ?_
          refine r_gets C (j := 1) dX2_mixWords_134 rfl slRX2_56 ?_
          refine r_iload C dX2_mixWords_137 rfl ?_
          refine r_tald C dX2_mixWords_139 (j := 1) (t := i) rfl rfl rfl (by show _ < 64; omega) (by decide) ?_
          refine r_iadd C dX2_mixWords_140 ?_
          refine r_aload_n C dX2_mixWords_141 rfl ?_
          refine r_get C dX2_mixWords_142 fgRX2_7 l_h w_h rfl ?_
          refine r_iload C dX2_mixWords_145 rfl ?_
          refine r_bipush C dX2_mixWords_147 (v := 15) (by decide) ?_
          refine r_iand C dX2_mixWords_149 ?_
          refine r_top (y := nI (i % 16)) (pk_andN (n := i) (by omega) 4 rfl) ?_
          refine r_ialdN C dX2_mixWords_150 l_wd w_wd (j := i % 16) rfl (by omega) (by decide) ?_
          refine r_iadd C dX2_mixWords_151 ?_
          refine r_iadd C dX2_mixWords_152 ?_
          obtain ⟨fv, hfv⟩ : ∃ z : Int32, z = ((b &&& c) ||| ((b ^^^ (-1)) &&& d)) + ((a + (tabf sinL i)) + (fw (i % 16))) := ⟨_, rfl⟩
          refine r_top hfv.symm ?_
          refine r_istore C dX2_mixWords_153 (L' := [some (.ref h), some (.int a), some (.int b), some (.int c), some (.int d), some (.int (nI i)), some (.int fv), some (.int (nI i)), none]) (by decide) rfl ?_
          refine r_gets C (j := 2) dX2_mixWords_155 rfl slRX2_59 ?_
          refine r_iload C dX2_mixWords_158 rfl ?_
          refine r_iconst C dX2_mixWords_160 (v := 4) (by decide) ?_
          refine r_ishr C dX2_mixWords_161 ?_
          refine r_top (y := nI (i / 16)) ((pk_shrN (by omega) _ 4 (by decide)).trans (congrArg nI (show i / 2 ^ 4 = i / 16 by omega))) ?_
          refine r_iconst C dX2_mixWords_162 (v := 4) (by decide) ?_
          refine r_imul C dX2_mixWords_163 ?_
          refine r_top (y := nI ((i / 16) * 4)) (pk_mul (i / 16) 4) ?_
          refine r_iload C dX2_mixWords_164 rfl ?_
          refine r_iconst C dX2_mixWords_166 (v := 3) (by decide) ?_
          refine r_iand C dX2_mixWords_167 ?_
          refine r_top (y := nI (i % 4)) (pk_andN (n := i) (by omega) 2 rfl) ?_
          refine r_iadd C dX2_mixWords_168 ?_
          refine r_top (y := nI (((i / 16) * 4) + (i % 4))) (nI_add ((i / 16) * 4) (i % 4)) ?_
          refine r_tald C dX2_mixWords_169 (j := 2) (t := ((i / 16) * 4) + (i % 4)) rfl rfl rfl (by show _ < 16; omega) (by decide) ?_
          refine r_istore C dX2_mixWords_170 (L' := [some (.ref h), some (.int a), some (.int b), some (.int c), some (.int d), some (.int (nI i)), some (.int fv), some (.int (nI i)), some (.int (tabf turL (((i / 16) * 4) + (i % 4))))]) (by decide) rfl ?_
          refine r_iload C dX2_mixWords_172 rfl ?_
          refine r_istore_n C dX2_mixWords_174 (L' := [some (.ref h), some (.int d), some (.int b), some (.int c), some (.int d), some (.int (nI i)), some (.int fv), some (.int (nI i)), some (.int (tabf turL (((i / 16) * 4) + (i % 4))))]) (by decide) rfl ?_
          refine r_iload_n C dX2_mixWords_175 rfl ?_
          refine r_istore C dX2_mixWords_176 (L' := [some (.ref h), some (.int d), some (.int b), some (.int c), some (.int c), some (.int (nI i)), some (.int fv), some (.int (nI i)), some (.int (tabf turL (((i / 16) * 4) + (i % 4))))]) (by decide) rfl ?_
          refine r_iload_n C dX2_mixWords_178 rfl ?_
          refine r_istore_n C dX2_mixWords_179 (L' := [some (.ref h), some (.int d), some (.int b), some (.int b), some (.int c), some (.int (nI i)), some (.int fv), some (.int (nI i)), some (.int (tabf turL (((i / 16) * 4) + (i % 4))))]) (by decide) rfl ?_
          refine r_iload_n C dX2_mixWords_180 rfl ?_
          refine r_iload C dX2_mixWords_181 rfl ?_
          refine r_iload C dX2_mixWords_183 rfl ?_
          refine r_ishl C dX2_mixWords_185 ?_
          refine r_iload C dX2_mixWords_186 rfl ?_
          refine r_bipush C dX2_mixWords_188 (v := 32) (by decide) ?_
          refine r_iload C dX2_mixWords_190 rfl ?_
          refine r_isub C dX2_mixWords_192 ?_
          refine r_iushr C dX2_mixWords_193 ?_
          refine r_ior C dX2_mixWords_194 ?_
          refine r_iadd C dX2_mixWords_195 ?_
          refine r_istore_n C dX2_mixWords_196 (L' := [some (.ref h), some (.int d), some (.int (b + ((fv <<< ((tabf turL (((i / 16) * 4) + (i % 4))) &&& 31)) ||| ((fv.toUInt32 >>> ((32 - (tabf turL (((i / 16) * 4) + (i % 4)))).toUInt32 &&& Int32.toUInt32 31)).toInt32)))), some (.int b), some (.int c), some (.int (nI i)), some (.int fv), some (.int (nI i)), some (.int (tabf turL (((i / 16) * 4) + (i % 4))))]) (by decide) rfl ?_
          refine r_iinc C dX2_mixWords_197 (v := nI (i + 1)) (L' := [some (.ref h), some (.int d), some (.int (b + ((fv <<< ((tabf turL (((i / 16) * 4) + (i % 4))) &&& 31)) ||| ((fv.toUInt32 >>> ((32 - (tabf turL (((i / 16) * 4) + (i % 4)))).toUInt32 &&& Int32.toUInt32 31)).toInt32)))), some (.int b), some (.int c), some (.int (nI (i + 1))), some (.int fv), some (.int (nI i)), some (.int (tabf turL (((i / 16) * 4) + (i % 4))))]) rfl (nI_add i 1) (by decide) rfl ?_
          refine r_goto C 24 dX2_mixWords_200 (by decide) ?_
          refine r_forget [some (.ref h), some (.int d), some (.int (b + ((fv <<< ((tabf turL (((i / 16) * 4) + (i % 4))) &&& 31)) ||| ((fv.toUInt32 >>> ((32 - (tabf turL (((i / 16) * 4) + (i % 4)))).toUInt32 &&& Int32.toUInt32 31)).toInt32)))), some (.int b), some (.int c), some (.int (nI (i + 1))), none, none, none] ⟨Or.inr rfl, Or.inr rfl, Or.inr rfl, Or.inr rfl, Or.inr rfl, Or.inr rfl, Or.inl rfl, Or.inl rfl, Or.inl rfl, trivial⟩ ?_
          exact ih_24 (i + 1) d (b + ((fv <<< ((tabf turL (((i / 16) * 4) + (i % 4))) &&& 31)) ||| ((fv.toUInt32 >>> ((32 - (tabf turL (((i / 16) * 4) + (i % 4)))).toUInt32 &&& Int32.toUInt32 31)).toInt32))) b c (by omega) (by omega) (by rw [mdR, ← he]; simp only [mdS, mdf, mdF, mdG, mdT, rotl, if_pos (show i < 16 by omega)]; rw [hfv])
  exact loop_24 _ 0 sA sB sC sD (Nat.lt_succ_self _) (by omega) rfl
