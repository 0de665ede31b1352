set_option maxHeartbeats 4000000 in
set_option maxRecDepth 100000 in
theorem cX4_mixTable9 {w : Wo} {s tb a2 b2 : Nat} (l_s : s < NW) (l_tb : tb < NW) (l_a2 : a2 < NW) (l_b2 : b2 < NW) (n_s_tb : s ≠ tb) (n_s_a2 : s ≠ a2) (n_s_b2 : s ≠ b2) (n_tb_a2 : tb ≠ a2) (n_tb_b2 : tb ≠ b2) (n_a2_b2 : a2 ≠ b2) {n2 : Nat} {ft : Nat → Int32} (w_s : w s = ob 4 [.ref tb]) (w_tb : w tb = ia 256 ft) {f2 : Nat → Int32} {ys : List Nat} (w_a2 : w a2 = ob 3 [.ref b2, .int (nI ys.length)]) (w_b2 : w b2 = ia n2 f2) (h_ys : hs f2 ys) (k_ys : ys.length ≤ n2) (hn2 : n2 < 2 ^ 31) {ch : Nat} (hch : ch < 256) (hy0 : 0 < ys.length) (hby : byt ys) : Ctr mX4_mixTable [.ref s, .ref a2, .int (nI ch)] w (PV fun w' => ∃ ft', w' = wset w tb (ia 256 ft') ∧ ht ft' (ksaS ys ch 256).1) := by
  refine Ctr_intro okX4_mixTable rfl (Nat.le_of_ble_eq_true rfl) (L := [some (.ref s), some (.ref a2), some (.int (nI ch)), none, none, none, none]) rfl (fun g ct C T_ => ?_)
  refine r_iconst C dX4_mixTable_0 (v := 0) (by decide) ?_
  refine r_istore_n C dX4_mixTable_1 (L' := [some (.ref s), some (.ref a2), some (.int (nI ch)), some (.int 0), none, none, none]) (by decide) rfl ?_
  have loop_2 : ∀ (d9 : Nat) (i : Nat) (f1 : Nat → Int32), 256 - i < d9 → i ≤ 256 → (∀ k, k < i → f1 k = nI k) → Az g mX4_mixTable ct 0 0 2 [some (.ref s), some (.ref a2), some (.int (nI ch)), some (.int (nI i)), none, none, none] [] (wset w tb (ia 256 f1)) := by
    intro d9
    induction d9 with
    | zero => intro i f1 hd9; exact absurd hd9 (Nat.not_lt_zero _)
    | succ d9 ih_2 =>
      intro i f1 hd9 hi hp
      refine r_iload_n C dX4_mixTable_2 rfl ?_
      refine r_sipush C dX4_mixTable_3 (v := 256) (by decide) ?_
      refine r_icmp_ge C 22 dX4_mixTable_6 (by decide) (fun c_6 => ?_) (fun c_6 => ?_)
      · skip
        have c_6 : 256 ≤ i := (nI_leI (a := 256) (b := i) (by omega) (by omega)).mp c_6
        refine r_iconst C dX4_mixTable_22 (v := 0) (by decide) ?_
        refine r_istore_n C dX4_mixTable_23 (L' := [some (.ref s), some (.ref a2), some (.int (nI ch)), some (.int 0), none, none, none]) (by decide) rfl ?_
        refine r_iconst C dX4_mixTable_24 (v := 0) (by decide) ?_
        refine r_istore C dX4_mixTable_25 (L' := [some (.ref s), some (.ref a2), some (.int (nI ch)), some (.int 0), some (.int 0), none, none]) (by decide) rfl ?_
        refine r_iconst C dX4_mixTable_27 (v := 0) (by decide) ?_
        refine r_istore C dX4_mixTable_28 (L' := [some (.ref s), some (.ref a2), some (.int (nI ch)), some (.int 0), some (.int 0), some (.int 0), none]) (by decide) rfl ?_
        have loop_30 : ∀ (d9 : Nat) (i : Nat) (j : Nat) (kk : Nat) (T : Nat → Nat) (f3 : Nat → Int32), 256 - i < d9 → i ≤ 256 → T = (ksaS ys ch i).1 → j = (ksaS ys ch i).2 → kk = i % ys.length → ht f3 T → Az g mX4_mixTable ct 0 0 30 [some (.ref s), some (.ref a2), some (.int (nI ch)), some (.int (nI j)), some (.int (nI kk)), some (.int (nI i)), none] [] (wset w tb (ia 256 f3)) := by
          intro d9
          induction d9 with
          | zero => intro i j kk T f3 hd9; exact absurd hd9 (Nat.not_lt_zero _)
          | succ d9 ih_30 =>
            intro i j kk T f3 hd9 hi hT hj hk hf3
            have hT6 : t256 T := by rw [hT]; exact (t_ksa ys ch i hi).1
            have hj6 : j < 256 := by rw [hj]; exact (t_ksa ys ch i hi).2
            have hk6 : kk < ys.length := by rw [hk]; exact Nat.mod_lt _ hy0
            refine r_iload C dX4_mixTable_30 rfl ?_
            refine r_sipush C dX4_mixTable_32 (v := 256) (by decide) ?_
            refine r_icmp_ge C 108 dX4_mixTable_35 (by decide) (fun c_35 => ?_) (fun c_35 => ?_)
            · skip
              have c_35 : 256 ≤ i := (nI_leI (a := 256) (b := i) (by omega) (by omega)).mp c_35
              exact r_return C T_ rfl dX4_mixTable_108 (⟨rfl, _, rfl, by rw [hT, show i = 256 by omega] at hf3; exact hf3⟩)
            · skip
              have c_35 : ¬ (256 ≤ i) := fun h9 => c_35 ((nI_leI (a := 256) (b := i) (by omega) (by omega)).mpr h9)
              refine r_aload_n C dX4_mixTable_38 rfl ?_
              refine r_get C dX4_mixTable_39 fgRX4_7 l_s (ws_ne n_s_tb w_s) rfl ?_
              refine r_iload C dX4_mixTable_42 rfl ?_
              refine r_ialdN C dX4_mixTable_44 l_tb ws_eq (j := i) rfl (by omega) (by decide) ?_
              refine r_top (y := nI (T i)) (hf3 i (by omega)) ?_
              have hT7 : T i < 256 := hT6 i (by omega)
              refine r_istore C dX4_mixTable_45 (L' := [some (.ref s), some (.ref a2), some (.int (nI ch)), some (.int (nI j)), some (.int (nI kk)), some (.int (nI i)), some (.int (nI (T i)))]) (by decide) rfl ?_
              refine r_iload_n C dX4_mixTable_47 rfl ?_
              refine r_iload C dX4_mixTable_48 rfl ?_
              refine r_iadd C dX4_mixTable_50 ?_
              refine r_top (y := nI (j + (T i))) (nI_add j (T i)) ?_
              refine r_aload_n C dX4_mixTable_51 rfl ?_
              refine r_get C dX4_mixTable_52 fgRX4_23 l_a2 (ws_ne (Ne.symm n_tb_a2) w_a2) rfl ?_
              refine r_iload C dX4_mixTable_55 rfl ?_
              refine r_ialdN C dX4_mixTable_57 l_b2 (ws_ne (Ne.symm n_tb_b2) w_b2) (j := kk) rfl (by omega) (by omega) ?_
              refine r_top (y := nI (ys.getD kk 0)) (h_ys kk hk6) ?_
              have hx7 : ys.getD kk 0 ^^^ ch < 256 := xor_lt (byt_getD hby kk) hch
              refine r_iload_n C dX4_mixTable_58 rfl ?_
              refine r_ixor C dX4_mixTable_59 ?_
              refine r_top (y := nI ((ys.getD kk 0) ^^^ ch)) (nx_xor9 (ys.getD kk 0) ch) ?_
              refine r_iadd C dX4_mixTable_60 ?_
              refine r_top (y := nI ((j + (T i)) + ((ys.getD kk 0) ^^^ ch))) (nI_add (j + (T i)) ((ys.getD kk 0) ^^^ ch)) ?_
              refine r_sipush C dX4_mixTable_61 (v := 255) (by decide) ?_
              refine r_iand C dX4_mixTable_64 ?_
              refine r_top (y := nI (((j + (T i)) + ((ys.getD kk 0) ^^^ ch)) % 256)) (pk_andN (n := (j + (T i)) + ((ys.getD kk 0) ^^^ ch)) (by omega) 8 rfl) ?_
              obtain ⟨j2, hj2⟩ : ∃ z : Nat, z = ((j + (T i)) + ((ys.getD kk 0) ^^^ ch)) % 256 := ⟨_, rfl⟩
              refine r_top (congrArg nI hj2.symm) ?_
              have hj3 : j2 < 256 := by omega
              refine r_istore_n C dX4_mixTable_65 (L' := [some (.ref s), some (.ref a2), some (.int (nI ch)), some (.int (nI j2)), some (.int (nI kk)), some (.int (nI i)), some (.int (nI (T i)))]) (by decide) rfl ?_
              refine r_aload_n C dX4_mixTable_66 rfl ?_
              refine r_get C dX4_mixTable_67 fgRX4_7 l_s (ws_ne n_s_tb w_s) rfl ?_
              refine r_iload C dX4_mixTable_70 rfl ?_
              refine r_aload_n C dX4_mixTable_72 rfl ?_
              refine r_get C dX4_mixTable_73 fgRX4_7 l_s (ws_ne n_s_tb w_s) rfl ?_
              refine r_iload_n C dX4_mixTable_76 rfl ?_
              refine r_ialdN C dX4_mixTable_77 l_tb ws_eq (j := j2) rfl (by omega) (by decide) ?_
              refine r_top (y := nI (T j2)) (hf3 j2 hj3) ?_
              refine r_iastN C dX4_mixTable_78 l_tb ws_eq (j := i) rfl (by omega) (by decide) ?_
              refine r_eq rfl rfl ws_same ?_
              refine r_aload_n C dX4_mixTable_79 rfl ?_
              refine r_get C dX4_mixTable_80 fgRX4_7 l_s (ws_ne n_s_tb w_s) rfl ?_
              refine r_iload_n C dX4_mixTable_83 rfl ?_
              refine r_iload C dX4_mixTable_84 rfl ?_
              refine r_iastN C dX4_mixTable_86 l_tb ws_eq (j := j2) rfl (by omega) (by decide) ?_
              refine r_eq rfl rfl ws_same ?_
              refine r_iinc C dX4_mixTable_87 (v := nI (kk + 1)) (L' := [some (.ref s), some (.ref a2), some (.int (nI ch)), some (.int (nI j2)), some (.int (nI (kk + 1))), some (.int (nI i)), some (.int (nI (T i)))]) rfl (nI_add kk 1) (by decide) rfl ?_
              refine r_iload C dX4_mixTable_90 rfl ?_
              refine r_aload_n C dX4_mixTable_92 rfl ?_
              refine r_get C dX4_mixTable_93 fgRX4_13 l_a2 (ws_ne (Ne.symm n_tb_a2) w_a2) rfl ?_
              refine r_icmp_lt C 102 dX4_mixTable_96 (by decide) (fun c_96 => ?_) (fun c_96 => ?_)
              · skip
                have c_96 : (kk + 1) < ys.length := (nI_ltI (a := kk + 1) (b := ys.length) (by omega) (by omega)).mp c_96
                refine r_iinc C dX4_mixTable_102 (v := nI (i + 1)) (L' := [some (.ref s), some (.ref a2), some (.int (nI ch)), some (.int (nI j2)), some (.int (nI (kk + 1))), some (.int (nI (i + 1))), some (.int (nI (T i)))]) rfl (nI_add i 1) (by decide) rfl ?_
                refine r_goto C 30 dX4_mixTable_105 (by decide) ?_
                refine r_forget [some (.ref s), some (.ref a2), some (.int (nI ch)), some (.int (nI j2)), some (.int (nI (kk + 1))), some (.int (nI (i + 1))), none] ⟨Or.inr rfl, Or.inr rfl, Or.inr rfl, Or.inr rfl, Or.inr rfl, Or.inr rfl, Or.inl rfl, trivial⟩ ?_
                exact ih_30 (i + 1) j2 (kk + 1) (swp T i j2) _ (by omega) (by omega) (by rw [hj2, hk, hj, hT]; rfl) (by rw [hj2, hk, hj, hT]; rfl) (modS1 hk c_96) (ht_swp' hf3 (by omega) hj3)
              · skip
                have c_96 : ¬ ((kk + 1) < ys.length) := fun h9 => c_96 ((nI_ltI (a := kk + 1) (b := ys.length) (by omega) (by omega)).mpr h9)
                refine r_iconst C dX4_mixTable_99 (v := 0) (by decide) ?_
                refine r_istore C dX4_mixTable_100 (L' := [some (.ref s), some (.ref a2), some (.int (nI ch)), some (.int (nI j2)), some (.int 0), some (.int (nI i)), some (.int (nI (T i)))]) (by decide) rfl ?_
                refine r_iinc C dX4_mixTable_102 (v := nI (i + 1)) (L' := [some (.ref s), some (.ref a2), some (.int (nI ch)), some (.int (nI j2)), some (.int 0), some (.int (nI (i + 1))), some (.int (nI (T i)))]) rfl (nI_add i 1) (by decide) rfl ?_
                refine r_goto C 30 dX4_mixTable_105 (by decide) ?_
                refine r_forget [some (.ref s), some (.ref a2), some (.int (nI ch)), some (.int (nI j2)), some (.int 0), some (.int (nI (i + 1))), none] ⟨Or.inr rfl, Or.inr rfl, Or.inr rfl, Or.inr rfl, Or.inr rfl, Or.inr rfl, Or.inl rfl, trivial⟩ ?_
                exact ih_30 (i + 1) j2 0 (swp T i j2) _ (by omega) (by omega) (by rw [hj2, hk, hj, hT]; rfl) (by rw [hj2, hk, hj, hT]; rfl) (modS0 hk c_96 hy0) (ht_swp' hf3 (by omega) hj3)
        exact loop_30 _ 0 0 0 id f1 (Nat.lt_succ_self _) (by omega) rfl rfl (by rw [Nat.zero_mod]) (ht_id (fun k hk => hp k (by omega)))
      · skip
        have c_6 : ¬ (256 ≤ i) := fun h9 => c_6 ((nI_leI (a := 256) (b := i) (by omega) (by omega)).mpr h9)
        refine r_aload_n C dX4_mixTable_9 rfl ?_
        refine r_get C dX4_mixTable_10 fgRX4_7 l_s (ws_ne n_s_tb w_s) rfl ?_
        refine r_iload_n C dX4_mixTable_13 rfl ?_
        refine r_iload_n C dX4_mixTable_14 rfl ?_
        refine r_iastN C dX4_mixTable_15 l_tb ws_eq (j := i) rfl (by omega) (by decide) ?_
        refine r_eq rfl rfl ws_same ?_
        refine r_iinc C dX4_mixTable_16 (v := nI (i + 1)) (L' := [some (.ref s), some (.ref a2), some (.int (nI ch)), some (.int (nI (i + 1))), none, none, none]) rfl (nI_add i 1) (by decide) rfl ?_
        refine r_goto C 2 dX4_mixTable_19 (by decide) ?_
        exact ih_2 (i + 1) _ (by omega) (by omega) (up_lt hp rfl)
  refine r_eq rfl rfl (ws_self w_tb).symm ?_
  exact loop_2 _ 0 ft (Nat.lt_succ_self _) (by omega) (fun k hk => absurd hk (Nat.not_lt_zero k))
set_option maxHeartbeats 4000000 in
set_option maxRecDepth 100000 in
theorem cX4_stream9 {w : Wo} {s tb a2 b2 a b : Nat} (l_s : s < NW) (l_tb : tb < NW) (l_a2 : a2 < NW) (l_b2 : b2 < NW) (l_a : a < NW) (l_b : b < NW) (n_s_tb : s ≠ tb) (n_s_a2 : s ≠ a2) (n_s_b2 : s ≠ b2) (n_s_a : s ≠ a) (n_s_b : s ≠ b) (n_tb_a2 : tb ≠ a2) (n_tb_b2 : tb ≠ b2) (n_tb_a : tb ≠ a) (n_tb_b : tb ≠ b) (n_a2_b2 : a2 ≠ b2) (n_a2_a : a2 ≠ a) (n_a2_b : a2 ≠ b) (n_b2_a : b2 ≠ a) (n_b2_b : b2 ≠ b) (n_a_b : a ≠ b) {n2 n : Nat} {ft : Nat → Int32} (w_s : w s = ob 4 [.ref tb]) (w_tb : w tb = ia 256 ft) {f2 : Nat → Int32} {ys : List Nat} (w_a2 : w a2 = ob 3 [.ref b2, .int (nI ys.length)]) (w_b2 : w b2 = ia n2 f2) (h_ys : hs f2 ys) (k_ys : ys.length ≤ n2) (hn2 : n2 < 2 ^ 31) {ch : Nat} (hch : ch < 256) (hy0 : 0 < ys.length) (hby : byt ys) {f : Nat → Int32} {xs : List Nat} (w_a : w a = ob 3 [.ref b, .int (nI xs.length)]) (w_b : w b = ia n f) (h_xs : hs f xs) (k_xs : xs.length ≤ n) (hn : n < 2 ^ 31) : Ctr mX4_stream [.ref s, .ref a, .ref a2, .int (nI ch)] w (PV fun w' => ∃ ft' f', w' = wset (wset w tb (ia 256 ft')) b (ia n f') ∧ hs f' (strm ys ch xs)) := by
  refine Ctr_intro okX4_stream rfl (Nat.le_of_ble_eq_true rfl) (L := [some (.ref s), some (.ref a), some (.ref a2), some (.int (nI ch)), none, none, none, none, none]) rfl (fun g ct C T_ => ?_)
  refine r_aload_n C dX4_stream_0 rfl ?_
  refine r_get C dX4_stream_1 fgRX4_13 l_a2 w_a2 rfl ?_
  refine r_if_ne C 8 dX4_stream_4 (by decide) (fun c_4 => ?_) (fun c_4 => ?_)
  · skip
    refine r_aload_n C dX4_stream_8 rfl ?_
    refine r_aload_n C dX4_stream_9 rfl ?_
    refine r_iload_n C dX4_stream_10 rfl ?_
    refine r_callVv C (As := [.ref a2, .int (nI ch)]) (rest := []) dX4_stream_11 (cX4_mixTable9 l_s l_tb l_a2 l_b2 n_s_tb n_s_a2 n_s_b2 n_tb_a2 n_tb_b2 n_a2_b2 w_s w_tb w_a2 w_b2 h_ys k_ys hn2 hch hy0 hby) okX4_mixTable mlRX4_19 imX4_mixTable seX4_mixTable ⟨by decide, by decide⟩ rfl rfl l_s w_s rfl rfl (Nat.le_of_ble_eq_true rfl) (by decide) (by decide) (fun w9 h9 => ?_)
    obtain ⟨f0, rfl, h0⟩ := h9
    refine r_iconst C dX4_stream_14 (v := 0) (by decide) ?_
    refine r_istore C dX4_stream_15 (L' := [some (.ref s), some (.ref a), some (.ref a2), some (.int (nI ch)), some (.int 0), none, none, none, none]) (by decide) rfl ?_
    refine r_iconst C dX4_stream_17 (v := 0) (by decide) ?_
    refine r_istore C dX4_stream_18 (L' := [some (.ref s), some (.ref a), some (.ref a2), some (.int (nI ch)), some (.int 0), some (.int 0), none, none, none]) (by decide) rfl ?_
    refine r_iconst C dX4_stream_20 (v := 0) (by decide) ?_
    refine r_istore C dX4_stream_21 (L' := [some (.ref s), some (.ref a), some (.ref a2), some (.int (nI ch)), some (.int 0), some (.int 0), some (.int 0), none, none]) (by decide) rfl ?_
    have loop_23 : ∀ (d9 : Nat) (k : Nat) (i0 : Nat) (j : Nat) (T : Nat → Nat) (f3 : Nat → Int32) (f1 : Nat → Int32), xs.length - k < d9 → k ≤ xs.length → i0 = k % 256 → T = (prg (ksaS ys ch 256).1 k).1 → j = (prg (ksaS ys ch 256).1 k).2 → ht f3 T → (∀ m, m < k → f1 m = nI (xs.getD m 0 ^^^ prb (ksaS ys ch 256).1 m)) → (∀ m, k ≤ m → m < xs.length → f1 m = nI (xs.getD m 0)) → Az g mX4_stream ct 0 0 23 [some (.ref s), some (.ref a), some (.ref a2), some (.int (nI ch)), some (.int (nI i0)), some (.int (nI j)), some (.int (nI k)), none, none] [] (wset (wset w tb (ia 256 f3)) b (ia n f1)) := by
      intro d9
      induction d9 with
      | zero => intro k i0 j T f3 f1 hd9; exact absurd hd9 (Nat.not_lt_zero _)
      | succ d9 ih_23 =>
        intro k i0 j T f3 f1 hd9 hk hi0 hT hj hf3 hlo hhi
        have hT6 : t256 T := by rw [hT]; exact (t_prg (t_ksa ys ch 256 (Nat.le_refl _)).1 k).1
        have hj6 : j < 256 := by rw [hj]; exact (t_prg (t_ksa ys ch 256 (Nat.le_refl _)).1 k).2
        refine r_iload C dX4_stream_23 rfl ?_
        refine r_aload_n C dX4_stream_25 rfl ?_
        refine r_get C dX4_stream_26 fgRX4_13 l_a (ws_ne n_a_b (ws_ne (Ne.symm n_tb_a) w_a)) rfl ?_
        refine r_icmp_ge C 119 dX4_stream_29 (by decide) (fun c_29 => ?_) (fun c_29 => ?_)
        · skip
          have c_29 : xs.length ≤ k := (nI_leI (a := xs.length) (b := k) (by omega) (by omega)).mp c_29
          exact r_return C T_ rfl dX4_stream_119 (⟨rfl, _, _, rfl, hs_pre (strm_len _ _ _) (fun m hm => hlo m (by omega)) (fun m hm => xorS_at _ _ hm)⟩)
        · skip
          have c_29 : ¬ (xs.length ≤ k) := fun h9 => c_29 ((nI_leI (a := xs.length) (b := k) (by omega) (by omega)).mpr h9)
          refine r_iload C dX4_stream_32 rfl ?_
          refine r_iconst C dX4_stream_34 (v := 1) (by decide) ?_
          refine r_iadd C dX4_stream_35 ?_
          refine r_top (y := nI (i0 + 1)) (nI_add i0 1) ?_
          refine r_sipush C dX4_stream_36 (v := 255) (by decide) ?_
          refine r_iand C dX4_stream_39 ?_
          refine r_top (y := nI ((k + 1) % 256)) ((pk_andN (n := i0 + 1) (by omega) 8 rfl).trans (congrArg nI (show (i0 + 1) % 2 ^ 8 = (k + 1) % 256 by omega))) ?_
          obtain ⟨i1, hi1⟩ : ∃ z : Nat, z = (k + 1) % 256 := ⟨_, rfl⟩
          refine r_top (congrArg nI hi1.symm) ?_
          have hi2 : i1 < 256 := by omega
          refine r_istore C dX4_stream_40 (L' := [some (.ref s), some (.ref a), some (.ref a2), some (.int (nI ch)), some (.int (nI i1)), some (.int (nI j)), some (.int (nI k)), none, none]) (by decide) rfl ?_
          refine r_aload_n C dX4_stream_42 rfl ?_
          refine r_get C dX4_stream_43 fgRX4_7 l_s (ws_ne n_s_b (ws_ne n_s_tb w_s)) rfl ?_
          refine r_iload C dX4_stream_46 rfl ?_
          refine r_ialdN C dX4_stream_48 l_tb (ws_ne n_tb_b ws_eq) (j := i1) rfl (by omega) (by decide) ?_
          refine r_top (y := nI (T i1)) (hf3 i1 hi2) ?_
          have hT7 : T i1 < 256 := hT6 i1 hi2
          refine r_istore C dX4_stream_49 (L' := [some (.ref s), some (.ref a), some (.ref a2), some (.int (nI ch)), some (.int (nI i1)), some (.int (nI j)), some (.int (nI k)), some (.int (nI (T i1))), none]) (by decide) rfl ?_
          refine r_iload C dX4_stream_51 rfl ?_
          refine r_iload C dX4_stream_53 rfl ?_
          refine r_iadd C dX4_stream_55 ?_
          refine r_top (y := nI (j + (T i1))) (nI_add j (T i1)) ?_
          refine r_sipush C dX4_stream_56 (v := 255) (by decide) ?_
          refine r_iand C dX4_stream_59 ?_
          refine r_top (y := nI ((j + (T i1)) % 256)) (pk_andN (n := j + (T i1)) (by omega) 8 rfl) ?_
          obtain ⟨j1, hj1⟩ : ∃ z : Nat, z = (j + (T i1)) % 256 := ⟨_, rfl⟩
          refine r_top (congrArg nI hj1.symm) ?_
          have hj2 : j1 < 256 := by omega
          refine r_istore C dX4_stream_60 (L' := [some (.ref s), some (.ref a), some (.ref a2), some (.int (nI ch)), some (.int (nI i1)), some (.int (nI j1)), some (.int (nI k)), some (.int (nI (T i1))), none]) (by decide) rfl ?_
          refine r_aload_n C dX4_stream_62 rfl ?_
          refine r_get C dX4_stream_63 fgRX4_7 l_s (ws_ne n_s_b (ws_ne n_s_tb w_s)) rfl ?_
          refine r_iload C dX4_stream_66 rfl ?_
          refine r_ialdN C dX4_stream_68 l_tb (ws_ne n_tb_b ws_eq) (j := j1) rfl (by omega) (by decide) ?_
          refine r_top (y := nI (T j1)) (hf3 j1 hj2) ?_
          have hT8 : T j1 < 256 := hT6 j1 hj2
          refine r_istore C dX4_stream_69 (L' := [some (.ref s), some (.ref a), some (.ref a2), some (.int (nI ch)), some (.int (nI i1)), some (.int (nI j1)), some (.int (nI k)), some (.int (nI (T i1))), some (.int (nI (T j1)))]) (by decide) rfl ?_
          refine r_aload_n C dX4_stream_71 rfl ?_
          refine r_get C dX4_stream_72 fgRX4_7 l_s (ws_ne n_s_b (ws_ne n_s_tb w_s)) rfl ?_
          refine r_iload C dX4_stream_75 rfl ?_
          refine r_iload C dX4_stream_77 rfl ?_
          refine r_iastN C dX4_stream_79 l_tb (ws_ne n_tb_b ws_eq) (j := i1) rfl (by omega) (by decide) ?_
          refine r_eq rfl rfl ((ws_comm n_tb_b).trans (congrArg (fun z => wset z b (ia n f1)) ws_same)) ?_
          refine r_aload_n C dX4_stream_80 rfl ?_
          refine r_get C dX4_stream_81 fgRX4_7 l_s (ws_ne n_s_b (ws_ne n_s_tb w_s)) rfl ?_
          refine r_iload C dX4_stream_84 rfl ?_
          refine r_iload C dX4_stream_86 rfl ?_
          refine r_iastN C dX4_stream_88 l_tb (ws_ne n_tb_b ws_eq) (j := j1) rfl (by omega) (by decide) ?_
          refine r_eq rfl rfl ((ws_comm n_tb_b).trans (congrArg (fun z => wset z b (ia n f1)) ws_same)) ?_
          refine r_aload_n C dX4_stream_89 rfl ?_
          refine r_get C dX4_stream_90 fgRX4_23 l_a (ws_ne n_a_b (ws_ne (Ne.symm n_tb_a) w_a)) rfl ?_
          refine r_iload C dX4_stream_93 rfl ?_
          refine r_dup2 C dX4_stream_95 rfl rfl ?_
          refine r_ialdN C dX4_stream_96 l_b ws_eq (j := k) rfl (by omega) (by omega) ?_
          refine r_top (y := nI (xs.getD k 0)) (hhi k (Nat.le_refl _) (by omega)) ?_
          refine r_aload_n C dX4_stream_97 rfl ?_
          refine r_get C dX4_stream_98 fgRX4_7 l_s (ws_ne n_s_b (ws_ne n_s_tb w_s)) rfl ?_
          refine r_iload C dX4_stream_101 rfl ?_
          refine r_iload C dX4_stream_103 rfl ?_
          refine r_iadd C dX4_stream_105 ?_
          refine r_top (y := nI ((T i1) + (T j1))) (nI_add (T i1) (T j1)) ?_
          refine r_sipush C dX4_stream_106 (v := 255) (by decide) ?_
          refine r_iand C dX4_stream_109 ?_
          refine r_top (y := nI (((T i1) + (T j1)) % 256)) (pk_andN (n := (T i1) + (T j1)) (by omega) 8 rfl) ?_
          refine r_ialdN C dX4_stream_110 l_tb (ws_ne n_tb_b ws_eq) (j := ((T i1) + (T j1)) % 256) rfl (by omega) (by decide) ?_
          refine r_top (y := nI (swp T i1 j1 ((T i1 + T j1) % 256))) (ht_swp' hf3 hi2 hj2 _ (Nat.mod_lt _ (by decide))) ?_
          have hprb : prb (ksaS ys ch 256).1 k = swp T i1 j1 ((T i1 + T j1) % 256) := by rw [hj1, hi1, hj, hT]; rfl
          refine r_ixor C dX4_stream_111 ?_
          refine r_top (y := nI ((xs.getD k 0) ^^^ (swp T i1 j1 ((T i1 + T j1) % 256)))) (nx_xor9 (xs.getD k 0) (swp T i1 j1 ((T i1 + T j1) % 256))) ?_
          refine r_iastN C dX4_stream_112 l_b ws_eq (j := k) rfl (by omega) (by omega) ?_
          refine r_eq rfl rfl ws_same ?_
          refine r_iinc C dX4_stream_113 (v := nI (k + 1)) (L' := [some (.ref s), some (.ref a), some (.ref a2), some (.int (nI ch)), some (.int (nI i1)), some (.int (nI j1)), some (.int (nI (k + 1))), some (.int (nI (T i1))), some (.int (nI (T j1)))]) rfl (nI_add k 1) (by decide) rfl ?_
          refine r_goto C 23 dX4_stream_116 (by decide) ?_
          refine r_forget [some (.ref s), some (.ref a), some (.ref a2), some (.int (nI ch)), some (.int (nI i1)), some (.int (nI j1)), some (.int (nI (k + 1))), none, none] ⟨Or.inr rfl, Or.inr rfl, Or.inr rfl, Or.inr rfl, Or.inr rfl, Or.inr rfl, Or.inr rfl, Or.inl rfl, Or.inl rfl, trivial⟩ ?_
          exact ih_23 (k + 1) i1 j1 (swp T i1 j1) _ _ (by omega) (by omega) hi1 (by rw [hj1, hi1, hj, hT]; rfl) (by rw [hj1, hi1, hj, hT]; rfl) (ht_swp' hf3 hi2 hj2) (up_lt hlo (by rw [hprb])) (up_ge hhi)
    refine r_eq rfl rfl (ws_self (ws_ne (Ne.symm n_tb_b) w_b)).symm ?_
    exact loop_23 _ 0 0 0 ((ksaS ys ch 256).1) f0 f (Nat.lt_succ_self _) (by omega) rfl rfl rfl h0 (fun m hm => absurd hm (Nat.not_lt_zero m)) (fun m _ hm => h_xs m hm)
  · skip
    exact absurd c_4 (nI_ne0 hy0 (by omega))
