theorem swp_sum (T : Nat → Nat) (i j : Nat) : swp T i j i + swp T i j j = T i + T j := by
  unfold swp
  by_cases h : i = j
  · subst h
    simp
  · simp [h, Nat.add_comm]
theorem hs_two {f : Nat → Int32} {hl e1 e2 : List Nat} {ch : Nat} (h1 : ∀ m, m < e1.length → f m = nI (e1.getD m 0 ^^^ prb (ksaS hl ch 256).1 m)) (h2 : ∀ m, e1.length ≤ m → m < (e1 ++ e2).length → f m = nI ((e1 ++ e2).getD m 0)) : hs f (strm hl ch e1 ++ e2) := by
  intro m hm
  rw [List.length_append, strm_len] at hm
  by_cases e : m < e1.length
  · rw [h1 m e, gd_left (by rw [strm_len]; exact e)]
    exact congrArg nI (xorS_at _ _ e).symm
  · rw [h2 m (by omega) (by rw [List.length_append]; exact hm), gd_right (by omega), gd_right (by rw [strm_len]; omega), strm_len]
theorem padd_at (pw : List Nat) {k : Nat} (hk : k < 32) : (padd pw).getD k 0 = if k < min pw.length 32 then pw.getD k 0 else padN.getD (k - min pw.length 32) 0 := by
  unfold padd
  by_cases h : k < min pw.length 32
  · rw [if_pos h, gd_left (by rw [List.length_take]; omega)]
    simp [List.getD, List.getElem?_take_of_lt h]
  · rw [if_neg h, gd_right (by rw [List.length_take]; omega), List.length_take, show min (min pw.length 32) pw.length = min pw.length 32 by omega]
    have : k - min pw.length 32 < 32 - min pw.length 32 := by omega
    simp [List.getD, List.getElem?_take_of_lt this]
set_option maxHeartbeats 4000000 in
set_option maxRecDepth 100000 in
theorem cX6_mix9 {w : Wo} {fh : Nat → Int32} {hl : List Nat} (w_50 : w 50 = ia 16 fh) (h_hl : hs fh hl) (k_hl : hl.length ≤ 16) (hl0 : 0 < hl.length) (hbh : byt hl) {ch : Nat} (hch : ch < 256) {fa sz rz rv ln pm lo ns os uz ik ms : Int32} (w_35 : w 35 = mo fa sz rz rv ln pm lo ns os uz ik ms (nI hl.length)) {ft : Nat → Int32} (w_51 : w 51 = ia 256 ft) : Ctr mX6_mix [.ref 35, .int (nI ch)] w (PV fun w' => ∃ ft', w' = wset w 51 (ia 256 ft') ∧ ht ft' (ksaS hl ch 256).1) := by
  refine Ctr_intro okX6_mix rfl (Nat.le_of_ble_eq_true rfl) (L := [some (.ref 35), some (.int (nI ch)), none, none, none]) rfl (fun g ct C T_ => ?_)
  refine r_iconst C dX6_mix_0 (v := 0) (by decide) ?_
  refine r_istore_n C dX6_mix_1 (L' := [some (.ref 35), some (.int (nI ch)), some (.int 0), none, none]) (by decide) rfl ?_
  have loop_2 : ∀ (d9 : Nat) (i : Nat) (f1 : Nat → Int32), 256 - i < d9 → i ≤ 256 → (∀ k, k < i → f1 k = nI k) → Az g mX6_mix ct 0 0 2 [some (.ref 35), some (.int (nI ch)), some (.int (nI i)), none, none] [] (wset w 51 (ia 256 f1)) := by
    intro d9
    induction d9 with
    | zero => intro i f1 hd9; exact absurd hd9 (Nat.not_lt_zero _)
    | succ d9 ih_2 =>
      intro i f1 hd9 hi hp
      refine r_iload_n C dX6_mix_2 rfl ?_
      refine r_sipush C dX6_mix_3 (v := 256) (by decide) ?_
      refine r_icmp_ge C 22 dX6_mix_6 (by decide) (fun c_6 => ?_) (fun c_6 => ?_)
      · skip
        have c_6 : 256 ≤ i := (nI_leI (a := 256) (b := i) (by omega) (by omega)).mp c_6
        refine r_iconst C dX6_mix_22 (v := 0) (by decide) ?_
        refine r_istore_n C dX6_mix_23 (L' := [some (.ref 35), some (.int (nI ch)), some (.int 0), none, none]) (by decide) rfl ?_
        refine r_iconst C dX6_mix_24 (v := 0) (by decide) ?_
        refine r_istore_n C dX6_mix_25 (L' := [some (.ref 35), some (.int (nI ch)), some (.int 0), some (.int 0), none]) (by decide) rfl ?_
        have loop_26 : ∀ (d9 : Nat) (i : Nat) (j : Nat) (T : Nat → Nat) (f3 : Nat → Int32), 256 - i < d9 → i ≤ 256 → T = (ksaS hl ch i).1 → j = (ksaS hl ch i).2 → ht f3 T → Az g mX6_mix ct 0 0 26 [some (.ref 35), some (.int (nI ch)), some (.int (nI j)), some (.int (nI i)), none] [] (wset w 51 (ia 256 f3)) := by
          intro d9
          induction d9 with
          | zero => intro i j T f3 hd9; exact absurd hd9 (Nat.not_lt_zero _)
          | succ d9 ih_26 =>
            intro i j T f3 hd9 hi hT hj hf3
            have hT6 : t256 T := by rw [hT]; exact (t_ksa hl ch i hi).1
            have hj6 : j < 256 := by rw [hj]; exact (t_ksa hl ch i hi).2
            have him := Nat.mod_lt i hl0
            refine r_iload_n C dX6_mix_26 rfl ?_
            refine r_sipush C dX6_mix_27 (v := 256) (by decide) ?_
            refine r_icmp_ge C 94 dX6_mix_30 (by decide) (fun c_30 => ?_) (fun c_30 => ?_)
            · skip
              have c_30 : 256 ≤ i := (nI_leI (a := 256) (b := i) (by omega) (by omega)).mp c_30
              exact r_return C T_ rfl dX6_mix_94 (⟨rfl, _, rfl, by rw [hT, show i = 256 by omega] at hf3; exact hf3⟩)
            · skip
              have c_30 : ¬ (256 ≤ i) := fun h9 => c_30 ((nI_leI (a := 256) (b := i) (by omega) (by omega)).mpr h9)
              refine r_iload_n C dX6_mix_33 rfl ?_
              refine r_aload_n C dX6_mix_34 rfl ?_
              refine r_get C dX6_mix_35 fgRX6_129 (Nat.le_of_ble_eq_true rfl) (ws_ne (Nat.ne_of_beq_eq_false rfl) w_35) rfl ?_
              refine r_iload_n C dX6_mix_38 rfl ?_
              refine r_ialdN C dX6_mix_39 (Nat.le_of_ble_eq_true rfl) ws_eq (j := i) rfl (by omega) (by decide) ?_
              refine r_top (y := nI (T i)) (hf3 i (by omega)) ?_
              have hT7 : T i < 256 := hT6 i (by omega)
              refine r_iadd C dX6_mix_40 ?_
              refine r_top (y := nI (j + (T i))) (nI_add j (T i)) ?_
              refine r_aload_n C dX6_mix_41 rfl ?_
              refine r_get C dX6_mix_42 fgRX6_126 (Nat.le_of_ble_eq_true rfl) (ws_ne (Nat.ne_of_beq_eq_false rfl) w_35) rfl ?_
              refine r_iload_n C dX6_mix_45 rfl ?_
              refine r_aload_n C dX6_mix_46 rfl ?_
              refine r_get C dX6_mix_47 fgRX6_188 (Nat.le_of_ble_eq_true rfl) (ws_ne (Nat.ne_of_beq_eq_false rfl) w_35) rfl ?_
              refine r_irem C dX6_mix_50 (nI_ne0 hl0 (by omega)) ?_
              refine r_top (y := nI (i % hl.length)) (pk_rem (a := i) (d := hl.length) (by omega) (by omega) (by omega)) ?_
              refine r_ialdN C dX6_mix_51 (Nat.le_of_ble_eq_true rfl) (ws_ne (Nat.ne_of_beq_eq_false rfl) w_50) (j := i % hl.length) rfl (by omega) (by decide) ?_
              refine r_top (y := nI (hl.getD (i % hl.length) 0)) (h_hl _ him) ?_
              have hx7 : hl.getD (i % hl.length) 0 ^^^ ch < 256 := xor_lt (byt_getD hbh _) hch
              refine r_iload_n C dX6_mix_52 rfl ?_
              refine r_ixor C dX6_mix_53 ?_
              refine r_top (y := nI ((hl.getD (i % hl.length) 0) ^^^ ch)) (nx_xor9 (hl.getD (i % hl.length) 0) ch) ?_
              refine r_iadd C dX6_mix_54 ?_
              refine r_top (y := nI ((j + (T i)) + ((hl.getD (i % hl.length) 0) ^^^ ch))) (nI_add (j + (T i)) ((hl.getD (i % hl.length) 0) ^^^ ch)) ?_
              refine r_sipush C dX6_mix_55 (v := 256) (by decide) ?_
              refine r_irem C dX6_mix_58 (by decide) ?_
              refine r_top (y := nI (((j + (T i)) + ((hl.getD (i % hl.length) 0) ^^^ ch)) % 256)) (pk_rem (a := (j + (T i)) + ((hl.getD (i % hl.length) 0) ^^^ ch)) (d := 256) (by omega) (by omega) (by omega)) ?_
              obtain ⟨j2, hj2⟩ : ∃ z : Nat, z = ((j + (T i)) + ((hl.getD (i % hl.length) 0) ^^^ ch)) % 256 := ⟨_, rfl⟩
              refine r_top (congrArg nI hj2.symm) ?_
              have hj3 : j2 < 256 := by omega
              refine r_istore_n C dX6_mix_59 (L' := [some (.ref 35), some (.int (nI ch)), some (.int (nI j2)), some (.int (nI i)), none]) (by decide) rfl ?_
              refine r_aload_n C dX6_mix_60 rfl ?_
              refine r_get C dX6_mix_61 fgRX6_129 (Nat.le_of_ble_eq_true rfl) (ws_ne (Nat.ne_of_beq_eq_false rfl) w_35) rfl ?_
              refine r_iload_n C dX6_mix_64 rfl ?_
              refine r_ialdN C dX6_mix_65 (Nat.le_of_ble_eq_true rfl) ws_eq (j := i) rfl (by omega) (by decide) ?_
              refine r_top (y := nI (T i)) (hf3 i (by omega)) ?_
              refine r_istore C dX6_mix_66 (L' := [some (.ref 35), some (.int (nI ch)), some (.int (nI j2)), some (.int (nI i)), some (.int (nI (T i)))]) (by decide) rfl ?_
              refine r_aload_n C dX6_mix_68 rfl ?_
              refine r_get C dX6_mix_69 fgRX6_129 (Nat.le_of_ble_eq_true rfl) (ws_ne (Nat.ne_of_beq_eq_false rfl) w_35) rfl ?_
              refine r_iload_n C dX6_mix_72 rfl ?_
              refine r_aload_n C dX6_mix_73 rfl ?_
              refine r_get C dX6_mix_74 fgRX6_129 (Nat.le_of_ble_eq_true rfl) (ws_ne (Nat.ne_of_beq_eq_false rfl) w_35) rfl ?_
              refine r_iload_n C dX6_mix_77 rfl ?_
              refine r_ialdN C dX6_mix_78 (Nat.le_of_ble_eq_true rfl) ws_eq (j := j2) rfl (by omega) (by decide) ?_
              refine r_top (y := nI (T j2)) (hf3 j2 hj3) ?_
              refine r_iastN C dX6_mix_79 (Nat.le_of_ble_eq_true rfl) ws_eq (j := i) rfl (by omega) (by decide) ?_
              refine r_eq rfl rfl ws_same ?_
              refine r_aload_n C dX6_mix_80 rfl ?_
              refine r_get C dX6_mix_81 fgRX6_129 (Nat.le_of_ble_eq_true rfl) (ws_ne (Nat.ne_of_beq_eq_false rfl) w_35) rfl ?_
              refine r_iload_n C dX6_mix_84 rfl ?_
              refine r_iload C dX6_mix_85 rfl ?_
              refine r_iastN C dX6_mix_87 (Nat.le_of_ble_eq_true rfl) ws_eq (j := j2) rfl (by omega) (by decide) ?_
              refine r_eq rfl rfl ws_same ?_
              refine r_iinc C dX6_mix_88 (v := nI (i + 1)) (L' := [some (.ref 35), some (.int (nI ch)), some (.int (nI j2)), some (.int (nI (i + 1))), some (.int (nI (T i)))]) rfl (nI_add i 1) (by decide) rfl ?_
              refine r_goto C 26 dX6_mix_91 (by decide) ?_
              refine r_forget [some (.ref 35), some (.int (nI ch)), some (.int (nI j2)), some (.int (nI (i + 1))), none] ⟨Or.inr rfl, Or.inr rfl, Or.inr rfl, Or.inr rfl, Or.inl rfl, trivial⟩ ?_
              exact ih_26 (i + 1) j2 (swp T i j2) _ (by omega) (by omega) (by rw [hj2, hj, hT]; rfl) (by rw [hj2, hj, hT]; rfl) (ht_swp' hf3 (by omega) hj3)
        exact loop_26 _ 0 0 id f1 (Nat.lt_succ_self _) (by omega) rfl rfl (ht_id (fun k hk => hp k (by omega)))
      · skip
        have c_6 : ¬ (256 ≤ i) := fun h9 => c_6 ((nI_leI (a := 256) (b := i) (by omega) (by omega)).mpr h9)
        refine r_aload_n C dX6_mix_9 rfl ?_
        refine r_get C dX6_mix_10 fgRX6_129 (Nat.le_of_ble_eq_true rfl) (ws_ne (Nat.ne_of_beq_eq_false rfl) w_35) rfl ?_
        refine r_iload_n C dX6_mix_13 rfl ?_
        refine r_iload_n C dX6_mix_14 rfl ?_
        refine r_iastN C dX6_mix_15 (Nat.le_of_ble_eq_true rfl) ws_eq (j := i) rfl (by omega) (by decide) ?_
        refine r_eq rfl rfl ws_same ?_
        refine r_iinc C dX6_mix_16 (v := nI (i + 1)) (L' := [some (.ref 35), some (.int (nI ch)), some (.int (nI (i + 1))), none, none]) rfl (nI_add i 1) (by decide) rfl ?_
        refine r_goto C 2 dX6_mix_19 (by decide) ?_
        exact ih_2 (i + 1) _ (by omega) (by omega) (up_lt hp rfl)
  refine r_eq rfl rfl (ws_self w_51).symm ?_
  exact loop_2 _ 0 ft (Nat.lt_succ_self _) (by omega) (fun k hk => absurd hk (Nat.not_lt_zero k))
set_option maxHeartbeats 4000000 in
set_option maxRecDepth 100000 in
theorem cX6_stream9 {w : Wo} {fh : Nat → Int32} {hl : List Nat} (w_50 : w 50 = ia 16 fh) (h_hl : hs fh hl) (k_hl : hl.length ≤ 16) (hl0 : 0 < hl.length) (hbh : byt hl) {ch : Nat} (hch : ch < 256) {fa sz rz rv ln pm lo ns os uz ik ms : Int32} (w_35 : w 35 = mo fa sz rz rv ln pm lo ns os uz ik ms (nI hl.length)) {ft : Nat → Int32} (w_51 : w 51 = ia 256 ft) {fe : Nat → Int32} {e1 e2 : List Nat} (w_52 : w 52 = ia 32 fe) (h_e : hs fe (e1 ++ e2)) (k_e : e1.length + e2.length ≤ 32) {mm : Nat} (hmm : mm = e1.length) : Ctr mX6_stream [.ref 35, .int (nI ch), .int (nI mm)] w (PV fun w' => ∃ ft' fe', w' = wset (wset w 51 (ia 256 ft')) 52 (ia 32 fe') ∧ hs fe' (strm hl ch e1 ++ e2)) := by
  refine Ctr_intro okX6_stream rfl (Nat.le_of_ble_eq_true rfl) (L := [some (.ref 35), some (.int (nI ch)), some (.int (nI mm)), none, none, none, none]) rfl (fun g ct C T_ => ?_)
  refine r_aload_n C dX6_stream_0 rfl ?_
  refine r_iload_n C dX6_stream_1 rfl ?_
  refine r_callVv C (As := [.int (nI ch)]) (rest := []) dX6_stream_2 (cX6_mix9 w_50 h_hl k_hl hl0 hbh (ch := ch) hch w_35 w_51) okX6_mix mlRX6_191 imX6_mix seX6_mix ⟨by decide, by decide⟩ rfl rfl (Nat.le_of_ble_eq_true rfl) w_35 rfl rfl (Nat.le_of_ble_eq_true rfl) (by decide) (by decide) (fun w9 h9 => ?_)
  obtain ⟨f0, rfl, h0⟩ := h9
  refine r_iconst C dX6_stream_5 (v := 0) (by decide) ?_
  refine r_istore_n C dX6_stream_6 (L' := [some (.ref 35), some (.int (nI ch)), some (.int (nI mm)), some (.int 0), none, none, none]) (by decide) rfl ?_
  refine r_iconst C dX6_stream_7 (v := 0) (by decide) ?_
  refine r_istore C dX6_stream_8 (L' := [some (.ref 35), some (.int (nI ch)), some (.int (nI mm)), some (.int 0), some (.int 0), none, none]) (by decide) rfl ?_
  refine r_iconst C dX6_stream_10 (v := 0) (by decide) ?_
  refine r_istore C dX6_stream_11 (L' := [some (.ref 35), some (.int (nI ch)), some (.int (nI mm)), some (.int 0), some (.int 0), some (.int 0), none]) (by decide) rfl ?_
  have loop_13 : ∀ (d9 : Nat) (k : Nat) (i0 : Nat) (j : Nat) (T : Nat → Nat) (f3 : Nat → Int32) (f1 : Nat → Int32), e1.length - k < d9 → k ≤ e1.length → i0 = k % 256 → T = (prg (ksaS hl ch 256).1 k).1 → j = (prg (ksaS hl ch 256).1 k).2 → ht f3 T → (∀ m, m < k → f1 m = nI (e1.getD m 0 ^^^ prb (ksaS hl ch 256).1 m)) → (∀ m, k ≤ m → m < (e1 ++ e2).length → f1 m = nI ((e1 ++ e2).getD m 0)) → Az g mX6_stream ct 0 0 13 [some (.ref 35), some (.int (nI ch)), some (.int (nI mm)), some (.int (nI i0)), some (.int (nI j)), some (.int (nI k)), none] [] (wset (wset w 51 (ia 256 f3)) 52 (ia 32 f1)) := by
    intro d9
    induction d9 with
    | zero => intro k i0 j T f3 f1 hd9; exact absurd hd9 (Nat.not_lt_zero _)
    | succ d9 ih_13 =>
      intro k i0 j T f3 f1 hd9 hk hi0 hT hj hf3 hlo hhi
      have hT6 : t256 T := by rw [hT]; exact (t_prg (t_ksa hl ch 256 (Nat.le_refl _)).1 k).1
      have hj6 : j < 256 := by rw [hj]; exact (t_prg (t_ksa hl ch 256 (Nat.le_refl _)).1 k).2
      refine r_iload C dX6_stream_13 rfl ?_
      refine r_iload_n C dX6_stream_15 rfl ?_
      refine r_icmp_ge C 116 dX6_stream_16 (by decide) (fun c_16 => ?_) (fun c_16 => ?_)
      · skip
        have c_16 : mm ≤ k := (nI_leI (a := mm) (b := k) (by omega) (by omega)).mp c_16
        exact r_return C T_ rfl dX6_stream_116 (⟨rfl, _, _, rfl, hs_two (fun m hm => hlo m (by omega)) (fun m h1 h2 => hhi m (by omega) h2)⟩)
      · skip
        have c_16 : ¬ (mm ≤ k) := fun h9 => c_16 ((nI_leI (a := mm) (b := k) (by omega) (by omega)).mpr h9)
        refine r_iload_n C dX6_stream_19 rfl ?_
        refine r_iconst C dX6_stream_20 (v := 1) (by decide) ?_
        refine r_iadd C dX6_stream_21 ?_
        refine r_top (y := nI (i0 + 1)) (nI_add i0 1) ?_
        refine r_sipush C dX6_stream_22 (v := 256) (by decide) ?_
        refine r_irem C dX6_stream_25 (by decide) ?_
        refine r_top (y := nI ((k + 1) % 256)) ((pk_rem (a := i0 + 1) (d := 256) (by omega) (by omega) (by omega)).trans (congrArg nI (by omega))) ?_
        obtain ⟨i1, hi1⟩ : ∃ z : Nat, z = (k + 1) % 256 := ⟨_, rfl⟩
        refine r_top (congrArg nI hi1.symm) ?_
        have hi2 : i1 < 256 := by omega
        refine r_istore_n C dX6_stream_26 (L' := [some (.ref 35), some (.int (nI ch)), some (.int (nI mm)), some (.int (nI i1)), some (.int (nI j)), some (.int (nI k)), none]) (by decide) rfl ?_
        refine r_iload C dX6_stream_27 rfl ?_
        refine r_aload_n C dX6_stream_29 rfl ?_
        refine r_get C dX6_stream_30 fgRX6_129 (Nat.le_of_ble_eq_true rfl) (ws_ne (Nat.ne_of_beq_eq_false rfl) (ws_ne (Nat.ne_of_beq_eq_false rfl) w_35)) rfl ?_
        refine r_iload_n C dX6_stream_33 rfl ?_
        refine r_ialdN C dX6_stream_34 (Nat.le_of_ble_eq_true rfl) (ws_ne (Nat.ne_of_beq_eq_false rfl) ws_eq) (j := i1) rfl (by omega) (by decide) ?_
        refine r_top (y := nI (T i1)) (hf3 i1 hi2) ?_
        have hT7 : T i1 < 256 := hT6 i1 hi2
        refine r_iadd C dX6_stream_35 ?_
        refine r_top (y := nI (j + (T i1))) (nI_add j (T i1)) ?_
        refine r_sipush C dX6_stream_36 (v := 256) (by decide) ?_
        refine r_irem C dX6_stream_39 (by decide) ?_
        refine r_top (y := nI ((j + (T i1)) % 256)) (pk_rem (a := j + (T i1)) (d := 256) (by omega) (by omega) (by omega)) ?_
        obtain ⟨j1, hj1⟩ : ∃ z : Nat, z = (j + (T i1)) % 256 := ⟨_, rfl⟩
        refine r_top (congrArg nI hj1.symm) ?_
        have hj2 : j1 < 256 := by omega
        refine r_istore C dX6_stream_40 (L' := [some (.ref 35), some (.int (nI ch)), some (.int (nI mm)), some (.int (nI i1)), some (.int (nI j1)), some (.int (nI k)), none]) (by decide) rfl ?_
        refine r_aload_n C dX6_stream_42 rfl ?_
        refine r_get C dX6_stream_43 fgRX6_129 (Nat.le_of_ble_eq_true rfl) (ws_ne (Nat.ne_of_beq_eq_false rfl) (ws_ne (Nat.ne_of_beq_eq_false rfl) w_35)) rfl ?_
        refine r_iload_n C dX6_stream_46 rfl ?_
        refine r_ialdN C dX6_stream_47 (Nat.le_of_ble_eq_true rfl) (ws_ne (Nat.ne_of_beq_eq_false rfl) ws_eq) (j := i1) rfl (by omega) (by decide) ?_
        refine r_top (y := nI (T i1)) (hf3 i1 hi2) ?_
        refine r_istore C dX6_stream_48 (L' := [some (.ref 35), some (.int (nI ch)), some (.int (nI mm)), some (.int (nI i1)), some (.int (nI j1)), some (.int (nI k)), some (.int (nI (T i1)))]) (by decide) rfl ?_
        refine r_aload_n C dX6_stream_50 rfl ?_
        refine r_get C dX6_stream_51 fgRX6_129 (Nat.le_of_ble_eq_true rfl) (ws_ne (Nat.ne_of_beq_eq_false rfl) (ws_ne (Nat.ne_of_beq_eq_false rfl) w_35)) rfl ?_
        refine r_iload_n C dX6_stream_54 rfl ?_
        refine r_aload_n C dX6_stream_55 rfl ?_
        refine r_get C dX6_stream_56 fgRX6_129 (Nat.le_of_ble_eq_true rfl) (ws_ne (Nat.ne_of_beq_eq_false rfl) (ws_ne (Nat.ne_of_beq_eq_false rfl) w_35)) rfl ?_
        refine r_iload C dX6_stream_59 rfl ?_
        refine r_ialdN C dX6_stream_61 (Nat.le_of_ble_eq_true rfl) (ws_ne (Nat.ne_of_beq_eq_false rfl) ws_eq) (j := j1) rfl (by omega) (by decide) ?_
        refine r_top (y := nI (T j1)) (hf3 j1 hj2) ?_
        have hT8 : T j1 < 256 := hT6 j1 hj2
        have hS6 : t256 (swp T i1 j1) := t_swp hT6 hi2 hj2
        have hS := ht_swp' hf3 hi2 hj2
        refine r_iastN C dX6_stream_62 (Nat.le_of_ble_eq_true rfl) (ws_ne (Nat.ne_of_beq_eq_false rfl) ws_eq) (j := i1) rfl (by omega) (by decide) ?_
        refine r_eq rfl rfl ((ws_comm (Nat.ne_of_beq_eq_false rfl)).trans (congrArg (fun z => wset z 52 (ia 32 f1)) ws_same)) ?_
        refine r_aload_n C dX6_stream_63 rfl ?_
        refine r_get C dX6_stream_64 fgRX6_129 (Nat.le_of_ble_eq_true rfl) (ws_ne (Nat.ne_of_beq_eq_false rfl) (ws_ne (Nat.ne_of_beq_eq_false rfl) w_35)) rfl ?_
        refine r_iload C dX6_stream_67 rfl ?_
        refine r_iload C dX6_stream_69 rfl ?_
        refine r_iastN C dX6_stream_71 (Nat.le_of_ble_eq_true rfl) (ws_ne (Nat.ne_of_beq_eq_false rfl) ws_eq) (j := j1) rfl (by omega) (by decide) ?_
        refine r_eq rfl rfl ((ws_comm (Nat.ne_of_beq_eq_false rfl)).trans (congrArg (fun z => wset z 52 (ia 32 f1)) ws_same)) ?_
        refine r_aload_n C dX6_stream_72 rfl ?_
        refine r_get C dX6_stream_73 fgRX6_132 (Nat.le_of_ble_eq_true rfl) (ws_ne (Nat.ne_of_beq_eq_false rfl) (ws_ne (Nat.ne_of_beq_eq_false rfl) w_35)) rfl ?_
        refine r_iload C dX6_stream_76 rfl ?_
        refine r_aload_n C dX6_stream_78 rfl ?_
        refine r_get C dX6_stream_79 fgRX6_132 (Nat.le_of_ble_eq_true rfl) (ws_ne (Nat.ne_of_beq_eq_false rfl) (ws_ne (Nat.ne_of_beq_eq_false rfl) w_35)) rfl ?_
        refine r_iload C dX6_stream_82 rfl ?_
        refine r_ialdN C dX6_stream_84 (Nat.le_of_ble_eq_true rfl) ws_eq (j := k) rfl (by omega) (by decide) ?_
        refine r_top (y := nI (e1.getD k 0)) ((hhi k (Nat.le_refl _) (by rw [len_app]; omega)).trans (by rw [gd_left (by omega)])) ?_
        refine r_aload_n C dX6_stream_85 rfl ?_
        refine r_get C dX6_stream_86 fgRX6_129 (Nat.le_of_ble_eq_true rfl) (ws_ne (Nat.ne_of_beq_eq_false rfl) (ws_ne (Nat.ne_of_beq_eq_false rfl) w_35)) rfl ?_
        refine r_aload_n C dX6_stream_89 rfl ?_
        refine r_get C dX6_stream_90 fgRX6_129 (Nat.le_of_ble_eq_true rfl) (ws_ne (Nat.ne_of_beq_eq_false rfl) (ws_ne (Nat.ne_of_beq_eq_false rfl) w_35)) rfl ?_
        refine r_iload_n C dX6_stream_93 rfl ?_
        refine r_ialdN C dX6_stream_94 (Nat.le_of_ble_eq_true rfl) (ws_ne (Nat.ne_of_beq_eq_false rfl) ws_eq) (j := i1) rfl (by omega) (by decide) ?_
        refine r_top (y := nI (swp T i1 j1 i1)) (hS i1 hi2) ?_
        have hS7 := hS6 i1 hi2
        refine r_aload_n C dX6_stream_95 rfl ?_
        refine r_get C dX6_stream_96 fgRX6_129 (Nat.le_of_ble_eq_true rfl) (ws_ne (Nat.ne_of_beq_eq_false rfl) (ws_ne (Nat.ne_of_beq_eq_false rfl) w_35)) rfl ?_
        refine r_iload C dX6_stream_99 rfl ?_
        refine r_ialdN C dX6_stream_101 (Nat.le_of_ble_eq_true rfl) (ws_ne (Nat.ne_of_beq_eq_false rfl) ws_eq) (j := j1) rfl (by omega) (by decide) ?_
        refine r_top (y := nI (swp T i1 j1 j1)) (hS j1 hj2) ?_
        have hS8 := hS6 j1 hj2
        refine r_iadd C dX6_stream_102 ?_
        refine r_top (y := nI ((swp T i1 j1 i1) + (swp T i1 j1 j1))) (nI_add (swp T i1 j1 i1) (swp T i1 j1 j1)) ?_
        refine r_sipush C dX6_stream_103 (v := 256) (by decide) ?_
        refine r_irem C dX6_stream_106 (by decide) ?_
        refine r_top (y := nI ((T i1 + T j1) % 256)) ((pk_rem (a := swp T i1 j1 i1 + swp T i1 j1 j1) (d := 256) (by omega) (by omega) (by omega)).trans (congrArg nI (by rw [swp_sum]))) ?_
        refine r_ialdN C dX6_stream_107 (Nat.le_of_ble_eq_true rfl) (ws_ne (Nat.ne_of_beq_eq_false rfl) ws_eq) (j := (T i1 + T j1) % 256) rfl (by omega) (by decide) ?_
        refine r_top (y := nI (swp T i1 j1 ((T i1 + T j1) % 256))) (hS _ (Nat.mod_lt _ (by decide))) ?_
        have hprb : prb (ksaS hl ch 256).1 k = swp T i1 j1 ((T i1 + T j1) % 256) := by rw [hj1, hi1, hj, hT]; rfl
        refine r_ixor C dX6_stream_108 ?_
        refine r_top (y := nI ((e1.getD k 0) ^^^ (swp T i1 j1 ((T i1 + T j1) % 256)))) (nx_xor9 (e1.getD k 0) (swp T i1 j1 ((T i1 + T j1) % 256))) ?_
        refine r_iastN C dX6_stream_109 (Nat.le_of_ble_eq_true rfl) ws_eq (j := k) rfl (by omega) (by decide) ?_
        refine r_eq rfl rfl ws_same ?_
        refine r_iinc C dX6_stream_110 (v := nI (k + 1)) (L' := [some (.ref 35), some (.int (nI ch)), some (.int (nI mm)), some (.int (nI i1)), some (.int (nI j1)), some (.int (nI (k + 1))), some (.int (nI (T i1)))]) rfl (nI_add k 1) (by decide) rfl ?_
        refine r_goto C 13 dX6_stream_113 (by decide) ?_
        refine r_forget [some (.ref 35), some (.int (nI ch)), some (.int (nI mm)), some (.int (nI i1)), some (.int (nI j1)), some (.int (nI (k + 1))), none] ⟨Or.inr rfl, Or.inr rfl, Or.inr rfl, Or.inr rfl, Or.inr rfl, Or.inr rfl, Or.inl rfl, trivial⟩ ?_
        exact ih_13 (k + 1) i1 j1 (swp T i1 j1) _ _ (by omega) (by omega) hi1 (by rw [hj1, hi1, hj, hT]; rfl) (by rw [hj1, hi1, hj, hT]; rfl) (ht_swp' hf3 hi2 hj2) (up_lt hlo (by rw [hprb])) (up_ge hhi)
  refine r_eq rfl rfl (ws_self (ws_ne (Nat.ne_of_beq_eq_false rfl) w_52)).symm ?_
  exact loop_13 _ 0 0 0 ((ksaS hl ch 256).1) f0 fe (Nat.lt_succ_self _) (by omega) rfl rfl rfl h0 (fun m hm => absurd hm (Nat.not_lt_zero m)) (fun m _ hm => h_e m hm)
set_option maxHeartbeats 4000000 in
set_option maxRecDepth 100000 in
theorem cX6_streamRow9 {w : Wo} {fh : Nat → Int32} {hl : List Nat} (w_50 : w 50 = ia 16 fh) (h_hl : hs fh hl) (k_hl : hl.length ≤ 16) (hl0 : 0 < hl.length) (hbh : byt hl) {xs : List Nat} {fa rz rv ln pm lo ns os uz ik ms : Int32} (w_35 : w 35 = mo fa (nI xs.length) rz rv ln pm lo ns os uz ik ms (nI hl.length)) {ft : Nat → Int32} (w_51 : w 51 = ia 256 ft) {fx fr9 : Nat → Int32} (w_36 : w 36 = ia 16384 fx) (h_xs : hs fx xs) (k_xs : xs.length ≤ 16384) (w_37 : w 37 = ia 16384 fr9) : Ctr mX6_streamRow [.ref 35] w (PV fun w' => ∃ ft' fr', w' = wset (wset (wset (w) 51 (ia 256 ft')) 37 (ia 16384 fr')) 35 (mo fa (nI xs.length) (nI ((strm hl 0 xs).length)) rv ln pm lo ns os uz ik ms (nI hl.length)) ∧ hs fr' (strm hl 0 xs)) := by
  refine Ctr_intro okX6_streamRow rfl (Nat.le_of_ble_eq_true rfl) (L := [some (.ref 35), none, none, none, none]) rfl (fun g ct C T_ => ?_)
  refine r_aload_n C dX6_streamRow_0 rfl ?_
  refine r_iconst C dX6_streamRow_1 (v := 0) (by decide) ?_
  refine r_callVv C (As := [.int 0]) (rest := []) dX6_streamRow_2 (cX6_mix9 w_50 h_hl k_hl hl0 hbh (ch := 0) (by decide) w_35 w_51) okX6_mix mlRX6_191 imX6_mix seX6_mix ⟨by decide, by decide⟩ rfl rfl (Nat.le_of_ble_eq_true rfl) w_35 rfl rfl (Nat.le_of_ble_eq_true rfl) (by decide) (by decide) (fun w9 h9 => ?_)
  obtain ⟨f0, rfl, h0⟩ := h9
  refine r_iconst C dX6_streamRow_5 (v := 0) (by decide) ?_
  refine r_istore_n C dX6_streamRow_6 (L' := [some (.ref 35), some (.int 0), none, none, none]) (by decide) rfl ?_
  refine r_iconst C dX6_streamRow_7 (v := 0) (by decide) ?_
  refine r_istore_n C dX6_streamRow_8 (L' := [some (.ref 35), some (.int 0), some (.int 0), none, none]) (by decide) rfl ?_
  refine r_iconst C dX6_streamRow_9 (v := 0) (by decide) ?_
  refine r_istore_n C dX6_streamRow_10 (L' := [some (.ref 35), some (.int 0), some (.int 0), some (.int 0), none]) (by decide) rfl ?_
  have loop_11 : ∀ (d9 : Nat) (k : Nat) (i0 : Nat) (j : Nat) (T : Nat → Nat) (f3 : Nat → Int32) (f1 : Nat → Int32), xs.length - k < d9 → k ≤ xs.length → i0 = k % 256 → T = (prg (ksaS hl 0 256).1 k).1 → j = (prg (ksaS hl 0 256).1 k).2 → ht f3 T → (∀ m, m < k → f1 m = nI (xs.getD m 0 ^^^ prb (ksaS hl 0 256).1 m)) → Az g mX6_streamRow ct 0 0 11 [some (.ref 35), some (.int (nI i0)), some (.int (nI j)), some (.int (nI k)), none] [] (wset (wset w 51 (ia 256 f3)) 37 (ia 16384 f1)) := by
    intro d9
    induction d9 with
    | zero => intro k i0 j T f3 f1 hd9; exact absurd hd9 (Nat.not_lt_zero _)
    | succ d9 ih_11 =>
      intro k i0 j T f3 f1 hd9 hk hi0 hT hj hf3 hlo
      have hT6 : t256 T := by rw [hT]; exact (t_prg (t_ksa hl 0 256 (Nat.le_refl _)).1 k).1
      have hj6 : j < 256 := by rw [hj]; exact (t_prg (t_ksa hl 0 256 (Nat.le_refl _)).1 k).2
      refine r_iload_n C dX6_streamRow_11 rfl ?_
      refine r_aload_n C dX6_streamRow_12 rfl ?_
      refine r_get C dX6_streamRow_13 fgRX6_156 (Nat.le_of_ble_eq_true rfl) (ws_ne (Nat.ne_of_beq_eq_false rfl) (ws_ne (Nat.ne_of_beq_eq_false rfl) w_35)) rfl ?_
      refine r_icmp_ge C 109 dX6_streamRow_16 (by decide) (fun c_16 => ?_) (fun c_16 => ?_)
      · skip
        have c_16 : xs.length ≤ k := (nI_leI (a := xs.length) (b := k) (by omega) (by omega)).mp c_16
        refine r_aload_n C dX6_streamRow_109 rfl ?_
        refine r_aload_n C dX6_streamRow_110 rfl ?_
        refine r_get C dX6_streamRow_111 fgRX6_156 (Nat.le_of_ble_eq_true rfl) (ws_ne (Nat.ne_of_beq_eq_false rfl) (ws_ne (Nat.ne_of_beq_eq_false rfl) w_35)) rfl ?_
        refine r_put C dX6_streamRow_114 fpRX6_194 (Nat.le_of_ble_eq_true rfl) (ws_ne (Nat.ne_of_beq_eq_false rfl) (ws_ne (Nat.ne_of_beq_eq_false rfl) w_35)) rfl rfl (Nat.le_of_ble_eq_true rfl) (fs' := [.int fa, .int (nI xs.length), .ref 36, .int (nI xs.length), .ref 37, .int rv, .int ln, .int pm, .int lo, .ref 38, .ref 39, .int ns, .ref 40, .int os, .ref 41, .int uz, .ref 42, .int ik, .ref 43, .int ms, .ref 44, .ref 45, .ref 46, .ref 47, .ref 48, .ref 49, .int (nI hl.length), .ref 50, .ref 51, .ref 52, .ref 53, .ref 54, .ref 55, .ref 56, .ref 57, .ref 58]) rfl ?_
        exact r_return C T_ rfl dX6_streamRow_117 (⟨rfl, _, _, by rw [strm_len], hs_pre (strm_len _ _ _) (fun m hm => hlo m (by omega)) (fun m hm => xorS_at _ _ hm)⟩)
      · skip
        have c_16 : ¬ (xs.length ≤ k) := fun h9 => c_16 ((nI_leI (a := xs.length) (b := k) (by omega) (by omega)).mpr h9)
        refine r_iload_n C dX6_streamRow_19 rfl ?_
        refine r_iconst C dX6_streamRow_20 (v := 1) (by decide) ?_
        refine r_iadd C dX6_streamRow_21 ?_
        refine r_top (y := nI (i0 + 1)) (nI_add i0 1) ?_
        refine r_sipush C dX6_streamRow_22 (v := 256) (by decide) ?_
        refine r_irem C dX6_streamRow_25 (by decide) ?_
        refine r_top (y := nI ((k + 1) % 256)) ((pk_rem (a := i0 + 1) (d := 256) (by omega) (by omega) (by omega)).trans (congrArg nI (by omega))) ?_
        obtain ⟨i1, hi1⟩ : ∃ z : Nat, z = (k + 1) % 256 := ⟨_, rfl⟩
        refine r_top (congrArg nI hi1.symm) ?_
        have hi2 : i1 < 256 := by omega
        refine r_istore_n C dX6_streamRow_26 (L' := [some (.ref 35), some (.int (nI i1)), some (.int (nI j)), some (.int (nI k)), none]) (by decide) rfl ?_
        refine r_iload_n C dX6_streamRow_27 rfl ?_
        refine r_aload_n C dX6_streamRow_28 rfl ?_
        refine r_get C dX6_streamRow_29 fgRX6_129 (Nat.le_of_ble_eq_true rfl) (ws_ne (Nat.ne_of_beq_eq_false rfl) (ws_ne (Nat.ne_of_beq_eq_false rfl) w_35)) rfl ?_
        refine r_iload_n C dX6_streamRow_32 rfl ?_
        refine r_ialdN C dX6_streamRow_33 (Nat.le_of_ble_eq_true rfl) (ws_ne (Nat.ne_of_beq_eq_false rfl) ws_eq) (j := i1) rfl (by omega) (by decide) ?_
        refine r_top (y := nI (T i1)) (hf3 i1 hi2) ?_
        have hT7 : T i1 < 256 := hT6 i1 hi2
        refine r_iadd C dX6_streamRow_34 ?_
        refine r_top (y := nI (j + (T i1))) (nI_add j (T i1)) ?_
        refine r_sipush C dX6_streamRow_35 (v := 256) (by decide) ?_
        refine r_irem C dX6_streamRow_38 (by decide) ?_
        refine r_top (y := nI ((j + (T i1)) % 256)) (pk_rem (a := j + (T i1)) (d := 256) (by omega) (by omega) (by omega)) ?_
        obtain ⟨j1, hj1⟩ : ∃ z : Nat, z = (j + (T i1)) % 256 := ⟨_, rfl⟩
        refine r_top (congrArg nI hj1.symm) ?_
        have hj2 : j1 < 256 := by omega
        refine r_istore_n C dX6_streamRow_39 (L' := [some (.ref 35), some (.int (nI i1)), some (.int (nI j1)), some (.int (nI k)), none]) (by decide) rfl ?_
        refine r_aload_n C dX6_streamRow_40 rfl ?_
        refine r_get C dX6_streamRow_41 fgRX6_129 (Nat.le_of_ble_eq_true rfl) (ws_ne (Nat.ne_of_beq_eq_false rfl) (ws_ne (Nat.ne_of_beq_eq_false rfl) w_35)) rfl ?_
        refine r_iload_n C dX6_streamRow_44 rfl ?_
        refine r_ialdN C dX6_streamRow_45 (Nat.le_of_ble_eq_true rfl) (ws_ne (Nat.ne_of_beq_eq_false rfl) ws_eq) (j := i1) rfl (by omega) (by decide) ?_
        refine r_top (y := nI (T i1)) (hf3 i1 hi2) ?_
        refine r_istore C dX6_streamRow_46 (L' := [some (.ref 35), some (.int (nI i1)), some (.int (nI j1)), some (.int (nI k)), some (.int (nI (T i1)))]) (by decide) rfl ?_
        refine r_aload_n C dX6_streamRow_48 rfl ?_
        refine r_get C dX6_streamRow_49 fgRX6_129 (Nat.le_of_ble_eq_true rfl) (ws_ne (Nat.ne_of_beq_eq_false rfl) (ws_ne (Nat.ne_of_beq_eq_false rfl) w_35)) rfl ?_
        refine r_iload_n C dX6_streamRow_52 rfl ?_
        refine r_aload_n C dX6_streamRow_53 rfl ?_
        refine r_get C dX6_streamRow_54 fgRX6_129 (Nat.le_of_ble_eq_true rfl) (ws_ne (Nat.ne_of_beq_eq_false rfl) (ws_ne (Nat.ne_of_beq_eq_false rfl) w_35)) rfl ?_
        refine r_iload_n C dX6_streamRow_57 rfl ?_
        refine r_ialdN C dX6_streamRow_58 (Nat.le_of_ble_eq_true rfl) (ws_ne (Nat.ne_of_beq_eq_false rfl) ws_eq) (j := j1) rfl (by omega) (by decide) ?_
        refine r_top (y := nI (T j1)) (hf3 j1 hj2) ?_
        have hT8 : T j1 < 256 := hT6 j1 hj2
        have hS6 : t256 (swp T i1 j1) := t_swp hT6 hi2 hj2
        have hS := ht_swp' hf3 hi2 hj2
        refine r_iastN C dX6_streamRow_59 (Nat.le_of_ble_eq_true rfl) (ws_ne (Nat.ne_of_beq_eq_false rfl) ws_eq) (j := i1) rfl (by omega) (by decide) ?_
        refine r_eq rfl rfl ((ws_comm (Nat.ne_of_beq_eq_false rfl)).trans (congrArg (fun z => wset z 37 (ia 16384 f1)) ws_same)) ?_
        refine r_aload_n C dX6_streamRow_60 rfl ?_
        refine r_get C dX6_streamRow_61 fgRX6_129 (Nat.le_of_ble_eq_true rfl) (ws_ne (Nat.ne_of_beq_eq_false rfl) (ws_ne (Nat.ne_of_beq_eq_false rfl) w_35)) rfl ?_
        refine r_iload_n C dX6_streamRow_64 rfl ?_
        refine r_iload C dX6_streamRow_65 rfl ?_
        refine r_iastN C dX6_streamRow_67 (Nat.le_of_ble_eq_true rfl) (ws_ne (Nat.ne_of_beq_eq_false rfl) ws_eq) (j := j1) rfl (by omega) (by decide) ?_
        refine r_eq rfl rfl ((ws_comm (Nat.ne_of_beq_eq_false rfl)).trans (congrArg (fun z => wset z 37 (ia 16384 f1)) ws_same)) ?_
        refine r_aload_n C dX6_streamRow_68 rfl ?_
        refine r_get C dX6_streamRow_69 fgRX6_13 (Nat.le_of_ble_eq_true rfl) (ws_ne (Nat.ne_of_beq_eq_false rfl) (ws_ne (Nat.ne_of_beq_eq_false rfl) w_35)) rfl ?_
        refine r_iload_n C dX6_streamRow_72 rfl ?_
        refine r_aload_n C dX6_streamRow_73 rfl ?_
        refine r_get C dX6_streamRow_74 fgRX6_7 (Nat.le_of_ble_eq_true rfl) (ws_ne (Nat.ne_of_beq_eq_false rfl) (ws_ne (Nat.ne_of_beq_eq_false rfl) w_35)) rfl ?_
        refine r_iload_n C dX6_streamRow_77 rfl ?_
        refine r_ialdN C dX6_streamRow_78 (Nat.le_of_ble_eq_true rfl) (ws_ne (Nat.ne_of_beq_eq_false rfl) (ws_ne (Nat.ne_of_beq_eq_false rfl) w_36)) (j := k) rfl (by omega) (by decide) ?_
        refine r_top (y := nI (xs.getD k 0)) (h_xs k (by omega)) ?_
        refine r_aload_n C dX6_streamRow_79 rfl ?_
        refine r_get C dX6_streamRow_80 fgRX6_129 (Nat.le_of_ble_eq_true rfl) (ws_ne (Nat.ne_of_beq_eq_false rfl) (ws_ne (Nat.ne_of_beq_eq_false rfl) w_35)) rfl ?_
        refine r_aload_n C dX6_streamRow_83 rfl ?_
        refine r_get C dX6_streamRow_84 fgRX6_129 (Nat.le_of_ble_eq_true rfl) (ws_ne (Nat.ne_of_beq_eq_false rfl) (ws_ne (Nat.ne_of_beq_eq_false rfl) w_35)) rfl ?_
        refine r_iload_n C dX6_streamRow_87 rfl ?_
        refine r_ialdN C dX6_streamRow_88 (Nat.le_of_ble_eq_true rfl) (ws_ne (Nat.ne_of_beq_eq_false rfl) ws_eq) (j := i1) rfl (by omega) (by decide) ?_
        refine r_top (y := nI (swp T i1 j1 i1)) (hS i1 hi2) ?_
        have hS7 := hS6 i1 hi2
        refine r_aload_n C dX6_streamRow_89 rfl ?_
        refine r_get C dX6_streamRow_90 fgRX6_129 (Nat.le_of_ble_eq_true rfl) (ws_ne (Nat.ne_of_beq_eq_false rfl) (ws_ne (Nat.ne_of_beq_eq_false rfl) w_35)) rfl ?_
        refine r_iload_n C dX6_streamRow_93 rfl ?_
        refine r_ialdN C dX6_streamRow_94 (Nat.le_of_ble_eq_true rfl) (ws_ne (Nat.ne_of_beq_eq_false rfl) ws_eq) (j := j1) rfl (by omega) (by decide) ?_
        refine r_top (y := nI (swp T i1 j1 j1)) (hS j1 hj2) ?_
        have hS8 := hS6 j1 hj2
        refine r_iadd C dX6_streamRow_95 ?_
        refine r_top (y := nI ((swp T i1 j1 i1) + (swp T i1 j1 j1))) (nI_add (swp T i1 j1 i1) (swp T i1 j1 j1)) ?_
        refine r_sipush C dX6_streamRow_96 (v := 256) (by decide) ?_
        refine r_irem C dX6_streamRow_99 (by decide) ?_
        refine r_top (y := nI ((T i1 + T j1) % 256)) ((pk_rem (a := swp T i1 j1 i1 + swp T i1 j1 j1) (d := 256) (by omega) (by omega) (by omega)).trans (congrArg nI (by rw [swp_sum]))) ?_
        refine r_ialdN C dX6_streamRow_100 (Nat.le_of_ble_eq_true rfl) (ws_ne (Nat.ne_of_beq_eq_false rfl) ws_eq) (j := (T i1 + T j1) % 256) rfl (by omega) (by decide) ?_
        refine r_top (y := nI (swp T i1 j1 ((T i1 + T j1) % 256))) (hS _ (Nat.mod_lt _ (by decide))) ?_
        have hprb : prb (ksaS hl 0 256).1 k = swp T i1 j1 ((T i1 + T j1) % 256) := by rw [hj1, hi1, hj, hT]; rfl
        refine r_ixor C dX6_streamRow_101 ?_
        refine r_top (y := nI ((xs.getD k 0) ^^^ (swp T i1 j1 ((T i1 + T j1) % 256)))) (nx_xor9 (xs.getD k 0) (swp T i1 j1 ((T i1 + T j1) % 256))) ?_
        refine r_iastN C dX6_streamRow_102 (Nat.le_of_ble_eq_true rfl) ws_eq (j := k) rfl (by omega) (by decide) ?_
        refine r_eq rfl rfl ws_same ?_
        refine r_iinc C dX6_streamRow_103 (v := nI (k + 1)) (L' := [some (.ref 35), some (.int (nI i1)), some (.int (nI j1)), some (.int (nI (k + 1))), some (.int (nI (T i1)))]) rfl (nI_add k 1) (by decide) rfl ?_
        refine r_goto C 11 dX6_streamRow_106 (by decide) ?_
        refine r_forget [some (.ref 35), some (.int (nI i1)), some (.int (nI j1)), some (.int (nI (k + 1))), none] ⟨Or.inr rfl, Or.inr rfl, Or.inr rfl, Or.inr rfl, Or.inl rfl, trivial⟩ ?_
        exact ih_11 (k + 1) i1 j1 (swp T i1 j1) _ _ (by omega) (by omega) hi1 (by rw [hj1, hi1, hj, hT]; rfl) (by rw [hj1, hi1, hj, hT]; rfl) (ht_swp' hf3 hi2 hj2) (up_lt hlo (by rw [hprb]))
  refine r_eq rfl rfl (ws_self (ws_ne (Nat.ne_of_beq_eq_false rfl) w_37)).symm ?_
  exact loop_11 _ 0 0 0 ((ksaS hl 0 256).1) f0 fr9 (Nat.lt_succ_self _) (by omega) rfl rfl rfl h0 (fun m hm => absurd hm (Nat.not_lt_zero m))
set_option maxHeartbeats 4000000 in
set_option maxRecDepth 100000 in
theorem cX6_padWord9_0 {w : Wo} {fx : Nat → Int32} {xs : List Nat} (w_36 : w 36 = ia 16384 fx) (h_s : hs fx xs) (k_s : xs.length ≤ 16384) {fa rz rv ln pm lo ns os uz ik ms hsz : Int32} (w_35 : w 35 = mo fa (nI xs.length) rz rv ln pm lo ns os uz ik ms hsz) {fpd : Nat → Int32} (w_49 : w 49 = ia 32 fpd) (hpd : ∀ k, k < 32 → fpd k = nI (padN.getD k 0)) {fp : Nat → Int32} (w_53 : w 53 = ia 32 fp) : Ctr mX6_padWord [.ref 35, .int 0] w (PV fun w' => ∃ fp', w' = wset w 53 (ia 32 fp') ∧ hs fp' (padd xs)) := by
  refine Ctr_intro okX6_padWord rfl (Nat.le_of_ble_eq_true rfl) (L := [some (.ref 35), some (.int 0), none, none]) rfl (fun g ct C T_ => ?_)
  refine r_iload_n C dX6_padWord_0 rfl ?_
  refine r_if_ne C 11 dX6_padWord_1 (by decide) (fun c_1 => ?_) (fun c_1 => ?_)
  · skip
    exact absurd c_1 (by decide)
  · skip
    refine r_aload_n C dX6_padWord_4 rfl ?_
    refine r_get C dX6_padWord_5 fgRX6_156 (Nat.le_of_ble_eq_true rfl) w_35 rfl ?_
    refine r_goto C 37 dX6_padWord_8 (by decide) ?_
    refine r_istore_n C dX6_padWord_37 (L' := [some (.ref 35), some (.int 0), some (.int (nI xs.length)), none]) (by decide) rfl ?_
    refine r_iload_n C dX6_padWord_38 rfl ?_
    refine r_bipush C dX6_padWord_39 (v := 32) (by decide) ?_
    refine r_icmp_le C 49 dX6_padWord_41 (by decide) (fun c_41 => ?_) (fun c_41 => ?_)
    · skip
      have c_41 : xs.length ≤ 32 := (nI_leI (a := xs.length) (b := 32) (by omega) (by omega)).mp c_41
      refine r_iload_n C dX6_padWord_49 rfl ?_
      refine r_istore_n C dX6_padWord_50 (L' := [some (.ref 35), some (.int 0), some (.int (nI xs.length)), none]) (by decide) rfl ?_
      refine r_iconst C dX6_padWord_51 (v := 0) (by decide) ?_
      refine r_istore_n C dX6_padWord_52 (L' := [some (.ref 35), some (.int 0), some (.int (nI xs.length)), some (.int 0)]) (by decide) rfl ?_
      have hn9 : xs.length = min xs.length 32 := by omega
      have loop_53 : ∀ (d9 : Nat) (k : Nat) (f1 : Nat → Int32), 32 - k < d9 → k ≤ 32 → (∀ m, m < k → f1 m = nI ((padd xs).getD m 0)) → Az g mX6_padWord ct 0 0 53 [some (.ref 35), some (.int 0), some (.int (nI xs.length)), some (.int (nI k))] [] (wset w 53 (ia 32 f1)) := by
        intro d9
        induction d9 with
        | zero => intro k f1 hd9; exact absurd hd9 (Nat.not_lt_zero _)
        | succ d9 ih_53 =>
          intro k f1 hd9 hk hp
          refine r_iload_n C dX6_padWord_53 rfl ?_
          refine r_bipush C dX6_padWord_54 (v := 32) (by decide) ?_
          refine r_icmp_ge C 134 dX6_padWord_56 (by decide) (fun c_56 => ?_) (fun c_56 => ?_)
          · skip
            have c_56 : 32 ≤ k := (nI_leI (a := 32) (b := k) (by omega) (by omega)).mp c_56
            exact r_return C T_ rfl dX6_padWord_134 (⟨rfl, _, rfl, hs_pre (xs := padd xs) rfl (fun m hm => hp m (by rw [padd_len] at hm; omega)) (fun m hm => rfl)⟩)
          · skip
            have c_56 : ¬ (32 ≤ k) := fun h9 => c_56 ((nI_leI (a := 32) (b := k) (by omega) (by omega)).mpr h9)
            refine r_aload_n C dX6_padWord_59 rfl ?_
            refine r_get C dX6_padWord_60 fgRX6_135 (Nat.le_of_ble_eq_true rfl) (ws_ne (Nat.ne_of_beq_eq_false rfl) w_35) rfl ?_
            refine r_iload_n C dX6_padWord_63 rfl ?_
            refine r_iload_n C dX6_padWord_64 rfl ?_
            refine r_iload_n C dX6_padWord_65 rfl ?_
            refine r_icmp_lt C 80 dX6_padWord_66 (by decide) (fun c_66 => ?_) (fun c_66 => ?_)
            · skip
              have c_66 : k < xs.length := (nI_ltI (a := k) (b := xs.length) (by omega) (by omega)).mp c_66
              refine r_iload_n C dX6_padWord_80 rfl ?_
              refine r_if_ne C 93 dX6_padWord_81 (by decide) (fun c_81 => ?_) (fun c_81 => ?_)
              · skip
                exact absurd c_81 (by decide)
              · skip
                refine r_aload_n C dX6_padWord_84 rfl ?_
                refine r_get C dX6_padWord_85 fgRX6_7 (Nat.le_of_ble_eq_true rfl) (ws_ne (Nat.ne_of_beq_eq_false rfl) w_35) rfl ?_
                refine r_iload_n C dX6_padWord_88 rfl ?_
                refine r_ialdN C dX6_padWord_89 (Nat.le_of_ble_eq_true rfl) (ws_ne (Nat.ne_of_beq_eq_false rfl) w_36) (j := k) rfl (by omega) (by decide) ?_
                refine r_top (y := nI (xs.getD k 0)) (h_s k (by omega)) ?_
                refine r_goto C 127 dX6_padWord_90 (by decide) ?_
                refine r_iastN C dX6_padWord_127 (Nat.le_of_ble_eq_true rfl) ws_eq (j := k) rfl (by omega) (by decide) ?_
                refine r_eq rfl rfl ws_same ?_
                refine r_iinc C dX6_padWord_128 (v := nI (k + 1)) (L' := [some (.ref 35), some (.int 0), some (.int (nI xs.length)), some (.int (nI (k + 1)))]) rfl (nI_add k 1) (by decide) rfl ?_
                refine r_goto C 53 dX6_padWord_131 (by decide) ?_
                exact ih_53 (k + 1) _ (by omega) (by omega) (up_lt hp (by rw [padd_at _ (by omega), if_pos (by omega)]))
            · skip
              have c_66 : ¬ (k < xs.length) := fun h9 => c_66 ((nI_ltI (a := k) (b := xs.length) (by omega) (by omega)).mpr h9)
              refine r_aload_n C dX6_padWord_69 rfl ?_
              refine r_get C dX6_padWord_70 fgRX6_123 (Nat.le_of_ble_eq_true rfl) (ws_ne (Nat.ne_of_beq_eq_false rfl) w_35) rfl ?_
              refine r_iload_n C dX6_padWord_73 rfl ?_
              refine r_iload_n C dX6_padWord_74 rfl ?_
              refine r_isub C dX6_padWord_75 ?_
              refine r_top (y := nI (k - xs.length)) (pk_sub (a := k) (b := xs.length) (by omega)) ?_
              refine r_ialdN C dX6_padWord_76 (Nat.le_of_ble_eq_true rfl) (ws_ne (Nat.ne_of_beq_eq_false rfl) w_49) (j := k - xs.length) rfl (by omega) (by decide) ?_
              refine r_top (y := nI (padN.getD (k - (min xs.length 32)) 0)) ((hpd _ (by omega)).trans (by rw [← hn9])) ?_
              refine r_goto C 127 dX6_padWord_77 (by decide) ?_
              refine r_iastN C dX6_padWord_127 (Nat.le_of_ble_eq_true rfl) ws_eq (j := k) rfl (by omega) (by decide) ?_
              refine r_eq rfl rfl ws_same ?_
              refine r_iinc C dX6_padWord_128 (v := nI (k + 1)) (L' := [some (.ref 35), some (.int 0), some (.int (nI xs.length)), some (.int (nI (k + 1)))]) rfl (nI_add k 1) (by decide) rfl ?_
              refine r_goto C 53 dX6_padWord_131 (by decide) ?_
              exact ih_53 (k + 1) _ (by omega) (by omega) (up_lt hp (by rw [padd_at _ (by omega), if_neg (by omega)]))
      refine r_eq rfl rfl (ws_self w_53).symm ?_
      exact loop_53 _ 0 _ (Nat.lt_succ_self _) (by omega) (fun m hm => absurd hm (Nat.not_lt_zero m))
    · skip
      have c_41 : ¬ (xs.length ≤ 32) := fun h9 => c_41 ((nI_leI (a := xs.length) (b := 32) (by omega) (by omega)).mpr h9)
      refine r_bipush C dX6_padWord_44 (v := 32) (by decide) ?_
      refine r_goto C 50 dX6_padWord_46 (by decide) ?_
      refine r_istore_n C dX6_padWord_50 (L' := [some (.ref 35), some (.int 0), some (.int 32), none]) (by decide) rfl ?_
      refine r_iconst C dX6_padWord_51 (v := 0) (by decide) ?_
      refine r_istore_n C dX6_padWord_52 (L' := [some (.ref 35), some (.int 0), some (.int 32), some (.int 0)]) (by decide) rfl ?_
      have hn9 : 32 = min xs.length 32 := by omega
      have loop_53 : ∀ (d9 : Nat) (k : Nat) (f1 : Nat → Int32), 32 - k < d9 → k ≤ 32 → (∀ m, m < k → f1 m = nI ((padd xs).getD m 0)) → Az g mX6_padWord ct 0 0 53 [some (.ref 35), some (.int 0), some (.int 32), some (.int (nI k))] [] (wset w 53 (ia 32 f1)) := by
        intro d9
        induction d9 with
        | zero => intro k f1 hd9; exact absurd hd9 (Nat.not_lt_zero _)
        | succ d9 ih_53 =>
          intro k f1 hd9 hk hp
          refine r_iload_n C dX6_padWord_53 rfl ?_
          refine r_bipush C dX6_padWord_54 (v := 32) (by decide) ?_
          refine r_icmp_ge C 134 dX6_padWord_56 (by decide) (fun c_56 => ?_) (fun c_56 => ?_)
          · skip
            have c_56 : 32 ≤ k := (nI_leI (a := 32) (b := k) (by omega) (by omega)).mp c_56
            exact r_return C T_ rfl dX6_padWord_134 (⟨rfl, _, rfl, hs_pre (xs := padd xs) rfl (fun m hm => hp m (by rw [padd_len] at hm; omega)) (fun m hm => rfl)⟩)
          · skip
            have c_56 : ¬ (32 ≤ k) := fun h9 => c_56 ((nI_leI (a := 32) (b := k) (by omega) (by omega)).mpr h9)
            refine r_aload_n C dX6_padWord_59 rfl ?_
            refine r_get C dX6_padWord_60 fgRX6_135 (Nat.le_of_ble_eq_true rfl) (ws_ne (Nat.ne_of_beq_eq_false rfl) w_35) rfl ?_
            refine r_iload_n C dX6_padWord_63 rfl ?_
            refine r_iload_n C dX6_padWord_64 rfl ?_
            refine r_iload_n C dX6_padWord_65 rfl ?_
            refine r_icmp_lt C 80 dX6_padWord_66 (by decide) (fun c_66 => ?_) (fun c_66 => ?_)
            · skip
              have c_66 : k < 32 := (nI_ltI (a := k) (b := 32) (by omega) (by omega)).mp c_66
              refine r_iload_n C dX6_padWord_80 rfl ?_
              refine r_if_ne C 93 dX6_padWord_81 (by decide) (fun c_81 => ?_) (fun c_81 => ?_)
              · skip
                exact absurd c_81 (by decide)
              · skip
                refine r_aload_n C dX6_padWord_84 rfl ?_
                refine r_get C dX6_padWord_85 fgRX6_7 (Nat.le_of_ble_eq_true rfl) (ws_ne (Nat.ne_of_beq_eq_false rfl) w_35) rfl ?_
                refine r_iload_n C dX6_padWord_88 rfl ?_
                refine r_ialdN C dX6_padWord_89 (Nat.le_of_ble_eq_true rfl) (ws_ne (Nat.ne_of_beq_eq_false rfl) w_36) (j := k) rfl (by omega) (by decide) ?_
                refine r_top (y := nI (xs.getD k 0)) (h_s k (by omega)) ?_
                refine r_goto C 127 dX6_padWord_90 (by decide) ?_
                refine r_iastN C dX6_padWord_127 (Nat.le_of_ble_eq_true rfl) ws_eq (j := k) rfl (by omega) (by decide) ?_
                refine r_eq rfl rfl ws_same ?_
                refine r_iinc C dX6_padWord_128 (v := nI (k + 1)) (L' := [some (.ref 35), some (.int 0), some (.int 32), some (.int (nI (k + 1)))]) rfl (nI_add k 1) (by decide) rfl ?_
                refine r_goto C 53 dX6_padWord_131 (by decide) ?_
                exact ih_53 (k + 1) _ (by omega) (by omega) (up_lt hp (by rw [padd_at _ (by omega), if_pos (by omega)]))
            · skip
              have c_66 : ¬ (k < 32) := fun h9 => c_66 ((nI_ltI (a := k) (b := 32) (by omega) (by omega)).mpr h9)
              exact (by first | omega | exact absurd c_66 c_56 | exact absurd c_56 c_66)
      refine r_eq rfl rfl (ws_self w_53).symm ?_
      exact loop_53 _ 0 _ (Nat.lt_succ_self _) (by omega) (fun m hm => absurd hm (Nat.not_lt_zero m))
set_option maxHeartbeats 4000000 in
set_option maxRecDepth 100000 in
theorem cX6_padWord9_1 {w : Wo} {fo : Nat → Int32} {op : List Nat} (w_41 : w 41 = ia 64 fo) (h_s : hs fo op) (k_s : op.length ≤ 64) {fa sz rz rv ln pm lo ns uz ik ms hsz : Int32} (w_35 : w 35 = mo fa sz rz rv ln pm lo ns (nI op.length) uz ik ms hsz) {fpd : Nat → Int32} (w_49 : w 49 = ia 32 fpd) (hpd : ∀ k, k < 32 → fpd k = nI (padN.getD k 0)) {fp : Nat → Int32} (w_53 : w 53 = ia 32 fp) : Ctr mX6_padWord [.ref 35, .int 1] w (PV fun w' => ∃ fp', w' = wset w 53 (ia 32 fp') ∧ hs fp' (padd op)) := by
  refine Ctr_intro okX6_padWord rfl (Nat.le_of_ble_eq_true rfl) (L := [some (.ref 35), some (.int 1), none, none]) rfl (fun g ct C T_ => ?_)
  refine r_iload_n C dX6_padWord_0 rfl ?_
  refine r_if_ne C 11 dX6_padWord_1 (by decide) (fun c_1 => ?_) (fun c_1 => ?_)
  · skip
    refine r_iload_n C dX6_padWord_11 rfl ?_
    refine r_iconst C dX6_padWord_12 (v := 1) (by decide) ?_
    refine r_icmp_ne C 23 dX6_padWord_13 (by decide) (fun c_13 => ?_) (fun c_13 => ?_)
    · skip
      exact absurd c_13 (by decide)
    · skip
      refine r_aload_n C dX6_padWord_16 rfl ?_
      refine r_get C dX6_padWord_17 fgRX6_197 (Nat.le_of_ble_eq_true rfl) w_35 rfl ?_
      refine r_goto C 37 dX6_padWord_20 (by decide) ?_
      refine r_istore_n C dX6_padWord_37 (L' := [some (.ref 35), some (.int 1), some (.int (nI op.length)), none]) (by decide) rfl ?_
      refine r_iload_n C dX6_padWord_38 rfl ?_
      refine r_bipush C dX6_padWord_39 (v := 32) (by decide) ?_
      refine r_icmp_le C 49 dX6_padWord_41 (by decide) (fun c_41 => ?_) (fun c_41 => ?_)
      · skip
        have c_41 : op.length ≤ 32 := (nI_leI (a := op.length) (b := 32) (by omega) (by omega)).mp c_41
        refine r_iload_n C dX6_padWord_49 rfl ?_
        refine r_istore_n C dX6_padWord_50 (L' := [some (.ref 35), some (.int 1), some (.int (nI op.length)), none]) (by decide) rfl ?_
        refine r_iconst C dX6_padWord_51 (v := 0) (by decide) ?_
        refine r_istore_n C dX6_padWord_52 (L' := [some (.ref 35), some (.int 1), some (.int (nI op.length)), some (.int 0)]) (by decide) rfl ?_
        have hn9 : op.length = min op.length 32 := by omega
        have loop_53 : ∀ (d9 : Nat) (k : Nat) (f1 : Nat → Int32), 32 - k < d9 → k ≤ 32 → (∀ m, m < k → f1 m = nI ((padd op).getD m 0)) → Az g mX6_padWord ct 0 0 53 [some (.ref 35), some (.int 1), some (.int (nI op.length)), some (.int (nI k))] [] (wset w 53 (ia 32 f1)) := by
          intro d9
          induction d9 with
          | zero => intro k f1 hd9; exact absurd hd9 (Nat.not_lt_zero _)
          | succ d9 ih_53 =>
            intro k f1 hd9 hk hp
            refine r_iload_n C dX6_padWord_53 rfl ?_
            refine r_bipush C dX6_padWord_54 (v := 32) (by decide) ?_
            refine r_icmp_ge C 134 dX6_padWord_56 (by decide) (fun c_56 => ?_) (fun c_56 => ?_)
            · skip
              have c_56 : 32 ≤ k := (nI_leI (a := 32) (b := k) (by omega) (by omega)).mp c_56
              exact r_return C T_ rfl dX6_padWord_134 (⟨rfl, _, rfl, hs_pre (xs := padd op) rfl (fun m hm => hp m (by rw [padd_len] at hm; omega)) (fun m hm => rfl)⟩)
            · skip
              have c_56 : ¬ (32 ≤ k) := fun h9 => c_56 ((nI_leI (a := 32) (b := k) (by omega) (by omega)).mpr h9)
              refine r_aload_n C dX6_padWord_59 rfl ?_
              refine r_get C dX6_padWord_60 fgRX6_135 (Nat.le_of_ble_eq_true rfl) (ws_ne (Nat.ne_of_beq_eq_false rfl) w_35) rfl ?_
              refine r_iload_n C dX6_padWord_63 rfl ?_
              refine r_iload_n C dX6_padWord_64 rfl ?_
              refine r_iload_n C dX6_padWord_65 rfl ?_
              refine r_icmp_lt C 80 dX6_padWord_66 (by decide) (fun c_66 => ?_) (fun c_66 => ?_)
              · skip
                have c_66 : k < op.length := (nI_ltI (a := k) (b := op.length) (by omega) (by omega)).mp c_66
                refine r_iload_n C dX6_padWord_80 rfl ?_
                refine r_if_ne C 93 dX6_padWord_81 (by decide) (fun c_81 => ?_) (fun c_81 => ?_)
                · skip
                  refine r_iload_n C dX6_padWord_93 rfl ?_
                  refine r_iconst C dX6_padWord_94 (v := 1) (by decide) ?_
                  refine r_icmp_ne C 107 dX6_padWord_95 (by decide) (fun c_95 => ?_) (fun c_95 => ?_)
                  · skip
                    exact absurd c_95 (by decide)
                  · skip
                    refine r_aload_n C dX6_padWord_98 rfl ?_
                    refine r_get C dX6_padWord_99 fgRX6_35 (Nat.le_of_ble_eq_true rfl) (ws_ne (Nat.ne_of_beq_eq_false rfl) w_35) rfl ?_
                    refine r_iload_n C dX6_padWord_102 rfl ?_
                    refine r_ialdN C dX6_padWord_103 (Nat.le_of_ble_eq_true rfl) (ws_ne (Nat.ne_of_beq_eq_false rfl) w_41) (j := k) rfl (by omega) (by decide) ?_
                    refine r_top (y := nI (op.getD k 0)) (h_s k (by omega)) ?_
                    refine r_goto C 127 dX6_padWord_104 (by decide) ?_
                    refine r_iastN C dX6_padWord_127 (Nat.le_of_ble_eq_true rfl) ws_eq (j := k) rfl (by omega) (by decide) ?_
                    refine r_eq rfl rfl ws_same ?_
                    refine r_iinc C dX6_padWord_128 (v := nI (k + 1)) (L' := [some (.ref 35), some (.int 1), some (.int (nI op.length)), some (.int (nI (k + 1)))]) rfl (nI_add k 1) (by decide) rfl ?_
                    refine r_goto C 53 dX6_padWord_131 (by decide) ?_
                    exact ih_53 (k + 1) _ (by omega) (by omega) (up_lt hp (by rw [padd_at _ (by omega), if_pos (by omega)]))
                · skip
                  exact absurd c_81 (by decide)
              · skip
                have c_66 : ¬ (k < op.length) := fun h9 => c_66 ((nI_ltI (a := k) (b := op.length) (by omega) (by omega)).mpr h9)
                refine r_aload_n C dX6_padWord_69 rfl ?_
                refine r_get C dX6_padWord_70 fgRX6_123 (Nat.le_of_ble_eq_true rfl) (ws_ne (Nat.ne_of_beq_eq_false rfl) w_35) rfl ?_
                refine r_iload_n C dX6_padWord_73 rfl ?_
                refine r_iload_n C dX6_padWord_74 rfl ?_
                refine r_isub C dX6_padWord_75 ?_
                refine r_top (y := nI (k - op.length)) (pk_sub (a := k) (b := op.length) (by omega)) ?_
                refine r_ialdN C dX6_padWord_76 (Nat.le_of_ble_eq_true rfl) (ws_ne (Nat.ne_of_beq_eq_false rfl) w_49) (j := k - op.length) rfl (by omega) (by decide) ?_
                refine r_top (y := nI (padN.getD (k - (min op.length 32)) 0)) ((hpd _ (by omega)).trans (by rw [← hn9])) ?_
                refine r_goto C 127 dX6_padWord_77 (by decide) ?_
                refine r_iastN C dX6_padWord_127 (Nat.le_of_ble_eq_true rfl) ws_eq (j := k) rfl (by omega) (by decide) ?_
                refine r_eq rfl rfl ws_same ?_
                refine r_iinc C dX6_padWord_128 (v := nI (k + 1)) (L' := [some (.ref 35), some (.int 1), some (.int (nI op.length)), some (.int (nI (k + 1)))]) rfl (nI_add k 1) (by decide) rfl ?_
                refine r_goto C 53 dX6_padWord_131 (by decide) ?_
                exact ih_53 (k + 1) _ (by omega) (by omega) (up_lt hp (by rw [padd_at _ (by omega), if_neg (by omega)]))
        refine r_eq rfl rfl (ws_self w_53).symm ?_
        exact loop_53 _ 0 _ (Nat.lt_succ_self _) (by omega) (fun m hm => absurd hm (Nat.not_lt_zero m))
      · skip
        have c_41 : ¬ (op.length ≤ 32) := fun h9 => c_41 ((nI_leI (a := op.length) (b := 32) (by omega) (by omega)).mpr h9)
        refine r_bipush C dX6_padWord_44 (v := 32) (by decide) ?_
        refine r_goto C 50 dX6_padWord_46 (by decide) ?_
        refine r_istore_n C dX6_padWord_50 (L' := [some (.ref 35), some (.int 1), some (.int 32), none]) (by decide) rfl ?_
        refine r_iconst C dX6_padWord_51 (v := 0) (by decide) ?_
        refine r_istore_n C dX6_padWord_52 (L' := [some (.ref 35), some (.int 1), some (.int 32), some (.int 0)]) (by decide) rfl ?_
        have hn9 : 32 = min op.length 32 := by omega
        have loop_53 : ∀ (d9 : Nat) (k : Nat) (f1 : Nat → Int32), 32 - k < d9 → k ≤ 32 → (∀ m, m < k → f1 m = nI ((padd op).getD m 0)) → Az g mX6_padWord ct 0 0 53 [some (.ref 35), some (.int 1), some (.int 32), some (.int (nI k))] [] (wset w 53 (ia 32 f1)) := by
          intro d9
          induction d9 with
          | zero => intro k f1 hd9; exact absurd hd9 (Nat.not_lt_zero _)
          | succ d9 ih_53 =>
            intro k f1 hd9 hk hp
            refine r_iload_n C dX6_padWord_53 rfl ?_
            refine r_bipush C dX6_padWord_54 (v := 32) (by decide) ?_
            refine r_icmp_ge C 134 dX6_padWord_56 (by decide) (fun c_56 => ?_) (fun c_56 => ?_)
            · skip
              have c_56 : 32 ≤ k := (nI_leI (a := 32) (b := k) (by omega) (by omega)).mp c_56
              exact r_return C T_ rfl dX6_padWord_134 (⟨rfl, _, rfl, hs_pre (xs := padd op) rfl (fun m hm => hp m (by rw [padd_len] at hm; omega)) (fun m hm => rfl)⟩)
            · skip
              have c_56 : ¬ (32 ≤ k) := fun h9 => c_56 ((nI_leI (a := 32) (b := k) (by omega) (by omega)).mpr h9)
              refine r_aload_n C dX6_padWord_59 rfl ?_
              refine r_get C dX6_padWord_60 fgRX6_135 (Nat.le_of_ble_eq_true rfl) (ws_ne (Nat.ne_of_beq_eq_false rfl) w_35) rfl ?_
              refine r_iload_n C dX6_padWord_63 rfl ?_
              refine r_iload_n C dX6_padWord_64 rfl ?_
              refine r_iload_n C dX6_padWord_65 rfl ?_
              refine r_icmp_lt C 80 dX6_padWord_66 (by decide) (fun c_66 => ?_) (fun c_66 => ?_)
              · skip
                have c_66 : k < 32 := (nI_ltI (a := k) (b := 32) (by omega) (by omega)).mp c_66
                refine r_iload_n C dX6_padWord_80 rfl ?_
                refine r_if_ne C 93 dX6_padWord_81 (by decide) (fun c_81 => ?_) (fun c_81 => ?_)
                · skip
                  refine r_iload_n C dX6_padWord_93 rfl ?_
                  refine r_iconst C dX6_padWord_94 (v := 1) (by decide) ?_
                  refine r_icmp_ne C 107 dX6_padWord_95 (by decide) (fun c_95 => ?_) (fun c_95 => ?_)
                  · skip
                    exact absurd c_95 (by decide)
                  · skip
                    refine r_aload_n C dX6_padWord_98 rfl ?_
                    refine r_get C dX6_padWord_99 fgRX6_35 (Nat.le_of_ble_eq_true rfl) (ws_ne (Nat.ne_of_beq_eq_false rfl) w_35) rfl ?_
                    refine r_iload_n C dX6_padWord_102 rfl ?_
                    refine r_ialdN C dX6_padWord_103 (Nat.le_of_ble_eq_true rfl) (ws_ne (Nat.ne_of_beq_eq_false rfl) w_41) (j := k) rfl (by omega) (by decide) ?_
                    refine r_top (y := nI (op.getD k 0)) (h_s k (by omega)) ?_
                    refine r_goto C 127 dX6_padWord_104 (by decide) ?_
                    refine r_iastN C dX6_padWord_127 (Nat.le_of_ble_eq_true rfl) ws_eq (j := k) rfl (by omega) (by decide) ?_
                    refine r_eq rfl rfl ws_same ?_
                    refine r_iinc C dX6_padWord_128 (v := nI (k + 1)) (L' := [some (.ref 35), some (.int 1), some (.int 32), some (.int (nI (k + 1)))]) rfl (nI_add k 1) (by decide) rfl ?_
                    refine r_goto C 53 dX6_padWord_131 (by decide) ?_
                    exact ih_53 (k + 1) _ (by omega) (by omega) (up_lt hp (by rw [padd_at _ (by omega), if_pos (by omega)]))
                · skip
                  exact absurd c_81 (by decide)
              · skip
                have c_66 : ¬ (k < 32) := fun h9 => c_66 ((nI_ltI (a := k) (b := 32) (by omega) (by omega)).mpr h9)
                exact (by first | omega | exact absurd c_66 c_56 | exact absurd c_56 c_66)
        refine r_eq rfl rfl (ws_self w_53).symm ?_
        exact loop_53 _ 0 _ (Nat.lt_succ_self _) (by omega) (fun m hm => absurd hm (Nat.not_lt_zero m))
  · skip
    exact absurd c_1 (by decide)
set_option maxHeartbeats 4000000 in
set_option maxRecDepth 100000 in
theorem cX6_padWord9_2 {w : Wo} {fu : Nat → Int32} {up : List Nat} (w_42 : w 42 = ia 64 fu) (h_s : hs fu up) (k_s : up.length ≤ 64) {fa sz rz rv ln pm lo ns os ik ms hsz : Int32} (w_35 : w 35 = mo fa sz rz rv ln pm lo ns os (nI up.length) ik ms hsz) {fpd : Nat → Int32} (w_49 : w 49 = ia 32 fpd) (hpd : ∀ k, k < 32 → fpd k = nI (padN.getD k 0)) {fp : Nat → Int32} (w_53 : w 53 = ia 32 fp) : Ctr mX6_padWord [.ref 35, .int 2] w (PV fun w' => ∃ fp', w' = wset w 53 (ia 32 fp') ∧ hs fp' (padd up)) := by
  refine Ctr_intro okX6_padWord rfl (Nat.le_of_ble_eq_true rfl) (L := [some (.ref 35), some (.int 2), none, none]) rfl (fun g ct C T_ => ?_)
  refine r_iload_n C dX6_padWord_0 rfl ?_
  refine r_if_ne C 11 dX6_padWord_1 (by decide) (fun c_1 => ?_) (fun c_1 => ?_)
  · skip
    refine r_iload_n C dX6_padWord_11 rfl ?_
    refine r_iconst C dX6_padWord_12 (v := 1) (by decide) ?_
    refine r_icmp_ne C 23 dX6_padWord_13 (by decide) (fun c_13 => ?_) (fun c_13 => ?_)
    · skip
      refine r_iload_n C dX6_padWord_23 rfl ?_
      refine r_iconst C dX6_padWord_24 (v := 2) (by decide) ?_
      refine r_icmp_ne C 35 dX6_padWord_25 (by decide) (fun c_25 => ?_) (fun c_25 => ?_)
      · skip
        exact absurd c_25 (by decide)
      · skip
        refine r_aload_n C dX6_padWord_28 rfl ?_
        refine r_get C dX6_padWord_29 fgRX6_200 (Nat.le_of_ble_eq_true rfl) w_35 rfl ?_
        refine r_goto C 37 dX6_padWord_32 (by decide) ?_
        refine r_istore_n C dX6_padWord_37 (L' := [some (.ref 35), some (.int 2), some (.int (nI up.length)), none]) (by decide) rfl ?_
        refine r_iload_n C dX6_padWord_38 rfl ?_
        refine r_bipush C dX6_padWord_39 (v := 32) (by decide) ?_
        refine r_icmp_le C 49 dX6_padWord_41 (by decide) (fun c_41 => ?_) (fun c_41 => ?_)
        · skip
          have c_41 : up.length ≤ 32 := (nI_leI (a := up.length) (b := 32) (by omega) (by omega)).mp c_41
          refine r_iload_n C dX6_padWord_49 rfl ?_
          refine r_istore_n C dX6_padWord_50 (L' := [some (.ref 35), some (.int 2), some (.int (nI up.length)), none]) (by decide) rfl ?_
          refine r_iconst C dX6_padWord_51 (v := 0) (by decide) ?_
          refine r_istore_n C dX6_padWord_52 (L' := [some (.ref 35), some (.int 2), some (.int (nI up.length)), some (.int 0)]) (by decide) rfl ?_
          have hn9 : up.length = min up.length 32 := by omega
          have loop_53 : ∀ (d9 : Nat) (k : Nat) (f1 : Nat → Int32), 32 - k < d9 → k ≤ 32 → (∀ m, m < k → f1 m = nI ((padd up).getD m 0)) → Az g mX6_padWord ct 0 0 53 [some (.ref 35), some (.int 2), some (.int (nI up.length)), some (.int (nI k))] [] (wset w 53 (ia 32 f1)) := by
            intro d9
            induction d9 with
            | zero => intro k f1 hd9; exact absurd hd9 (Nat.not_lt_zero _)
            | succ d9 ih_53 =>
              intro k f1 hd9 hk hp
              refine r_iload_n C dX6_padWord_53 rfl ?_
              refine r_bipush C dX6_padWord_54 (v := 32) (by decide) ?_
              refine r_icmp_ge C 134 dX6_padWord_56 (by decide) (fun c_56 => ?_) (fun c_56 => ?_)
              · skip
                have c_56 : 32 ≤ k := (nI_leI (a := 32) (b := k) (by omega) (by omega)).mp c_56
                exact r_return C T_ rfl dX6_padWord_134 (⟨rfl, _, rfl, hs_pre (xs := padd up) rfl (fun m hm => hp m (by rw [padd_len] at hm; omega)) (fun m hm => rfl)⟩)
              · skip
                have c_56 : ¬ (32 ≤ k) := fun h9 => c_56 ((nI_leI (a := 32) (b := k) (by omega) (by omega)).mpr h9)
                refine r_aload_n C dX6_padWord_59 rfl ?_
                refine r_get C dX6_padWord_60 fgRX6_135 (Nat.le_of_ble_eq_true rfl) (ws_ne (Nat.ne_of_beq_eq_false rfl) w_35) rfl ?_
                refine r_iload_n C dX6_padWord_63 rfl ?_
                refine r_iload_n C dX6_padWord_64 rfl ?_
                refine r_iload_n C dX6_padWord_65 rfl ?_
                refine r_icmp_lt C 80 dX6_padWord_66 (by decide) (fun c_66 => ?_) (fun c_66 => ?_)
                · skip
                  have c_66 : k < up.length := (nI_ltI (a := k) (b := up.length) (by omega) (by omega)).mp c_66
                  refine r_iload_n C dX6_padWord_80 rfl ?_
                  refine r_if_ne C 93 dX6_padWord_81 (by decide) (fun c_81 => ?_) (fun c_81 => ?_)
                  · skip
                    refine r_iload_n C dX6_padWord_93 rfl ?_
                    refine r_iconst C dX6_padWord_94 (v := 1) (by decide) ?_
                    refine r_icmp_ne C 107 dX6_padWord_95 (by decide) (fun c_95 => ?_) (fun c_95 => ?_)
                    · skip
                      refine r_iload_n C dX6_padWord_107 rfl ?_
                      refine r_iconst C dX6_padWord_108 (v := 2) (by decide) ?_
                      refine r_icmp_ne C 121 dX6_padWord_109 (by decide) (fun c_109 => ?_) (fun c_109 => ?_)
                      · skip
                        exact absurd c_109 (by decide)
                      · skip
                        refine r_aload_n C dX6_padWord_112 rfl ?_
                        refine r_get C dX6_padWord_113 fgRX6_38 (Nat.le_of_ble_eq_true rfl) (ws_ne (Nat.ne_of_beq_eq_false rfl) w_35) rfl ?_
                        refine r_iload_n C dX6_padWord_116 rfl ?_
                        refine r_ialdN C dX6_padWord_117 (Nat.le_of_ble_eq_true rfl) (ws_ne (Nat.ne_of_beq_eq_false rfl) w_42) (j := k) rfl (by omega) (by decide) ?_
                        refine r_top (y := nI (up.getD k 0)) (h_s k (by omega)) ?_
                        refine r_goto C 127 dX6_padWord_118 (by decide) ?_
                        refine r_iastN C dX6_padWord_127 (Nat.le_of_ble_eq_true rfl) ws_eq (j := k) rfl (by omega) (by decide) ?_
                        refine r_eq rfl rfl ws_same ?_
                        refine r_iinc C dX6_padWord_128 (v := nI (k + 1)) (L' := [some (.ref 35), some (.int 2), some (.int (nI up.length)), some (.int (nI (k + 1)))]) rfl (nI_add k 1) (by decide) rfl ?_
                        refine r_goto C 53 dX6_padWord_131 (by decide) ?_
                        exact ih_53 (k + 1) _ (by omega) (by omega) (up_lt hp (by rw [padd_at _ (by omega), if_pos (by omega)]))
                    · skip
                      exact absurd c_95 (by decide)
                  · skip
                    exact absurd c_81 (by decide)
                · skip
                  have c_66 : ¬ (k < up.length) := fun h9 => c_66 ((nI_ltI (a := k) (b := up.length) (by omega) (by omega)).mpr h9)
                  refine r_aload_n C dX6_padWord_69 rfl ?_
                  refine r_get C dX6_padWord_70 fgRX6_123 (Nat.le_of_ble_eq_true rfl) (ws_ne (Nat.ne_of_beq_eq_false rfl) w_35) rfl ?_
                  refine r_iload_n C dX6_padWord_73 rfl ?_
                  refine r_iload_n C dX6_padWord_74 rfl ?_
                  refine r_isub C dX6_padWord_75 ?_
                  refine r_top (y := nI (k - up.length)) (pk_sub (a := k) (b := up.length) (by omega)) ?_
                  refine r_ialdN C dX6_padWord_76 (Nat.le_of_ble_eq_true rfl) (ws_ne (Nat.ne_of_beq_eq_false rfl) w_49) (j := k - up.length) rfl (by omega) (by decide) ?_
                  refine r_top (y := nI (padN.getD (k - (min up.length 32)) 0)) ((hpd _ (by omega)).trans (by rw [← hn9])) ?_
                  refine r_goto C 127 dX6_padWord_77 (by decide) ?_
                  refine r_iastN C dX6_padWord_127 (Nat.le_of_ble_eq_true rfl) ws_eq (j := k) rfl (by omega) (by decide) ?_
                  refine r_eq rfl rfl ws_same ?_
                  refine r_iinc C dX6_padWord_128 (v := nI (k + 1)) (L' := [some (.ref 35), some (.int 2), some (.int (nI up.length)), some (.int (nI (k + 1)))]) rfl (nI_add k 1) (by decide) rfl ?_
                  refine r_goto C 53 dX6_padWord_131 (by decide) ?_
                  exact ih_53 (k + 1) _ (by omega) (by omega) (up_lt hp (by rw [padd_at _ (by omega), if_neg (by omega)]))
          refine r_eq rfl rfl (ws_self w_53).symm ?_
          exact loop_53 _ 0 _ (Nat.lt_succ_self _) (by omega) (fun m hm => absurd hm (Nat.not_lt_zero m))
        · skip
          have c_41 : ¬ (up.length ≤ 32) := fun h9 => c_41 ((nI_leI (a := up.length) (b := 32) (by omega) (by omega)).mpr h9)
          refine r_bipush C dX6_padWord_44 (v := 32) (by decide) ?_
          refine r_goto C 50 dX6_padWord_46 (by decide) ?_
          refine r_istore_n C dX6_padWord_50 (L' := [some (.ref 35), some (.int 2), some (.int 32), none]) (by decide) rfl ?_
          refine r_iconst C dX6_padWord_51 (v := 0) (by decide) ?_
          refine r_istore_n C dX6_padWord_52 (L' := [some (.ref 35), some (.int 2), some (.int 32), some (.int 0)]) (by decide) rfl ?_
          have hn9 : 32 = min up.length 32 := by omega
          have loop_53 : ∀ (d9 : Nat) (k : Nat) (f1 : Nat → Int32), 32 - k < d9 → k ≤ 32 → (∀ m, m < k → f1 m = nI ((padd up).getD m 0)) → Az g mX6_padWord ct 0 0 53 [some (.ref 35), some (.int 2), some (.int 32), some (.int (nI k))] [] (wset w 53 (ia 32 f1)) := by
            intro d9
            induction d9 with
            | zero => intro k f1 hd9; exact absurd hd9 (Nat.not_lt_zero _)
            | succ d9 ih_53 =>
              intro k f1 hd9 hk hp
              refine r_iload_n C dX6_padWord_53 rfl ?_
              refine r_bipush C dX6_padWord_54 (v := 32) (by decide) ?_
              refine r_icmp_ge C 134 dX6_padWord_56 (by decide) (fun c_56 => ?_) (fun c_56 => ?_)
              · skip
                have c_56 : 32 ≤ k := (nI_leI (a := 32) (b := k) (by omega) (by omega)).mp c_56
                exact r_return C T_ rfl dX6_padWord_134 (⟨rfl, _, rfl, hs_pre (xs := padd up) rfl (fun m hm => hp m (by rw [padd_len] at hm; omega)) (fun m hm => rfl)⟩)
              · skip
                have c_56 : ¬ (32 ≤ k) := fun h9 => c_56 ((nI_leI (a := 32) (b := k) (by omega) (by omega)).mpr h9)
                refine r_aload_n C dX6_padWord_59 rfl ?_
                refine r_get C dX6_padWord_60 fgRX6_135 (Nat.le_of_ble_eq_true rfl) (ws_ne (Nat.ne_of_beq_eq_false rfl) w_35) rfl ?_
                refine r_iload_n C dX6_padWord_63 rfl ?_
                refine r_iload_n C dX6_padWord_64 rfl ?_
                refine r_iload_n C dX6_padWord_65 rfl ?_
                refine r_icmp_lt C 80 dX6_padWord_66 (by decide) (fun c_66 => ?_) (fun c_66 => ?_)
                · skip
                  have c_66 : k < 32 := (nI_ltI (a := k) (b := 32) (by omega) (by omega)).mp c_66
                  refine r_iload_n C dX6_padWord_80 rfl ?_
                  refine r_if_ne C 93 dX6_padWord_81 (by decide) (fun c_81 => ?_) (fun c_81 => ?_)
                  · skip
                    refine r_iload_n C dX6_padWord_93 rfl ?_
                    refine r_iconst C dX6_padWord_94 (v := 1) (by decide) ?_
                    refine r_icmp_ne C 107 dX6_padWord_95 (by decide) (fun c_95 => ?_) (fun c_95 => ?_)
                    · skip
                      refine r_iload_n C dX6_padWord_107 rfl ?_
                      refine r_iconst C dX6_padWord_108 (v := 2) (by decide) ?_
                      refine r_icmp_ne C 121 dX6_padWord_109 (by decide) (fun c_109 => ?_) (fun c_109 => ?_)
                      · skip
                        exact absurd c_109 (by decide)
                      · skip
                        refine r_aload_n C dX6_padWord_112 rfl ?_
                        refine r_get C dX6_padWord_113 fgRX6_38 (Nat.le_of_ble_eq_true rfl) (ws_ne (Nat.ne_of_beq_eq_false rfl) w_35) rfl ?_
                        refine r_iload_n C dX6_padWord_116 rfl ?_
                        refine r_ialdN C dX6_padWord_117 (Nat.le_of_ble_eq_true rfl) (ws_ne (Nat.ne_of_beq_eq_false rfl) w_42) (j := k) rfl (by omega) (by decide) ?_
                        refine r_top (y := nI (up.getD k 0)) (h_s k (by omega)) ?_
                        refine r_goto C 127 dX6_padWord_118 (by decide) ?_
                        refine r_iastN C dX6_padWord_127 (Nat.le_of_ble_eq_true rfl) ws_eq (j := k) rfl (by omega) (by decide) ?_
                        refine r_eq rfl rfl ws_same ?_
                        refine r_iinc C dX6_padWord_128 (v := nI (k + 1)) (L' := [some (.ref 35), some (.int 2), some (.int 32), some (.int (nI (k + 1)))]) rfl (nI_add k 1) (by decide) rfl ?_
                        refine r_goto C 53 dX6_padWord_131 (by decide) ?_
                        exact ih_53 (k + 1) _ (by omega) (by omega) (up_lt hp (by rw [padd_at _ (by omega), if_pos (by omega)]))
                    · skip
                      exact absurd c_95 (by decide)
                  · skip
                    exact absurd c_81 (by decide)
                · skip
                  have c_66 : ¬ (k < 32) := fun h9 => c_66 ((nI_ltI (a := k) (b := 32) (by omega) (by omega)).mpr h9)
                  exact (by first | omega | exact absurd c_66 c_56 | exact absurd c_56 c_66)
          refine r_eq rfl rfl (ws_self w_53).symm ?_
          exact loop_53 _ 0 _ (Nat.lt_succ_self _) (by omega) (fun m hm => absurd hm (Nat.not_lt_zero m))
    · skip
      exact absurd c_13 (by decide)
  · skip
    exact absurd c_1 (by decide)
set_option maxHeartbeats 4000000 in
set_option maxRecDepth 100000 in
theorem cX6_padWord9_3 {w : Wo} {fe : Nat → Int32} {el : List Nat} (w_52 : w 52 = ia 32 fe) (h_s : hs fe el) (k_s : el.length ≤ 32) (hel : el.length = 32) {fa sz rz rv ln pm lo ns os uz ik ms hsz : Int32} (w_35 : w 35 = mo fa sz rz rv ln pm lo ns os uz ik ms hsz) {fpd : Nat → Int32} (w_49 : w 49 = ia 32 fpd) (hpd : ∀ k, k < 32 → fpd k = nI (padN.getD k 0)) {fp : Nat → Int32} (w_53 : w 53 = ia 32 fp) : Ctr mX6_padWord [.ref 35, .int 3] w (PV fun w' => ∃ fp', w' = wset w 53 (ia 32 fp') ∧ hs fp' (padd el)) := by
  refine Ctr_intro okX6_padWord rfl (Nat.le_of_ble_eq_true rfl) (L := [some (.ref 35), some (.int 3), none, none]) rfl (fun g ct C T_ => ?_)
  refine r_iload_n C dX6_padWord_0 rfl ?_
  refine r_if_ne C 11 dX6_padWord_1 (by decide) (fun c_1 => ?_) (fun c_1 => ?_)
  · skip
    refine r_iload_n C dX6_padWord_11 rfl ?_
    refine r_iconst C dX6_padWord_12 (v := 1) (by decide) ?_
    refine r_icmp_ne C 23 dX6_padWord_13 (by decide) (fun c_13 => ?_) (fun c_13 => ?_)
    · skip
      refine r_iload_n C dX6_padWord_23 rfl ?_
      refine r_iconst C dX6_padWord_24 (v := 2) (by decide) ?_
      refine r_icmp_ne C 35 dX6_padWord_25 (by decide) (fun c_25 => ?_) (fun c_25 => ?_)
      · skip
        refine r_bipush C dX6_padWord_35 (v := 32) (by decide) ?_
        refine r_istore_n C dX6_padWord_37 (L' := [some (.ref 35), some (.int 3), some (.int 32), none]) (by decide) rfl ?_
        refine r_iload_n C dX6_padWord_38 rfl ?_
        refine r_bipush C dX6_padWord_39 (v := 32) (by decide) ?_
        refine r_icmp_le C 49 dX6_padWord_41 (by decide) (fun c_41 => ?_) (fun c_41 => ?_)
        · skip
          refine r_iload_n C dX6_padWord_49 rfl ?_
          refine r_istore_n C dX6_padWord_50 (L' := [some (.ref 35), some (.int 3), some (.int 32), none]) (by decide) rfl ?_
          refine r_iconst C dX6_padWord_51 (v := 0) (by decide) ?_
          refine r_istore_n C dX6_padWord_52 (L' := [some (.ref 35), some (.int 3), some (.int 32), some (.int 0)]) (by decide) rfl ?_
          have hn9 : 32 = min el.length 32 := by omega
          have loop_53 : ∀ (d9 : Nat) (k : Nat) (f1 : Nat → Int32), 32 - k < d9 → k ≤ 32 → (∀ m, m < k → f1 m = nI ((padd el).getD m 0)) → Az g mX6_padWord ct 0 0 53 [some (.ref 35), some (.int 3), some (.int 32), some (.int (nI k))] [] (wset w 53 (ia 32 f1)) := by
            intro d9
            induction d9 with
            | zero => intro k f1 hd9; exact absurd hd9 (Nat.not_lt_zero _)
            | succ d9 ih_53 =>
              intro k f1 hd9 hk hp
              refine r_iload_n C dX6_padWord_53 rfl ?_
              refine r_bipush C dX6_padWord_54 (v := 32) (by decide) ?_
              refine r_icmp_ge C 134 dX6_padWord_56 (by decide) (fun c_56 => ?_) (fun c_56 => ?_)
              · skip
                have c_56 : 32 ≤ k := (nI_leI (a := 32) (b := k) (by omega) (by omega)).mp c_56
                exact r_return C T_ rfl dX6_padWord_134 (⟨rfl, _, rfl, hs_pre (xs := padd el) rfl (fun m hm => hp m (by rw [padd_len] at hm; omega)) (fun m hm => rfl)⟩)
              · skip
                have c_56 : ¬ (32 ≤ k) := fun h9 => c_56 ((nI_leI (a := 32) (b := k) (by omega) (by omega)).mpr h9)
                refine r_aload_n C dX6_padWord_59 rfl ?_
                refine r_get C dX6_padWord_60 fgRX6_135 (Nat.le_of_ble_eq_true rfl) (ws_ne (Nat.ne_of_beq_eq_false rfl) w_35) rfl ?_
                refine r_iload_n C dX6_padWord_63 rfl ?_
                refine r_iload_n C dX6_padWord_64 rfl ?_
                refine r_iload_n C dX6_padWord_65 rfl ?_
                refine r_icmp_lt C 80 dX6_padWord_66 (by decide) (fun c_66 => ?_) (fun c_66 => ?_)
                · skip
                  have c_66 : k < 32 := (nI_ltI (a := k) (b := 32) (by omega) (by omega)).mp c_66
                  refine r_iload_n C dX6_padWord_80 rfl ?_
                  refine r_if_ne C 93 dX6_padWord_81 (by decide) (fun c_81 => ?_) (fun c_81 => ?_)
                  · skip
                    refine r_iload_n C dX6_padWord_93 rfl ?_
                    refine r_iconst C dX6_padWord_94 (v := 1) (by decide) ?_
                    refine r_icmp_ne C 107 dX6_padWord_95 (by decide) (fun c_95 => ?_) (fun c_95 => ?_)
                    · skip
                      refine r_iload_n C dX6_padWord_107 rfl ?_
                      refine r_iconst C dX6_padWord_108 (v := 2) (by decide) ?_
                      refine r_icmp_ne C 121 dX6_padWord_109 (by decide) (fun c_109 => ?_) (fun c_109 => ?_)
                      · skip
                        refine r_aload_n C dX6_padWord_121 rfl ?_
                        refine r_get C dX6_padWord_122 fgRX6_132 (Nat.le_of_ble_eq_true rfl) (ws_ne (Nat.ne_of_beq_eq_false rfl) w_35) rfl ?_
                        refine r_iload_n C dX6_padWord_125 rfl ?_
                        refine r_ialdN C dX6_padWord_126 (Nat.le_of_ble_eq_true rfl) (ws_ne (Nat.ne_of_beq_eq_false rfl) w_52) (j := k) rfl (by omega) (by decide) ?_
                        refine r_top (y := nI (el.getD k 0)) (h_s k (by omega)) ?_
                        refine r_iastN C dX6_padWord_127 (Nat.le_of_ble_eq_true rfl) ws_eq (j := k) rfl (by omega) (by decide) ?_
                        refine r_eq rfl rfl ws_same ?_
                        refine r_iinc C dX6_padWord_128 (v := nI (k + 1)) (L' := [some (.ref 35), some (.int 3), some (.int 32), some (.int (nI (k + 1)))]) rfl (nI_add k 1) (by decide) rfl ?_
                        refine r_goto C 53 dX6_padWord_131 (by decide) ?_
                        exact ih_53 (k + 1) _ (by omega) (by omega) (up_lt hp (by rw [padd_at _ (by omega), if_pos (by omega)]))
                      · skip
                        exact absurd c_109 (by decide)
                    · skip
                      exact absurd c_95 (by decide)
                  · skip
                    exact absurd c_81 (by decide)
                · skip
                  have c_66 : ¬ (k < 32) := fun h9 => c_66 ((nI_ltI (a := k) (b := 32) (by omega) (by omega)).mpr h9)
                  exact (by first | omega | exact absurd c_66 c_56 | exact absurd c_56 c_66)
          refine r_eq rfl rfl (ws_self w_53).symm ?_
          exact loop_53 _ 0 _ (Nat.lt_succ_self _) (by omega) (fun m hm => absurd hm (Nat.not_lt_zero m))
        · skip
          exact absurd c_41 (by decide)
      · skip
        exact absurd c_25 (by decide)
    · skip
      exact absurd c_13 (by decide)
  · skip
    exact absurd c_1 (by decide)
