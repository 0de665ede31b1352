theorem gd_app1 {a b : List Nat} {m : Nat} (h : m < a.length) : (a ++ b).getD m 0 = a.getD m 0 := by
  simp [List.getD, List.getElem?_append_left h]
theorem gd_app2 {a b : List Nat} {m : Nat} (h : a.length ≤ m) : (a ++ b).getD m 0 = b.getD (m - a.length) 0 := by
  simp [List.getD, List.getElem?_append_right h]
theorem selZ_0 (xs : List Nat) (one two : Int32) : ∀ k, k < 16 → (selZ xs one two).getD k 0 = byj (if k < 4 then one else if k < 8 then two else if k < 12 then one ^^^ (-1) else two ^^^ (-1)) (3 - k % 4) := by
  intro k hk
  unfold selZ
  rw [gd_app1 (by simp only [List.length_append, hif_len]; omega), gd_app1 (by simp only [List.length_append, hif_len]; omega)]
  rcases (show k = 0 ∨ k = 1 ∨ k = 2 ∨ k = 3 ∨ k = 4 ∨ k = 5 ∨ k = 6 ∨ k = 7 ∨ k = 8 ∨ k = 9 ∨ k = 10 ∨ k = 11 ∨ k = 12 ∨ k = 13 ∨ k = 14 ∨ k = 15 by omega) with rfl | rfl | rfl | rfl | rfl | rfl | rfl | rfl | rfl | rfl | rfl | rfl | rfl | rfl | rfl | rfl <;> rfl
theorem selZ_1 (xs : List Nat) (one two : Int32) {m : Nat} (h : m < xs.length) : (selZ xs one two).getD (16 + m) 0 = xs.getD m 0 := by
  unfold selZ
  rw [gd_app1 (by simp only [List.length_append, hif_len]; omega), gd_app2 (by simp only [List.length_append, hif_len]; omega)]
  congr 1
  simp only [List.length_append, hif_len]
  omega
theorem selZ_2 (xs : List Nat) (one two : Int32) {m : Nat} (h : xs.length ≤ m) (h2 : m < xs.length + (16 - xs.length % 16)) : (selZ xs one two).getD (16 + m) 0 = 16 - xs.length % 16 := by
  unfold selZ
  rw [gd_app2 (by simp only [List.length_append, hif_len]; omega)]
  simp only [List.length_append, hif_len]
  simp only [List.getD]
  rw [List.getElem?_replicate, if_pos (by omega)]
  rfl
theorem slF_hi (KK Z : Nat → Nat) : ∀ c m, 16 * (c + 1) ≤ m → slF KK Z c m = Z m
  | 0, m, _ => rfl
  | c + 1, m, h => by
    unfold slF
    rw [if_neg (by omega)]
    exact slF_hi KK Z c m (by omega)
theorem slF_keep {KK Z : Nat → Nat} {c m : Nat} (h : m < 16 * (c + 1)) : slF KK Z (c + 1) m = slF KK Z c m := by
  rw [slF]
  exact if_neg (by omega)
theorem slF_new {KK Z B2 : Nat → Nat} {c j : Nat} (hj : j < 16) (hb : ∀ m, m < 16 → B2 m = Z (16 * (c + 1) + m) ^^^ slF KK Z c (16 * c + m)) : mkB KK B2 j = slF KK Z (c + 1) (16 * (c + 1) + j) := by
  rw [slF]
  show _ = if _ then _ else _
  rw [if_pos (by omega), Nat.add_sub_cancel_left]
  exact mkB_cg (fun k hk => by rw [hb k hk, slF_hi KK Z c _ (Nat.le_add_right _ _)]) j hj
theorem selB_of {KK : Nat → Nat} {xs : List Nat} {one two : Int32} {c : Nat} {f : Nat → Int32} (hl : 16 * (c + 1) = 16 + xs.length + (16 - xs.length % 16)) (h : ∀ m, m < 16 * (c + 1) → f m = nI (slF KK (fun m => (selZ xs one two).getD m 0) c m)) : hs f (selB KK xs one two) := by
  unfold selB
  rw [show (selZ xs one two).length / 16 - 1 = c by rw [selZ_len]; omega]
  exact hs_map (fun m hm => h m (by rw [selZ_len] at hm; omega))
set_option maxHeartbeats 4000000 in
set_option maxRecDepth 100000 in
theorem cX6_sealBlocks9 {w : Wo} {xs rs hl : List Nat} {fa rv ln pm lo ns os uz ik ms : Int32} (w_35 : w 35 = mo fa (nI xs.length) (nI rs.length) rv ln pm lo ns os uz ik ms (nI hl.length)) {fx fr9 fh : Nat → Int32} (w_36 : w 36 = ia 16384 fx) (h_xs : hs fx xs) (k_xs : xs.length ≤ 16384) (bx : byt xs) (w_37 : w 37 = ia 16384 fr9) (h_rs : hs fr9 rs) (w_50 : w 50 = ia 16 fh) (h_hl : hs fh hl) (k_hl : hl.length ≤ 16) (tl_byt : byt hl) {K B SW BK : Nat → Nat} (w_54 : w 54 = ia 176 (nf K)) (w_55 : w 55 = ia 16 (nf B)) {fot : Nat → Int32} (w_56 : w 56 = ia 16 fot) (w_57 : w 57 = ia 256 (nf SW)) (w_58 : w 58 = ia 256 (nf BK)) {one two : Int32} (hfit : 16 + xs.length + (16 - xs.length % 16) ≤ 16384) : Ctr mX6_sealBlocks [.ref 35, .int one, .int two] w (PV fun w' => (∃ SW' BK' K' fr' B' fo', w' = wset (wset (wset (wset (wset (wset (wset (w) 57 (ia 256 (nf SW'))) 58 (ia 256 (nf BK'))) 54 (ia 176 (nf K'))) 37 (ia 16384 fr')) 35 (mo fa (nI xs.length) (nI ((selB (kx hl) xs one two).length)) rv ln pm lo ns os uz ik ms (nI hl.length))) 55 (ia 16 (nf B'))) 56 (ia 16 fo') ∧ hs fr' (selB (kx hl) xs one two))) := by
  refine Ctr_intro okX6_sealBlocks rfl (Nat.le_of_ble_eq_true rfl) (L := [some (.ref 35), some (.int one), some (.int two), none, none, none, none]) rfl (fun g ct C T_ => ?_)
  refine r_aload_n C dX6_sealBlocks_0 rfl ?_
  refine r_callVv C (As := []) (rest := []) dX6_sealBlocks_1 (cX6_makeColumns9 w_35 w_50 h_hl k_hl tl_byt w_54 w_57 w_58) okX6_makeColumns mlRX6_278 imX6_makeColumns seX6_makeColumns ⟨by decide, by decide⟩ rfl rfl (Nat.le_of_ble_eq_true rfl) w_35 rfl rfl (Nat.le_of_ble_eq_true rfl) (by decide) (by decide) (fun w9 h9 => ?_)
  obtain ⟨SW_1, BK_2, K_3, rfl, h_4, h_5, h_6⟩ := h9
  have hsw := h_4
  have hbk := h_5
  obtain ⟨KK, hKKe⟩ : ∃ z, z = kx hl := ⟨_, rfl⟩
  have hK : ∀ k, k < 176 → K_3 k = KK k := by rw [hKKe]; exact h_6
  have hKK : ∀ k, k < 176 → KK k < 256 := fun k _ => by rw [hKKe]; exact kx_lt tl_byt k
  obtain ⟨Z, hZe⟩ : ∃ z : Nat → Nat, z = fun m => (selZ xs one two).getD m 0 := ⟨_, rfl⟩
  have hZ0 : ∀ k, k < 16 → Z k = byj (if k < 4 then one else if k < 8 then two else if k < 12 then one ^^^ (-1) else two ^^^ (-1)) (3 - k % 4) := by rw [hZe]; exact selZ_0 xs one two
  have hZ1 : ∀ m, m < xs.length → Z (16 + m) = xs.getD m 0 := by rw [hZe]; exact fun m h => selZ_1 xs one two h
  have hZ2 : ∀ m, xs.length ≤ m → m < xs.length + (16 - xs.length % 16) → Z (16 + m) = 16 - xs.length % 16 := by rw [hZe]; exact fun m h1 h2 => selZ_2 xs one two h1 h2
  have hZl : ∀ m, Z m < 256 := by rw [hZe]; exact fun m => byt_getD (byt_selZ bx one two) m
  refine r_bipush C dX6_sealBlocks_4 (v := 16) (by decide) ?_
  refine r_aload_n C dX6_sealBlocks_6 rfl ?_
  refine r_get C dX6_sealBlocks_7 fgRX6_156 (Nat.le_of_ble_eq_true rfl) (ws_ne (Nat.ne_of_beq_eq_false rfl) (ws_ne (Nat.ne_of_beq_eq_false rfl) (ws_ne (Nat.ne_of_beq_eq_false rfl) w_35))) rfl ?_
  refine r_bipush C dX6_sealBlocks_10 (v := 16) (by decide) ?_
  refine r_irem C dX6_sealBlocks_12 (by decide) ?_
  refine r_top (y := nI (xs.length % 16)) (pk_rem (a := xs.length) (d := 16) (by omega) (by omega) (by omega)) ?_
  refine r_isub C dX6_sealBlocks_13 ?_
  refine r_top (y := nI (16 - (xs.length % 16))) (pk_sub (a := 16) (b := xs.length % 16) (by omega)) ?_
  refine r_istore_n C dX6_sealBlocks_14 (L' := [some (.ref 35), some (.int one), some (.int two), some (.int (nI (16 - (xs.length % 16)))), none, none, none]) (by decide) rfl ?_
  refine r_iconst C dX6_sealBlocks_15 (v := 0) (by decide) ?_
  refine r_istore C dX6_sealBlocks_16 (L' := [some (.ref 35), some (.int one), some (.int two), some (.int (nI (16 - (xs.length % 16)))), some (.int 0), none, none]) (by decide) rfl ?_
  have loop_18 : ∀ (d9 : Nat) (k : Nat) (f1 : Nat → Int32), 16 - k < d9 → k ≤ 16 → (∀ m, m < k → f1 m = nI (Z m)) → Az g mX6_sealBlocks ct 0 0 18 [some (.ref 35), some (.int one), some (.int two), some (.int (nI (16 - xs.length % 16))), some (.int (nI k)), none, none] [] (wset (wset (wset (wset w 57 (ia 256 (nf SW_1))) 58 (ia 256 (nf BK_2))) 54 (ia 176 (nf K_3))) 37 (ia 16384 f1)) := by
    intro d9
    induction d9 with
    | zero => intro k f1 hd9; exact absurd hd9 (Nat.not_lt_zero _)
    | succ d9 ih_18 =>
      intro k f1 hd9 hk h1
      refine r_iload C dX6_sealBlocks_18 rfl ?_
      refine r_bipush C dX6_sealBlocks_20 (v := 16) (by decide) ?_
      refine r_icmp_ge C 94 dX6_sealBlocks_22 (by decide) (fun c_22 => ?_) (fun c_22 => ?_)
      · skip
        have c_22 : 16 ≤ k := (nI_leI (a := 16) (b := k) (by omega) (by omega)).mp c_22
        refine r_aload_n C dX6_sealBlocks_94 rfl ?_
        refine r_bipush C dX6_sealBlocks_95 (v := 16) (by decide) ?_
        refine r_put C dX6_sealBlocks_97 fpRX6_194 (Nat.le_of_ble_eq_true rfl) (ws_ne (Nat.ne_of_beq_eq_false rfl) (ws_ne (Nat.ne_of_beq_eq_false rfl) (ws_ne (Nat.ne_of_beq_eq_false rfl) (ws_ne (Nat.ne_of_beq_eq_false rfl) w_35)))) rfl rfl (Nat.le_of_ble_eq_true rfl) (fs' := [.int fa, .int (nI xs.length), .ref 36, .int 16, .ref 37, .int rv, .int ln, .int pm, .int lo, .ref 38, .ref 39, .int ns, .ref 40, .int os, .ref 41, .int uz, .ref 42, .int ik, .ref 43, .int ms, .ref 44, .ref 45, .ref 46, .ref 47, .ref 48, .ref 49, .int (nI hl.length), .ref 50, .ref 51, .ref 52, .ref 53, .ref 54, .ref 55, .ref 56, .ref 57, .ref 58]) rfl ?_
        refine r_iconst C dX6_sealBlocks_100 (v := 0) (by decide) ?_
        refine r_istore C dX6_sealBlocks_101 (L' := [some (.ref 35), some (.int one), some (.int two), some (.int (nI (16 - xs.length % 16))), some (.int 0), none, none]) (by decide) rfl ?_
        have loop_103 : ∀ (d9 : Nat) (c : Nat) (f2 : Nat → Int32) (B1 : Nat → Nat) (fo1 : Nat → Int32), xs.length + 32 - 16 * c < d9 → 16 * c ≤ xs.length + (16 - xs.length % 16) → (∀ m, m < 16 * (c + 1) → f2 m = nI (slF KK Z c m)) → Az g mX6_sealBlocks ct 0 0 103 [some (.ref 35), some (.int one), some (.int two), some (.int (nI (16 - xs.length % 16))), some (.int (nI (16 * c))), none, none] [] (wset (wset (wset (wset (wset (wset (wset w 57 (ia 256 (nf SW_1))) 58 (ia 256 (nf BK_2))) 54 (ia 176 (nf K_3))) 37 (ia 16384 f2)) 35 (mo fa (nI xs.length) (nI (16 * (c + 1))) rv ln pm lo ns os uz ik ms (nI hl.length))) 55 (ia 16 (nf B1))) 56 (ia 16 fo1)) := by
          intro d9
          induction d9 with
          | zero => intro c f2 B1 fo1 hd9; exact absurd hd9 (Nat.not_lt_zero _)
          | succ d9 ih_103 =>
            intro c f2 B1 fo1 hd9 hc hres
            refine r_iload C dX6_sealBlocks_103 rfl ?_
            refine r_aload_n C dX6_sealBlocks_105 rfl ?_
            refine r_get C dX6_sealBlocks_106 fgRX6_156 (Nat.le_of_ble_eq_true rfl) (ws_ne (Nat.ne_of_beq_eq_false rfl) (ws_ne (Nat.ne_of_beq_eq_false rfl) ws_eq)) rfl ?_
            refine r_iload_n C dX6_sealBlocks_109 rfl ?_
            refine r_iadd C dX6_sealBlocks_110 ?_
            refine r_top (y := nI (xs.length + (16 - xs.length % 16))) (nI_add xs.length (16 - xs.length % 16)) ?_
            refine r_icmp_ge C 230 dX6_sealBlocks_111 (by decide) (fun c_111 => ?_) (fun c_111 => ?_)
            · skip
              have c_111 : (xs.length + (16 - xs.length % 16)) ≤ (16 * c) := (nI_leI (a := xs.length + (16 - xs.length % 16)) (b := 16 * c) (by omega) (by omega)).mp c_111
              refine r_eq rfl rfl (show _ = _ from by rw [show nI (16 * (c + 1)) = nI (selB (kx hl) xs one two).length from congrArg nI (by rw [selB_len]; omega)]) ?_
              exact r_return C T_ rfl dX6_sealBlocks_230 (⟨rfl, _, _, _, _, _, _, rfl, by rw [← hKKe]; exact selB_of (c := c) (by omega) (fun m hm => by rw [← hZe]; exact hres m hm)⟩)
            · skip
              have c_111 : ¬ ((xs.length + (16 - xs.length % 16)) ≤ (16 * c)) := fun h9 => c_111 ((nI_leI (a := xs.length + (16 - xs.length % 16)) (b := 16 * c) (by omega) (by omega)).mpr h9)
              refine r_iconst C dX6_sealBlocks_114 (v := 0) (by decide) ?_
              refine r_istore C dX6_sealBlocks_115 (L' := [some (.ref 35), some (.int one), some (.int two), some (.int (nI (16 - xs.length % 16))), some (.int (nI (16 * c))), some (.int 0), none]) (by decide) rfl ?_
              have loop_117 : ∀ (d9 : Nat) (k : Nat) (B2 : Nat → Nat), 16 - k < d9 → k ≤ 16 → (∀ m, m < k → B2 m = Z (16 * (c + 1) + m) ^^^ slF KK Z c (16 * c + m)) → Az g mX6_sealBlocks ct 0 0 117 [some (.ref 35), some (.int one), some (.int two), some (.int (nI (16 - xs.length % 16))), some (.int (nI (16 * c))), some (.int (nI k)), none] [] (wset (wset (wset (wset (wset (wset (wset w 57 (ia 256 (nf SW_1))) 58 (ia 256 (nf BK_2))) 54 (ia 176 (nf K_3))) 37 (ia 16384 f2)) 35 (mo fa (nI xs.length) (nI (16 * (c + 1))) rv ln pm lo ns os uz ik ms (nI hl.length))) 55 (ia 16 (nf B2))) 56 (ia 16 fo1)) := by
                intro d9
                induction d9 with
                | zero => intro k B2 hd9; exact absurd hd9 (Nat.not_lt_zero _)
                | succ d9 ih_117 =>
                  intro k B2 hd9 hk hb
                  refine r_iload C dX6_sealBlocks_117 rfl ?_
                  refine r_bipush C dX6_sealBlocks_119 (v := 16) (by decide) ?_
                  refine r_icmp_ge C 178 dX6_sealBlocks_121 (by decide) (fun c_121 => ?_) (fun c_121 => ?_)
                  · skip
                    have c_121 : 16 ≤ k := (nI_leI (a := 16) (b := k) (by omega) (by omega)).mp c_121
                    refine r_aload_n C dX6_sealBlocks_178 rfl ?_
                    refine r_callVv C (As := []) (rest := []) dX6_sealBlocks_179 (cX6_makeBlock9 (ws_ne (Nat.ne_of_beq_eq_false rfl) (ws_ne (Nat.ne_of_beq_eq_false rfl) ws_eq)) (B := B2) (ws_ne (Nat.ne_of_beq_eq_false rfl) ws_eq) (ws_ne (Nat.ne_of_beq_eq_false rfl) (ws_ne (Nat.ne_of_beq_eq_false rfl) (ws_ne (Nat.ne_of_beq_eq_false rfl) (ws_ne (Nat.ne_of_beq_eq_false rfl) ws_eq)))) ws_eq (ws_ne (Nat.ne_of_beq_eq_false rfl) (ws_ne (Nat.ne_of_beq_eq_false rfl) (ws_ne (Nat.ne_of_beq_eq_false rfl) (ws_ne (Nat.ne_of_beq_eq_false rfl) (ws_ne (Nat.ne_of_beq_eq_false rfl) (ws_ne (Nat.ne_of_beq_eq_false rfl) ws_eq)))))) hsw (fun m hm => by rw [hb m (by omega)]; exact xor_lt (hZl _) (slF_lt hKK hZl _ _)) hK hKK) okX6_makeBlock mlRX6_302 imX6_makeBlock seX6_makeBlock ⟨by decide, by decide⟩ rfl rfl (Nat.le_of_ble_eq_true rfl) (ws_ne (Nat.ne_of_beq_eq_false rfl) (ws_ne (Nat.ne_of_beq_eq_false rfl) ws_eq)) rfl rfl (Nat.le_of_ble_eq_true rfl) (by decide) (by decide) (fun w9 h9 => ?_)
                    obtain ⟨fo_7, rfl⟩ := h9
                    refine r_eq rfl rfl ((congrArg (fun z => wset (z) 56 (ia 16 fo_7)) ((ws_comm (Nat.ne_of_beq_eq_false rfl)).trans (congrArg (fun z => wset z 56 (ia 16 fo1)) ws_same))).trans ws_same) ?_
                    refine r_iconst C dX6_sealBlocks_182 (v := 0) (by decide) ?_
                    refine r_istore C dX6_sealBlocks_183 (L' := [some (.ref 35), some (.int one), some (.int two), some (.int (nI (16 - xs.length % 16))), some (.int (nI (16 * c))), some (.int 0), none]) (by decide) rfl ?_
                    have loop_185 : ∀ (d9 : Nat) (j : Nat) (f3 : Nat → Int32), 16 - j < d9 → j ≤ 16 → (∀ m, m < 16 * (c + 1) + j → f3 m = nI (slF KK Z (c + 1) m)) → Az g mX6_sealBlocks ct 0 0 185 [some (.ref 35), some (.int one), some (.int two), some (.int (nI (16 - xs.length % 16))), some (.int (nI (16 * c))), some (.int (nI j)), none] [] (wset (wset (wset (wset (wset (wset (wset w 57 (ia 256 (nf SW_1))) 58 (ia 256 (nf BK_2))) 54 (ia 176 (nf K_3))) 37 (ia 16384 f3)) 35 (mo fa (nI xs.length) (nI (16 * (c + 1) + j)) rv ln pm lo ns os uz ik ms (nI hl.length))) 55 (ia 16 (nf (mkB KK B2)))) 56 (ia 16 fo_7)) := by
                      intro d9
                      induction d9 with
                      | zero => intro j f3 hd9; exact absurd hd9 (Nat.not_lt_zero _)
                      | succ d9 ih_185 =>
                        intro j f3 hd9 hj hw
                        refine r_iload C dX6_sealBlocks_185 rfl ?_
                        refine r_bipush C dX6_sealBlocks_187 (v := 16) (by decide) ?_
                        refine r_icmp_ge C 224 dX6_sealBlocks_189 (by decide) (fun c_189 => ?_) (fun c_189 => ?_)
                        · skip
                          have c_189 : 16 ≤ j := (nI_leI (a := 16) (b := j) (by omega) (by omega)).mp c_189
                          refine r_eq rfl rfl (show _ = _ from by rw [show nI (16 * (c + 1) + j) = nI (16 * (c + 1 + 1)) from congrArg nI (by omega)]) ?_
                          refine r_iinc C dX6_sealBlocks_224 (v := nI (16 * (c + 1))) (L' := [some (.ref 35), some (.int one), some (.int two), some (.int (nI (16 - xs.length % 16))), some (.int (nI (16 * (c + 1)))), some (.int (nI j)), none]) rfl ((nI_add (16 * c) 16).trans (congrArg nI (by omega))) (by decide) rfl ?_
                          refine r_goto C 103 dX6_sealBlocks_227 (by decide) ?_
                          refine r_forget [some (.ref 35), some (.int one), some (.int two), some (.int (nI (16 - xs.length % 16))), some (.int (nI (16 * (c + 1)))), none, none] ⟨Or.inr rfl, Or.inr rfl, Or.inr rfl, Or.inr rfl, Or.inr rfl, Or.inl rfl, Or.inl rfl, trivial⟩ ?_
                          exact ih_103 (c + 1) _ _ _ (by omega) (by omega) (fun m hm => hw m (by omega))
                        · skip
                          have c_189 : ¬ (16 ≤ j) := fun h9 => c_189 ((nI_leI (a := 16) (b := j) (by omega) (by omega)).mpr h9)
                          refine r_aload_n C dX6_sealBlocks_192 rfl ?_
                          refine r_get C dX6_sealBlocks_193 fgRX6_13 (Nat.le_of_ble_eq_true rfl) (ws_ne (Nat.ne_of_beq_eq_false rfl) (ws_ne (Nat.ne_of_beq_eq_false rfl) ws_eq)) rfl ?_
                          refine r_aload_n C dX6_sealBlocks_196 rfl ?_
                          refine r_get C dX6_sealBlocks_197 fgRX6_194 (Nat.le_of_ble_eq_true rfl) (ws_ne (Nat.ne_of_beq_eq_false rfl) (ws_ne (Nat.ne_of_beq_eq_false rfl) ws_eq)) rfl ?_
                          refine r_aload_n C dX6_sealBlocks_200 rfl ?_
                          refine r_get C dX6_sealBlocks_201 fgRX6_141 (Nat.le_of_ble_eq_true rfl) (ws_ne (Nat.ne_of_beq_eq_false rfl) (ws_ne (Nat.ne_of_beq_eq_false rfl) ws_eq)) rfl ?_
                          refine r_iload C dX6_sealBlocks_204 rfl ?_
                          refine r_ialdN C dX6_sealBlocks_206 (Nat.le_of_ble_eq_true rfl) (ws_ne (Nat.ne_of_beq_eq_false rfl) ws_eq) (j := j) rfl (by omega) (by decide) ?_
                          refine r_top (y := nI ((mkB KK B2) j)) (nf_at (mkB KK B2) j) ?_
                          refine r_iastN C dX6_sealBlocks_207 (Nat.le_of_ble_eq_true rfl) (ws_ne (Nat.ne_of_beq_eq_false rfl) (ws_ne (Nat.ne_of_beq_eq_false rfl) (ws_ne (Nat.ne_of_beq_eq_false rfl) ws_eq))) (j := 16 * (c + 1) + j) rfl (by omega) (by decide) ?_
                          refine r_eq rfl rfl ((ws_comm (Nat.ne_of_beq_eq_false rfl)).trans (congrArg (fun z => wset z 56 (ia 16 fo_7)) ((ws_comm (Nat.ne_of_beq_eq_false rfl)).trans (congrArg (fun z => wset z 55 (ia 16 (nf (mkB KK B2)))) ((ws_comm (Nat.ne_of_beq_eq_false rfl)).trans (congrArg (fun z => wset z 35 (mo fa (nI xs.length) (nI (16 * (c + 1) + j)) rv ln pm lo ns os uz ik ms (nI hl.length))) ws_same)))))) ?_
                          refine r_aload_n C dX6_sealBlocks_208 rfl ?_
                          refine r_dup C dX6_sealBlocks_209 rfl ?_
                          refine r_get C dX6_sealBlocks_210 fgRX6_194 (Nat.le_of_ble_eq_true rfl) (ws_ne (Nat.ne_of_beq_eq_false rfl) (ws_ne (Nat.ne_of_beq_eq_false rfl) ws_eq)) rfl ?_
                          refine r_iconst C dX6_sealBlocks_213 (v := 1) (by decide) ?_
                          refine r_iadd C dX6_sealBlocks_214 ?_
                          refine r_top (y := nI ((16 * (c + 1) + j) + 1)) (nI_add (16 * (c + 1) + j) 1) ?_
                          refine r_put C dX6_sealBlocks_215 fpRX6_194 (Nat.le_of_ble_eq_true rfl) (ws_ne (Nat.ne_of_beq_eq_false rfl) (ws_ne (Nat.ne_of_beq_eq_false rfl) ws_eq)) rfl rfl (Nat.le_of_ble_eq_true rfl) (fs' := [.int fa, .int (nI xs.length), .ref 36, .int (nI ((16 * (c + 1) + j) + 1)), .ref 37, .int rv, .int ln, .int pm, .int lo, .ref 38, .ref 39, .int ns, .ref 40, .int os, .ref 41, .int uz, .ref 42, .int ik, .ref 43, .int ms, .ref 44, .ref 45, .ref 46, .ref 47, .ref 48, .ref 49, .int (nI hl.length), .ref 50, .ref 51, .ref 52, .ref 53, .ref 54, .ref 55, .ref 56, .ref 57, .ref 58]) rfl ?_
                          refine r_eq rfl rfl ((ws_comm (Nat.ne_of_beq_eq_false rfl)).trans (congrArg (fun z => wset z 56 (ia 16 fo_7)) ((ws_comm (Nat.ne_of_beq_eq_false rfl)).trans (congrArg (fun z => wset z 55 (ia 16 (nf (mkB KK B2)))) ws_same)))) ?_
                          refine r_iinc C dX6_sealBlocks_218 (v := nI (j + 1)) (L' := [some (.ref 35), some (.int one), some (.int two), some (.int (nI (16 - xs.length % 16))), some (.int (nI (16 * c))), some (.int (nI (j + 1))), none]) rfl (nI_add j 1) (by decide) rfl ?_
                          refine r_goto C 185 dX6_sealBlocks_221 (by decide) ?_
                          exact ih_185 (j + 1) _ (by omega) (by omega) (up_lt hw (show nI _ = nI (slF KK Z (c + 1) (16 * (c + 1) + j)) from congrArg nI (slF_new (by omega) (fun m hm => hb m (by omega)))))
                    exact loop_185 _ 0 _ (Nat.lt_succ_self _) (by omega) (fun m hm => by rw [slF_keep (by omega)]; exact hres m (by omega))
                  · skip
                    have c_121 : ¬ (16 ≤ k) := fun h9 => c_121 ((nI_leI (a := 16) (b := k) (by omega) (by omega)).mpr h9)
                    refine r_iload C dX6_sealBlocks_124 rfl ?_
                    refine r_iload C dX6_sealBlocks_126 rfl ?_
                    refine r_iadd C dX6_sealBlocks_128 ?_
                    refine r_top (y := nI ((16 * c) + k)) (nI_add (16 * c) k) ?_
                    refine r_aload_n C dX6_sealBlocks_129 rfl ?_
                    refine r_get C dX6_sealBlocks_130 fgRX6_156 (Nat.le_of_ble_eq_true rfl) (ws_ne (Nat.ne_of_beq_eq_false rfl) (ws_ne (Nat.ne_of_beq_eq_false rfl) ws_eq)) rfl ?_
                    refine r_icmp_ge C 149 dX6_sealBlocks_133 (by decide) (fun c_133 => ?_) (fun c_133 => ?_)
                    · skip
                      have c_133 : xs.length ≤ ((16 * c) + k) := (nI_leI (a := xs.length) (b := (16 * c) + k) (by omega) (by omega)).mp c_133
                      refine r_iload_n C dX6_sealBlocks_149 rfl ?_
                      refine r_istore C dX6_sealBlocks_150 (L' := [some (.ref 35), some (.int one), some (.int two), some (.int (nI (16 - xs.length % 16))), some (.int (nI (16 * c))), some (.int (nI k)), some (.int (nI (16 - xs.length % 16)))]) (by decide) rfl ?_
                      refine r_aload_n C dX6_sealBlocks_152 rfl ?_
                      refine r_get C dX6_sealBlocks_153 fgRX6_141 (Nat.le_of_ble_eq_true rfl) (ws_ne (Nat.ne_of_beq_eq_false rfl) (ws_ne (Nat.ne_of_beq_eq_false rfl) ws_eq)) rfl ?_
                      refine r_iload C dX6_sealBlocks_156 rfl ?_
                      refine r_iload C dX6_sealBlocks_158 rfl ?_
                      refine r_aload_n C dX6_sealBlocks_160 rfl ?_
                      refine r_get C dX6_sealBlocks_161 fgRX6_13 (Nat.le_of_ble_eq_true rfl) (ws_ne (Nat.ne_of_beq_eq_false rfl) (ws_ne (Nat.ne_of_beq_eq_false rfl) ws_eq)) rfl ?_
                      refine r_iload C dX6_sealBlocks_164 rfl ?_
                      refine r_iload C dX6_sealBlocks_166 rfl ?_
                      refine r_iadd C dX6_sealBlocks_168 ?_
                      refine r_top (y := nI ((16 * c) + k)) (nI_add (16 * c) k) ?_
                      refine r_ialdN C dX6_sealBlocks_169 (Nat.le_of_ble_eq_true rfl) (ws_ne (Nat.ne_of_beq_eq_false rfl) (ws_ne (Nat.ne_of_beq_eq_false rfl) (ws_ne (Nat.ne_of_beq_eq_false rfl) ws_eq))) (j := (16 * c) + k) rfl (by omega) (by decide) ?_
                      refine r_top (y := nI (slF KK Z c (16 * c + k))) (hres _ (by omega)) ?_
                      refine r_ixor C dX6_sealBlocks_170 ?_
                      refine r_top (y := nI ((16 - xs.length % 16) ^^^ (slF KK Z c (16 * c + k)))) (nx_xor9 (16 - xs.length % 16) (slF KK Z c (16 * c + k))) ?_
                      refine r_iastF C dX6_sealBlocks_171 (Nat.le_of_ble_eq_true rfl) (ws_ne (Nat.ne_of_beq_eq_false rfl) ws_eq) (j := k) (x := (16 - xs.length % 16) ^^^ (slF KK Z c (16 * c + k))) rfl rfl (by omega) (by decide) ?_
                      refine r_eq rfl rfl ((ws_comm (Nat.ne_of_beq_eq_false rfl)).trans (congrArg (fun z => wset z 56 (ia 16 fo1)) ws_same)) ?_
                      refine r_iinc C dX6_sealBlocks_172 (v := nI (k + 1)) (L' := [some (.ref 35), some (.int one), some (.int two), some (.int (nI (16 - xs.length % 16))), some (.int (nI (16 * c))), some (.int (nI (k + 1))), some (.int (nI (16 - xs.length % 16)))]) rfl (nI_add k 1) (by decide) rfl ?_
                      refine r_goto C 117 dX6_sealBlocks_175 (by decide) ?_
                      refine r_forget [some (.ref 35), some (.int one), some (.int two), some (.int (nI (16 - xs.length % 16))), some (.int (nI (16 * c))), some (.int (nI (k + 1))), none] ⟨Or.inr rfl, Or.inr rfl, Or.inr rfl, Or.inr rfl, Or.inr rfl, Or.inr rfl, Or.inl rfl, trivial⟩ ?_
                      exact ih_117 (k + 1) _ (by omega) (by omega) (upn_lt (G := fun m => Z (16 * (c + 1) + m) ^^^ slF KK Z c (16 * c + m)) hb (show _ ^^^ _ = Z (16 * (c + 1) + k) ^^^ _ from by rw [show 16 * (c + 1) + k = 16 + (16 * c + k) by omega, hZ2 (16 * c + k) (by omega) (by omega)]))
                    · skip
                      have c_133 : ¬ (xs.length ≤ ((16 * c) + k)) := fun h9 => c_133 ((nI_leI (a := xs.length) (b := (16 * c) + k) (by omega) (by omega)).mpr h9)
                      refine r_aload_n C dX6_sealBlocks_136 rfl ?_
                      refine r_get C dX6_sealBlocks_137 fgRX6_7 (Nat.le_of_ble_eq_true rfl) (ws_ne (Nat.ne_of_beq_eq_false rfl) (ws_ne (Nat.ne_of_beq_eq_false rfl) ws_eq)) rfl ?_
                      refine r_iload C dX6_sealBlocks_140 rfl ?_
                      refine r_iload C dX6_sealBlocks_142 rfl ?_
                      refine r_iadd C dX6_sealBlocks_144 ?_
                      refine r_top (y := nI ((16 * c) + k)) (nI_add (16 * c) k) ?_
                      refine r_ialdN C dX6_sealBlocks_145 (Nat.le_of_ble_eq_true rfl) (ws_ne (Nat.ne_of_beq_eq_false rfl) (ws_ne (Nat.ne_of_beq_eq_false rfl) (ws_ne (Nat.ne_of_beq_eq_false rfl) (ws_ne (Nat.ne_of_beq_eq_false rfl) (ws_ne (Nat.ne_of_beq_eq_false rfl) (ws_ne (Nat.ne_of_beq_eq_false rfl) (ws_ne (Nat.ne_of_beq_eq_false rfl) w_36))))))) (j := (16 * c) + k) rfl (by omega) (by decide) ?_
                      refine r_top (y := nI (xs.getD (16 * c + k) 0)) (h_xs _ (by omega)) ?_
                      refine r_goto C 150 dX6_sealBlocks_146 (by decide) ?_
                      refine r_istore C dX6_sealBlocks_150 (L' := [some (.ref 35), some (.int one), some (.int two), some (.int (nI (16 - xs.length % 16))), some (.int (nI (16 * c))), some (.int (nI k)), some (.int (nI (xs.getD (16 * c + k) 0)))]) (by decide) rfl ?_
                      refine r_aload_n C dX6_sealBlocks_152 rfl ?_
                      refine r_get C dX6_sealBlocks_153 fgRX6_141 (Nat.le_of_ble_eq_true rfl) (ws_ne (Nat.ne_of_beq_eq_false rfl) (ws_ne (Nat.ne_of_beq_eq_false rfl) ws_eq)) rfl ?_
                      refine r_iload C dX6_sealBlocks_156 rfl ?_
                      refine r_iload C dX6_sealBlocks_158 rfl ?_
                      refine r_aload_n C dX6_sealBlocks_160 rfl ?_
                      refine r_get C dX6_sealBlocks_161 fgRX6_13 (Nat.le_of_ble_eq_true rfl) (ws_ne (Nat.ne_of_beq_eq_false rfl) (ws_ne (Nat.ne_of_beq_eq_false rfl) ws_eq)) rfl ?_
                      refine r_iload C dX6_sealBlocks_164 rfl ?_
                      refine r_iload C dX6_sealBlocks_166 rfl ?_
                      refine r_iadd C dX6_sealBlocks_168 ?_
                      refine r_top (y := nI ((16 * c) + k)) (nI_add (16 * c) k) ?_
                      refine r_ialdN C dX6_sealBlocks_169 (Nat.le_of_ble_eq_true rfl) (ws_ne (Nat.ne_of_beq_eq_false rfl) (ws_ne (Nat.ne_of_beq_eq_false rfl) (ws_ne (Nat.ne_of_beq_eq_false rfl) ws_eq))) (j := (16 * c) + k) rfl (by omega) (by decide) ?_
                      refine r_top (y := nI (slF KK Z c (16 * c + k))) (hres _ (by omega)) ?_
                      refine r_ixor C dX6_sealBlocks_170 ?_
                      refine r_top (y := nI ((xs.getD (16 * c + k) 0) ^^^ (slF KK Z c (16 * c + k)))) (nx_xor9 (xs.getD (16 * c + k) 0) (slF KK Z c (16 * c + k))) ?_
                      refine r_iastF C dX6_sealBlocks_171 (Nat.le_of_ble_eq_true rfl) (ws_ne (Nat.ne_of_beq_eq_false rfl) ws_eq) (j := k) (x := (xs.getD (16 * c + k) 0) ^^^ (slF KK Z c (16 * c + k))) rfl rfl (by omega) (by decide) ?_
                      refine r_eq rfl rfl ((ws_comm (Nat.ne_of_beq_eq_false rfl)).trans (congrArg (fun z => wset z 56 (ia 16 fo1)) ws_same)) ?_
                      refine r_iinc C dX6_sealBlocks_172 (v := nI (k + 1)) (L' := [some (.ref 35), some (.int one), some (.int two), some (.int (nI (16 - xs.length % 16))), some (.int (nI (16 * c))), some (.int (nI (k + 1))), some (.int (nI (xs.getD (16 * c + k) 0)))]) rfl (nI_add k 1) (by decide) rfl ?_
                      refine r_goto C 117 dX6_sealBlocks_175 (by decide) ?_
                      refine r_forget [some (.ref 35), some (.int one), some (.int two), some (.int (nI (16 - xs.length % 16))), some (.int (nI (16 * c))), some (.int (nI (k + 1))), none] ⟨Or.inr rfl, Or.inr rfl, Or.inr rfl, Or.inr rfl, Or.inr rfl, Or.inr rfl, Or.inl rfl, trivial⟩ ?_
                      exact ih_117 (k + 1) _ (by omega) (by omega) (upn_lt (G := fun m => Z (16 * (c + 1) + m) ^^^ slF KK Z c (16 * c + m)) hb (show _ ^^^ _ = Z (16 * (c + 1) + k) ^^^ _ from by rw [show 16 * (c + 1) + k = 16 + (16 * c + k) by omega, hZ1 (16 * c + k) (by omega)]))
              exact loop_117 _ 0 _ (Nat.lt_succ_self _) (by omega) (fun m hm => absurd hm (Nat.not_lt_zero m))
        refine r_eq rfl rfl (ws_self (ws_ne (Nat.ne_of_beq_eq_false rfl) (ws_ne (Nat.ne_of_beq_eq_false rfl) (ws_ne (Nat.ne_of_beq_eq_false rfl) (ws_ne (Nat.ne_of_beq_eq_false rfl) (ws_ne (Nat.ne_of_beq_eq_false rfl) w_55)))))).symm ?_
        refine r_eq rfl rfl (ws_self (ws_ne (Nat.ne_of_beq_eq_false rfl) (ws_ne (Nat.ne_of_beq_eq_false rfl) (ws_ne (Nat.ne_of_beq_eq_false rfl) (ws_ne (Nat.ne_of_beq_eq_false rfl) (ws_ne (Nat.ne_of_beq_eq_false rfl) (ws_ne (Nat.ne_of_beq_eq_false rfl) w_56))))))).symm ?_
        exact loop_103 _ 0 _ _ _ (Nat.lt_succ_self _) (by omega) (fun m hm => h1 m (by omega))
      · skip
        have c_22 : ¬ (16 ≤ k) := fun h9 => c_22 ((nI_leI (a := 16) (b := k) (by omega) (by omega)).mpr h9)
        refine r_iload C dX6_sealBlocks_25 rfl ?_
        refine r_iconst C dX6_sealBlocks_27 (v := 4) (by decide) ?_
        refine r_icmp_ge C 35 dX6_sealBlocks_28 (by decide) (fun c_28 => ?_) (fun c_28 => ?_)
        · skip
          have c_28 : 4 ≤ k := (nI_leI (a := 4) (b := k) (by omega) (by omega)).mp c_28
          refine r_iload C dX6_sealBlocks_35 rfl ?_
          refine r_bipush C dX6_sealBlocks_37 (v := 8) (by decide) ?_
          refine r_icmp_ge C 46 dX6_sealBlocks_39 (by decide) (fun c_39 => ?_) (fun c_39 => ?_)
          · skip
            have c_39 : 8 ≤ k := (nI_leI (a := 8) (b := k) (by omega) (by omega)).mp c_39
            refine r_iload C dX6_sealBlocks_46 rfl ?_
            refine r_bipush C dX6_sealBlocks_48 (v := 12) (by decide) ?_
            refine r_icmp_ge C 59 dX6_sealBlocks_50 (by decide) (fun c_50 => ?_) (fun c_50 => ?_)
            · skip
              have c_50 : 12 ≤ k := (nI_leI (a := 12) (b := k) (by omega) (by omega)).mp c_50
              refine r_iload_n C dX6_sealBlocks_59 rfl ?_
              refine r_iconst C dX6_sealBlocks_60 (v := (-1)) (by decide) ?_
              refine r_ixor C dX6_sealBlocks_61 ?_
              refine r_istore C dX6_sealBlocks_62 (L' := [some (.ref 35), some (.int one), some (.int two), some (.int (nI (16 - xs.length % 16))), some (.int (nI k)), some (.int (two ^^^ (-1))), none]) (by decide) rfl ?_
              refine r_aload_n C dX6_sealBlocks_64 rfl ?_
              refine r_get C dX6_sealBlocks_65 fgRX6_13 (Nat.le_of_ble_eq_true rfl) (ws_ne (Nat.ne_of_beq_eq_false rfl) (ws_ne (Nat.ne_of_beq_eq_false rfl) (ws_ne (Nat.ne_of_beq_eq_false rfl) (ws_ne (Nat.ne_of_beq_eq_false rfl) w_35)))) rfl ?_
              refine r_iload C dX6_sealBlocks_68 rfl ?_
              refine r_iload C dX6_sealBlocks_70 rfl ?_
              refine r_bipush C dX6_sealBlocks_72 (v := 24) (by decide) ?_
              refine r_bipush C dX6_sealBlocks_74 (v := 8) (by decide) ?_
              refine r_iload C dX6_sealBlocks_76 rfl ?_
              refine r_iconst C dX6_sealBlocks_78 (v := 4) (by decide) ?_
              refine r_irem C dX6_sealBlocks_79 (by decide) ?_
              refine r_top (y := nI (k % 4)) (pk_rem (a := k) (d := 4) (by omega) (by omega) (by omega)) ?_
              refine r_imul C dX6_sealBlocks_80 ?_
              refine r_top (y := nI (8 * (k % 4))) (pk_mul 8 (k % 4)) ?_
              refine r_isub C dX6_sealBlocks_81 ?_
              refine r_top (y := nI (24 - (8 * (k % 4)))) (pk_sub (a := 24) (b := 8 * (k % 4)) (by omega)) ?_
              refine r_ishr C dX6_sealBlocks_82 ?_
              refine r_sipush C dX6_sealBlocks_83 (v := 255) (by decide) ?_
              refine r_iand C dX6_sealBlocks_86 ?_
              refine r_top (y := nI (byj (two ^^^ (-1)) (3 - k % 4))) ((by rw [show 24 - (8 * (k % 4)) = 8 * (3 - k % 4) by omega]; exact shr_and _ (by omega))) ?_
              refine r_iastN C dX6_sealBlocks_87 (Nat.le_of_ble_eq_true rfl) ws_eq (j := k) rfl (by omega) (by decide) ?_
              refine r_eq rfl rfl ws_same ?_
              refine r_iinc C dX6_sealBlocks_88 (v := nI (k + 1)) (L' := [some (.ref 35), some (.int one), some (.int two), some (.int (nI (16 - xs.length % 16))), some (.int (nI (k + 1))), some (.int (two ^^^ (-1))), none]) rfl (nI_add k 1) (by decide) rfl ?_
              refine r_goto C 18 dX6_sealBlocks_91 (by decide) ?_
              refine r_forget [some (.ref 35), some (.int one), some (.int two), some (.int (nI (16 - xs.length % 16))), some (.int (nI (k + 1))), none, none] ⟨Or.inr rfl, Or.inr rfl, Or.inr rfl, Or.inr rfl, Or.inr rfl, Or.inl rfl, Or.inl rfl, trivial⟩ ?_
              exact ih_18 (k + 1) _ (by omega) (by omega) (up_lt h1 (show nI _ = nI (Z k) from by rw [hZ0 k (by omega), if_neg (show ¬ k < 4 by omega), if_neg (show ¬ k < 8 by omega), if_neg (show ¬ k < 12 by omega)]))
            · skip
              have c_50 : ¬ (12 ≤ k) := fun h9 => c_50 ((nI_leI (a := 12) (b := k) (by omega) (by omega)).mpr h9)
              refine r_iload_n C dX6_sealBlocks_53 rfl ?_
              refine r_iconst C dX6_sealBlocks_54 (v := (-1)) (by decide) ?_
              refine r_ixor C dX6_sealBlocks_55 ?_
              refine r_goto C 62 dX6_sealBlocks_56 (by decide) ?_
              refine r_istore C dX6_sealBlocks_62 (L' := [some (.ref 35), some (.int one), some (.int two), some (.int (nI (16 - xs.length % 16))), some (.int (nI k)), some (.int (one ^^^ (-1))), none]) (by decide) rfl ?_
              refine r_aload_n C dX6_sealBlocks_64 rfl ?_
              refine r_get C dX6_sealBlocks_65 fgRX6_13 (Nat.le_of_ble_eq_true rfl) (ws_ne (Nat.ne_of_beq_eq_false rfl) (ws_ne (Nat.ne_of_beq_eq_false rfl) (ws_ne (Nat.ne_of_beq_eq_false rfl) (ws_ne (Nat.ne_of_beq_eq_false rfl) w_35)))) rfl ?_
              refine r_iload C dX6_sealBlocks_68 rfl ?_
              refine r_iload C dX6_sealBlocks_70 rfl ?_
              refine r_bipush C dX6_sealBlocks_72 (v := 24) (by decide) ?_
              refine r_bipush C dX6_sealBlocks_74 (v := 8) (by decide) ?_
              refine r_iload C dX6_sealBlocks_76 rfl ?_
              refine r_iconst C dX6_sealBlocks_78 (v := 4) (by decide) ?_
              refine r_irem C dX6_sealBlocks_79 (by decide) ?_
              refine r_top (y := nI (k % 4)) (pk_rem (a := k) (d := 4) (by omega) (by omega) (by omega)) ?_
              refine r_imul C dX6_sealBlocks_80 ?_
              refine r_top (y := nI (8 * (k % 4))) (pk_mul 8 (k % 4)) ?_
              refine r_isub C dX6_sealBlocks_81 ?_
              refine r_top (y := nI (24 - (8 * (k % 4)))) (pk_sub (a := 24) (b := 8 * (k % 4)) (by omega)) ?_
              refine r_ishr C dX6_sealBlocks_82 ?_
              refine r_sipush C dX6_sealBlocks_83 (v := 255) (by decide) ?_
              refine r_iand C dX6_sealBlocks_86 ?_
              refine r_top (y := nI (byj (one ^^^ (-1)) (3 - k % 4))) ((by rw [show 24 - (8 * (k % 4)) = 8 * (3 - k % 4) by omega]; exact shr_and _ (by omega))) ?_
              refine r_iastN C dX6_sealBlocks_87 (Nat.le_of_ble_eq_true rfl) ws_eq (j := k) rfl (by omega) (by decide) ?_
              refine r_eq rfl rfl ws_same ?_
              refine r_iinc C dX6_sealBlocks_88 (v := nI (k + 1)) (L' := [some (.ref 35), some (.int one), some (.int two), some (.int (nI (16 - xs.length % 16))), some (.int (nI (k + 1))), some (.int (one ^^^ (-1))), none]) rfl (nI_add k 1) (by decide) rfl ?_
              refine r_goto C 18 dX6_sealBlocks_91 (by decide) ?_
              refine r_forget [some (.ref 35), some (.int one), some (.int two), some (.int (nI (16 - xs.length % 16))), some (.int (nI (k + 1))), none, none] ⟨Or.inr rfl, Or.inr rfl, Or.inr rfl, Or.inr rfl, Or.inr rfl, Or.inl rfl, Or.inl rfl, trivial⟩ ?_
              exact ih_18 (k + 1) _ (by omega) (by omega) (up_lt h1 (show nI _ = nI (Z k) from by rw [hZ0 k (by omega), if_neg (show ¬ k < 4 by omega), if_neg (show ¬ k < 8 by omega), if_pos (show k < 12 by omega)]))
          · skip
            have c_39 : ¬ (8 ≤ k) := fun h9 => c_39 ((nI_leI (a := 8) (b := k) (by omega) (by omega)).mpr h9)
            refine r_iload_n C dX6_sealBlocks_42 rfl ?_
            refine r_goto C 62 dX6_sealBlocks_43 (by decide) ?_
            refine r_istore C dX6_sealBlocks_62 (L' := [some (.ref 35), some (.int one), some (.int two), some (.int (nI (16 - xs.length % 16))), some (.int (nI k)), some (.int two), none]) (by decide) rfl ?_
            refine r_aload_n C dX6_sealBlocks_64 rfl ?_
            refine r_get C dX6_sealBlocks_65 fgRX6_13 (Nat.le_of_ble_eq_true rfl) (ws_ne (Nat.ne_of_beq_eq_false rfl) (ws_ne (Nat.ne_of_beq_eq_false rfl) (ws_ne (Nat.ne_of_beq_eq_false rfl) (ws_ne (Nat.ne_of_beq_eq_false rfl) w_35)))) rfl ?_
            refine r_iload C dX6_sealBlocks_68 rfl ?_
            refine r_iload C dX6_sealBlocks_70 rfl ?_
            refine r_bipush C dX6_sealBlocks_72 (v := 24) (by decide) ?_
            refine r_bipush C dX6_sealBlocks_74 (v := 8) (by decide) ?_
            refine r_iload C dX6_sealBlocks_76 rfl ?_
            refine r_iconst C dX6_sealBlocks_78 (v := 4) (by decide) ?_
            refine r_irem C dX6_sealBlocks_79 (by decide) ?_
            refine r_top (y := nI (k % 4)) (pk_rem (a := k) (d := 4) (by omega) (by omega) (by omega)) ?_
            refine r_imul C dX6_sealBlocks_80 ?_
            refine r_top (y := nI (8 * (k % 4))) (pk_mul 8 (k % 4)) ?_
            refine r_isub C dX6_sealBlocks_81 ?_
            refine r_top (y := nI (24 - (8 * (k % 4)))) (pk_sub (a := 24) (b := 8 * (k % 4)) (by omega)) ?_
            refine r_ishr C dX6_sealBlocks_82 ?_
            refine r_sipush C dX6_sealBlocks_83 (v := 255) (by decide) ?_
            refine r_iand C dX6_sealBlocks_86 ?_
            refine r_top (y := nI (byj (two) (3 - k % 4))) ((by rw [show 24 - (8 * (k % 4)) = 8 * (3 - k % 4) by omega]; exact shr_and _ (by omega))) ?_
            refine r_iastN C dX6_sealBlocks_87 (Nat.le_of_ble_eq_true rfl) ws_eq (j := k) rfl (by omega) (by decide) ?_
            refine r_eq rfl rfl ws_same ?_
            refine r_iinc C dX6_sealBlocks_88 (v := nI (k + 1)) (L' := [some (.ref 35), some (.int one), some (.int two), some (.int (nI (16 - xs.length % 16))), some (.int (nI (k + 1))), some (.int two), none]) rfl (nI_add k 1) (by decide) rfl ?_
            refine r_goto C 18 dX6_sealBlocks_91 (by decide) ?_
            refine r_forget [some (.ref 35), some (.int one), some (.int two), some (.int (nI (16 - xs.length % 16))), some (.int (nI (k + 1))), none, none] ⟨Or.inr rfl, Or.inr rfl, Or.inr rfl, Or.inr rfl, Or.inr rfl, Or.inl rfl, Or.inl rfl, trivial⟩ ?_
            exact ih_18 (k + 1) _ (by omega) (by omega) (up_lt h1 (show nI _ = nI (Z k) from by rw [hZ0 k (by omega), if_neg (show ¬ k < 4 by omega), if_pos (show k < 8 by omega)]))
        · skip
          have c_28 : ¬ (4 ≤ k) := fun h9 => c_28 ((nI_leI (a := 4) (b := k) (by omega) (by omega)).mpr h9)
          refine r_iload_n C dX6_sealBlocks_31 rfl ?_
          refine r_goto C 62 dX6_sealBlocks_32 (by decide) ?_
          refine r_istore C dX6_sealBlocks_62 (L' := [some (.ref 35), some (.int one), some (.int two), some (.int (nI (16 - xs.length % 16))), some (.int (nI k)), some (.int one), none]) (by decide) rfl ?_
          refine r_aload_n C dX6_sealBlocks_64 rfl ?_
          refine r_get C dX6_sealBlocks_65 fgRX6_13 (Nat.le_of_ble_eq_true rfl) (ws_ne (Nat.ne_of_beq_eq_false rfl) (ws_ne (Nat.ne_of_beq_eq_false rfl) (ws_ne (Nat.ne_of_beq_eq_false rfl) (ws_ne (Nat.ne_of_beq_eq_false rfl) w_35)))) rfl ?_
          refine r_iload C dX6_sealBlocks_68 rfl ?_
          refine r_iload C dX6_sealBlocks_70 rfl ?_
          refine r_bipush C dX6_sealBlocks_72 (v := 24) (by decide) ?_
          refine r_bipush C dX6_sealBlocks_74 (v := 8) (by decide) ?_
          refine r_iload C dX6_sealBlocks_76 rfl ?_
          refine r_iconst C dX6_sealBlocks_78 (v := 4) (by decide) ?_
          refine r_irem C dX6_sealBlocks_79 (by decide) ?_
          refine r_top (y := nI (k % 4)) (pk_rem (a := k) (d := 4) (by omega) (by omega) (by omega)) ?_
          refine r_imul C dX6_sealBlocks_80 ?_
          refine r_top (y := nI (8 * (k % 4))) (pk_mul 8 (k % 4)) ?_
          refine r_isub C dX6_sealBlocks_81 ?_
          refine r_top (y := nI (24 - (8 * (k % 4)))) (pk_sub (a := 24) (b := 8 * (k % 4)) (by omega)) ?_
          refine r_ishr C dX6_sealBlocks_82 ?_
          refine r_sipush C dX6_sealBlocks_83 (v := 255) (by decide) ?_
          refine r_iand C dX6_sealBlocks_86 ?_
          refine r_top (y := nI (byj (one) (3 - k % 4))) ((by rw [show 24 - (8 * (k % 4)) = 8 * (3 - k % 4) by omega]; exact shr_and _ (by omega))) ?_
          refine r_iastN C dX6_sealBlocks_87 (Nat.le_of_ble_eq_true rfl) ws_eq (j := k) rfl (by omega) (by decide) ?_
          refine r_eq rfl rfl ws_same ?_
          refine r_iinc C dX6_sealBlocks_88 (v := nI (k + 1)) (L' := [some (.ref 35), some (.int one), some (.int two), some (.int (nI (16 - xs.length % 16))), some (.int (nI (k + 1))), some (.int one), none]) rfl (nI_add k 1) (by decide) rfl ?_
          refine r_goto C 18 dX6_sealBlocks_91 (by decide) ?_
          refine r_forget [some (.ref 35), some (.int one), some (.int two), some (.int (nI (16 - xs.length % 16))), some (.int (nI (k + 1))), none, none] ⟨Or.inr rfl, Or.inr rfl, Or.inr rfl, Or.inr rfl, Or.inr rfl, Or.inl rfl, Or.inl rfl, trivial⟩ ?_
          exact ih_18 (k + 1) _ (by omega) (by omega) (up_lt h1 (show nI _ = nI (Z k) from by rw [hZ0 k (by omega), if_pos (show k < 4 by omega)]))
  refine r_eq rfl rfl (ws_self (ws_ne (Nat.ne_of_beq_eq_false rfl) (ws_ne (Nat.ne_of_beq_eq_false rfl) (ws_ne (Nat.ne_of_beq_eq_false rfl) w_37)))).symm ?_
  exact loop_18 _ 0 _ (Nat.lt_succ_self _) (by omega) (fun m hm => absurd hm (Nat.not_lt_zero m))
