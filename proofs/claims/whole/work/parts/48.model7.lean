set_option maxHeartbeats 4000000 in
set_option maxRecDepth 100000 in
theorem cX6_doubled9 {w : Wo} {v : Nat} (hv : v < 256) : Ctr mX6_doubled [.int (nI v)] w (PI fun r w' => w' = w ∧ r = nI (xt v)) := by
  refine Ctr_intro okX6_doubled rfl (Nat.le_of_ble_eq_true rfl) (L := [some (.int (nI v))]) rfl (fun g ct C T_ => ?_)
  refine r_iload_n C dX6_doubled_0 rfl ?_
  refine r_sipush C dX6_doubled_1 (v := 128) (by decide) ?_
  refine r_icmp_ge C 13 dX6_doubled_4 (by decide) (fun c_4 => ?_) (fun c_4 => ?_)
  · skip
    have c_4 : 128 ≤ v := (nI_leI (a := 128) (b := v) (by omega) (by omega)).mp c_4
    refine r_iconst C dX6_doubled_13 (v := 2) (by decide) ?_
    refine r_iload_n C dX6_doubled_14 rfl ?_
    refine r_imul C dX6_doubled_15 ?_
    refine r_top (y := nI (2 * v)) (pk_mul 2 v) ?_
    refine r_sipush C dX6_doubled_16 (v := 256) (by decide) ?_
    refine r_isub C dX6_doubled_19 ?_
    refine r_top (y := nI ((2 * v) - 256)) (pk_sub (a := 2 * v) (b := 256) (by omega)) ?_
    refine r_bipush C dX6_doubled_20 (v := 27) (by decide) ?_
    refine r_ixor C dX6_doubled_22 ?_
    refine r_top (y := nI (((2 * v) - 256) ^^^ 27)) (nx_xor9 ((2 * v) - 256) 27) ?_
    exact r_ireturn C T_ rfl rfl dX6_doubled_23 (⟨_, rfl, rfl, by unfold xt; rw [if_neg (by omega), dbl_eq v hv (by omega)]⟩)
  · skip
    have c_4 : ¬ (128 ≤ v) := fun h9 => c_4 ((nI_leI (a := 128) (b := v) (by omega) (by omega)).mpr h9)
    refine r_iconst C dX6_doubled_7 (v := 2) (by decide) ?_
    refine r_iload_n C dX6_doubled_8 rfl ?_
    refine r_imul C dX6_doubled_9 ?_
    refine r_top (y := nI (2 * v)) (pk_mul 2 v) ?_
    refine r_goto C 23 dX6_doubled_10 (by decide) ?_
    exact r_ireturn C T_ rfl rfl dX6_doubled_23 (⟨_, rfl, rfl, by unfold xt; rw [if_pos (by omega)]⟩)
set_option maxHeartbeats 4000000 in
set_option maxRecDepth 100000 in
theorem cX6_product9 {w : Wo} {a b : Nat} (ha : a < 256) (hb : b < 256) : Ctr mX6_product [.int (nI a), .int (nI b)] w (PI fun r w' => w' = w ∧ r = nI (prd a b)) := by
  refine Ctr_intro okX6_product rfl (Nat.le_of_ble_eq_true rfl) (L := [some (.int (nI a)), some (.int (nI b)), none, none, none]) rfl (fun g ct C T_ => ?_)
  refine r_iconst C dX6_product_0 (v := 0) (by decide) ?_
  refine r_istore_n C dX6_product_1 (L' := [some (.int (nI a)), some (.int (nI b)), some (.int 0), none, none]) (by decide) rfl ?_
  refine r_iload_n C dX6_product_2 rfl ?_
  refine r_istore_n C dX6_product_3 (L' := [some (.int (nI a)), some (.int (nI b)), some (.int 0), some (.int (nI a)), none]) (by decide) rfl ?_
  refine r_iconst C dX6_product_4 (v := 0) (by decide) ?_
  refine r_istore C dX6_product_5 (L' := [some (.int (nI a)), some (.int (nI b)), some (.int 0), some (.int (nI a)), some (.int 0)]) (by decide) rfl ?_
  have loop_7 : ∀ (d9 : Nat) (k : Nat) (s9 : Nat) (v : Nat), 8 - k < d9 → k ≤ 8 → s9 = (prdS a b k).1 → v = (prdS a b k).2 → Az g mX6_product ct 0 0 7 [some (.int (nI a)), some (.int (nI b)), some (.int (nI s9)), some (.int (nI v)), some (.int (nI k))] [] w := by
    intro d9
    induction d9 with
    | zero => intro k s9 v hd9; exact absurd hd9 (Nat.not_lt_zero _)
    | succ d9 ih_7 =>
      intro k s9 v hd9 hk hs9 hv
      have hs6 : s9 < 256 := by rw [hs9]; exact (prdS_lt b ha k).1
      have hv6 : v < 256 := by rw [hv]; exact (prdS_lt b ha k).2
      refine r_iload C dX6_product_7 rfl ?_
      refine r_bipush C dX6_product_9 (v := 8) (by decide) ?_
      refine r_icmp_ge C 43 dX6_product_11 (by decide) (fun c_11 => ?_) (fun c_11 => ?_)
      · skip
        have c_11 : 8 ≤ k := (nI_leI (a := 8) (b := k) (by omega) (by omega)).mp c_11
        refine r_iload_n C dX6_product_43 rfl ?_
        exact r_ireturn C T_ rfl rfl dX6_product_44 (⟨_, rfl, rfl, by unfold prd; rw [show (8 : Nat) = k by omega, ← hs9]⟩)
      · skip
        have c_11 : ¬ (8 ≤ k) := fun h9 => c_11 ((nI_leI (a := 8) (b := k) (by omega) (by omega)).mpr h9)
        refine r_iload_n C dX6_product_14 rfl ?_
        refine r_iload C dX6_product_15 rfl ?_
        refine r_ishr C dX6_product_17 ?_
        refine r_top (y := nI (b / 2 ^ k)) (pk_shrN (by omega) _ k (smod_nI k (by omega))) ?_
        have hb6 : b / 2 ^ k < 256 := Nat.lt_of_le_of_lt (Nat.div_le_self _ _) hb
        refine r_iconst C dX6_product_18 (v := 1) (by decide) ?_
        refine r_iand C dX6_product_19 ?_
        refine r_top (y := nI ((b / 2 ^ k) % 2)) (pk_andN (n := b / 2 ^ k) (by omega) 1 rfl) ?_
        refine r_iconst C dX6_product_20 (v := 1) (by decide) ?_
        refine r_icmp_ne C 30 dX6_product_21 (by decide) (fun c_21 => ?_) (fun c_21 => ?_)
        · skip
          have c_21 : ¬ (((b / 2 ^ k) % 2) = 1) := fun h9 => c_21 ((nI_eq (a := (b / 2 ^ k) % 2) (b := 1) (by omega) (by omega)).mpr h9)
          refine r_iload_n C dX6_product_30 rfl ?_
          refine r_istore_n C dX6_product_31 (L' := [some (.int (nI a)), some (.int (nI b)), some (.int (nI s9)), some (.int (nI v)), some (.int (nI k))]) (by decide) rfl ?_
          refine r_iload_n C dX6_product_32 rfl ?_
          refine r_callSi C (As := [.int (nI v)]) (rest := []) dX6_product_33 (cX6_doubled9 (v := v) hv6) okX6_doubled mlRX6_245 stX6_doubled ⟨by decide, by decide⟩ rfl rfl (Nat.le_of_ble_eq_true rfl) (by decide) (by decide) (fun r_1 w9 h9 => ?_)
          obtain ⟨e9, rfl⟩ := h9
          have e9 := e9.symm
          subst e9
          refine r_istore_n C dX6_product_36 (L' := [some (.int (nI a)), some (.int (nI b)), some (.int (nI s9)), some (.int (nI (xt v))), some (.int (nI k))]) (by decide) rfl ?_
          refine r_iinc C dX6_product_37 (v := nI (k + 1)) (L' := [some (.int (nI a)), some (.int (nI b)), some (.int (nI s9)), some (.int (nI (xt v))), some (.int (nI (k + 1)))]) rfl (nI_add k 1) (by decide) rfl ?_
          refine r_goto C 7 dX6_product_40 (by decide) ?_
          exact ih_7 (k + 1) s9 (xt v) (by omega) (by omega) (by rw [prdS, if_neg c_21, ← hs9]) (by rw [prdS, ← hv])
        · skip
          have c_21 : ((b / 2 ^ k) % 2) = 1 := (nI_eq (a := (b / 2 ^ k) % 2) (b := 1) (by omega) (by omega)).mp c_21
          refine r_iload_n C dX6_product_24 rfl ?_
          refine r_iload_n C dX6_product_25 rfl ?_
          refine r_ixor C dX6_product_26 ?_
          refine r_top (y := nI (s9 ^^^ v)) (nx_xor9 s9 v) ?_
          refine r_goto C 31 dX6_product_27 (by decide) ?_
          refine r_istore_n C dX6_product_31 (L' := [some (.int (nI a)), some (.int (nI b)), some (.int (nI (s9 ^^^ v))), some (.int (nI v)), some (.int (nI k))]) (by decide) rfl ?_
          refine r_iload_n C dX6_product_32 rfl ?_
          refine r_callSi C (As := [.int (nI v)]) (rest := []) dX6_product_33 (cX6_doubled9 (v := v) hv6) okX6_doubled mlRX6_245 stX6_doubled ⟨by decide, by decide⟩ rfl rfl (Nat.le_of_ble_eq_true rfl) (by decide) (by decide) (fun r_2 w9 h9 => ?_)
          obtain ⟨e9, rfl⟩ := h9
          have e9 := e9.symm
          subst e9
          refine r_istore_n C dX6_product_36 (L' := [some (.int (nI a)), some (.int (nI b)), some (.int (nI (s9 ^^^ v))), some (.int (nI (xt v))), some (.int (nI k))]) (by decide) rfl ?_
          refine r_iinc C dX6_product_37 (v := nI (k + 1)) (L' := [some (.int (nI a)), some (.int (nI b)), some (.int (nI (s9 ^^^ v))), some (.int (nI (xt v))), some (.int (nI (k + 1)))]) rfl (nI_add k 1) (by decide) rfl ?_
          refine r_goto C 7 dX6_product_40 (by decide) ?_
          exact ih_7 (k + 1) (s9 ^^^ v) (xt v) (by omega) (by omega) (by rw [prdS, if_pos c_21, ← hs9, ← hv]) (by rw [prdS, ← hv])
  exact loop_7 _ 0 0 a (Nat.lt_succ_self _) (by omega) rfl rfl
theorem sw_lt9 (b : Nat) (hb : b < 256) : iv b < 256 := by
  by_cases h : 0 < b
  · exact (iv_spec h hb).1
  · rw [show b = 0 by omega]
    decide
theorem iv_uni {b v : Nat} (h0 : 0 < b) (hb : b < 256) (hv : 0 < v) (h1 : prd b v = 1) (h2 : ∀ j, 1 ≤ j → j < v → ¬ prd b j = 1) : v = iv b := by
  obtain ⟨a1, a2, a3, a4⟩ := iv_spec h0 hb
  rcases Nat.lt_trichotomy v (iv b) with h | h | h
  · exact absurd h1 (a4 v (by omega) h)
  · exact h
  · exact absurd a3 (h2 (iv b) (by omega) h)
theorem sw_yes {b v k : Nat} (hv : (v = 0 ∧ (b = 0 ∨ ∀ j, 1 ≤ j → j < k → ¬ prd b j = 1)) ∨ (0 < b ∧ 0 < v ∧ v < k ∧ prd b v = 1 ∧ ∀ j, 1 ≤ j → j < v → ¬ prd b j = 1)) (c16 : v = 0) (c12 : ¬ b ≤ 0) (c25 : prd b k = 1) (hk : 1 ≤ k) : (k = 0 ∧ (b = 0 ∨ ∀ j, 1 ≤ j → j < k + 1 → ¬ prd b j = 1)) ∨ (0 < b ∧ 0 < k ∧ k < k + 1 ∧ prd b k = 1 ∧ ∀ j, 1 ≤ j → j < k → ¬ prd b j = 1) := by
  rcases hv with ⟨h1, h2⟩ | ⟨h1, h2, -⟩
  · exact Or.inr ⟨by omega, hk, by omega, c25, h2.resolve_left (by omega)⟩
  · omega
theorem sw_no {b v k : Nat} (hv : (v = 0 ∧ (b = 0 ∨ ∀ j, 1 ≤ j → j < k → ¬ prd b j = 1)) ∨ (0 < b ∧ 0 < v ∧ v < k ∧ prd b v = 1 ∧ ∀ j, 1 ≤ j → j < v → ¬ prd b j = 1)) (c16 : v = 0) (c12 : ¬ b ≤ 0) (c25 : ¬ prd b k = 1) : (0 = 0 ∧ (b = 0 ∨ ∀ j, 1 ≤ j → j < k + 1 → ¬ prd b j = 1)) ∨ (0 < b ∧ 0 < 0 ∧ 0 < k + 1 ∧ prd b 0 = 1 ∧ ∀ j, 1 ≤ j → j < 0 → ¬ prd b j = 1) := by
  rcases hv with ⟨h1, h2⟩ | ⟨h1, h2, -⟩
  · refine Or.inl ⟨rfl, Or.inr (fun j j1 j2 => ?_)⟩
    by_cases e : j = k
    · rw [e]; exact c25
    · exact h2.resolve_left (by omega) j j1 (by omega)
  · omega
theorem sw_end {b v k : Nat} (hb : b < 256) (hv : (v = 0 ∧ (b = 0 ∨ ∀ j, 1 ≤ j → j < k → ¬ prd b j = 1)) ∨ (0 < b ∧ 0 < v ∧ v < k ∧ prd b v = 1 ∧ ∀ j, 1 ≤ j → j < v → ¬ prd b j = 1)) (hk : 256 ≤ k) : v = iv b := by
  rcases hv with ⟨h1, h2 | h2⟩ | ⟨h1, h2, -, h3, h4⟩
  · rw [h1, h2]; rfl
  · by_cases h0 : 0 < b
    · obtain ⟨a1, a2, a3, a4⟩ := iv_spec h0 hb
      exact absurd a3 (h2 (iv b) a2 (by omega))
    · rw [h1, show b = 0 by omega]; rfl
  · exact iv_uni h1 hb h2 h3 h4
theorem sw_zero {b v k : Nat} (hv : (v = 0 ∧ (b = 0 ∨ ∀ j, 1 ≤ j → j < k → ¬ prd b j = 1)) ∨ (0 < b ∧ 0 < v ∧ v < k ∧ prd b v = 1 ∧ ∀ j, 1 ≤ j → j < v → ¬ prd b j = 1)) (h : b ≤ 0) : v = iv b := by
  rcases hv with ⟨h1, -⟩ | ⟨h1, -⟩
  · rw [h1, show b = 0 by omega]; rfl
  · omega
theorem sw_hit {b v k : Nat} (hb : b < 256) (hv : (v = 0 ∧ (b = 0 ∨ ∀ j, 1 ≤ j → j < k → ¬ prd b j = 1)) ∨ (0 < b ∧ 0 < v ∧ v < k ∧ prd b v = 1 ∧ ∀ j, 1 ≤ j → j < v → ¬ prd b j = 1)) (h : ¬ v = 0) : v = iv b := by
  rcases hv with ⟨h1, -⟩ | ⟨h1, h2, -, h3, h4⟩
  · exact absurd h1 h
  · exact iv_uni h1 hb h2 h3 h4
set_option maxHeartbeats 4000000 in
set_option maxRecDepth 100000 in
theorem cX6_swapped9 {w : Wo} {b : Nat} (hb : b < 256) : Ctr mX6_swapped [.int (nI b)] w (PI fun r w' => w' = w ∧ r = nI (sw b)) := by
  refine Ctr_intro okX6_swapped rfl (Nat.le_of_ble_eq_true rfl) (L := [some (.int (nI b)), none, none, none]) rfl (fun g ct C T_ => ?_)
  refine r_iconst C dX6_swapped_0 (v := 0) (by decide) ?_
  refine r_istore_n C dX6_swapped_1 (L' := [some (.int (nI b)), some (.int 0), none, none]) (by decide) rfl ?_
  refine r_iconst C dX6_swapped_2 (v := 1) (by decide) ?_
  refine r_istore_n C dX6_swapped_3 (L' := [some (.int (nI b)), some (.int 0), some (.int 1), none]) (by decide) rfl ?_
  have loop_4 : ∀ (d9 : Nat) (k : Nat) (v : Nat), 256 - k < d9 → 1 ≤ k → k ≤ 256 → ((v = 0 ∧ (b = 0 ∨ ∀ j, 1 ≤ j → j < k → ¬ prd b j = 1)) ∨ (0 < b ∧ 0 < v ∧ v < k ∧ prd b v = 1 ∧ ∀ j, 1 ≤ j → j < v → ¬ prd b j = 1)) → Az g mX6_swapped ct 0 0 4 [some (.int (nI b)), some (.int (nI v)), some (.int (nI k)), none] [] w := by
    intro d9
    induction d9 with
    | zero => intro k v hd9; exact absurd hd9 (Nat.not_lt_zero _)
    | succ d9 ih_4 =>
      intro k v hd9 hk hk2 hv
      have hv6 : v < 256 := by rcases hv with ⟨h, -⟩ | ⟨-, -, h, -⟩ <;> omega
      refine r_iload_n C dX6_swapped_4 rfl ?_
      refine r_sipush C dX6_swapped_5 (v := 256) (by decide) ?_
      refine r_icmp_ge C 40 dX6_swapped_8 (by decide) (fun c_8 => ?_) (fun c_8 => ?_)
      · skip
        have c_8 : 256 ≤ k := (nI_leI (a := 256) (b := k) (by omega) (by omega)).mp c_8
        have hiv : v = iv b := sw_end hb hv (by omega)
        have hiv6 : iv b < 256 := sw_lt9 b hb
        subst hiv
        refine r_iload_n C dX6_swapped_40 rfl ?_
        refine r_istore_n C dX6_swapped_41 (L' := [some (.int (nI b)), some (.int (nI (iv b))), some (.int (nI (iv b))), none]) (by decide) rfl ?_
        refine r_iconst C dX6_swapped_42 (v := 1) (by decide) ?_
        refine r_istore_n C dX6_swapped_43 (L' := [some (.int (nI b)), some (.int (nI (iv b))), some (.int (nI (iv b))), some (.int 1)]) (by decide) rfl ?_
        have loop_44 : ∀ (d9 : Nat) (m : Nat) (x : Nat), 5 - m < d9 → 1 ≤ m → m ≤ 5 → x = affS (iv b) (m - 1) → Az g mX6_swapped ct 0 0 44 [some (.int (nI b)), some (.int (nI (iv b))), some (.int (nI x)), some (.int (nI m))] [] w := by
          intro d9
          induction d9 with
          | zero => intro m x hd9; exact absurd hd9 (Nat.not_lt_zero _)
          | succ d9 ih_44 =>
            intro m x hd9 hm hm2 hx
            refine r_iload_n C dX6_swapped_44 rfl ?_
            refine r_iconst C dX6_swapped_45 (v := 5) (by decide) ?_
            refine r_icmp_ge C 72 dX6_swapped_46 (by decide) (fun c_46 => ?_) (fun c_46 => ?_)
            · skip
              have c_46 : 5 ≤ m := (nI_leI (a := 5) (b := m) (by omega) (by omega)).mp c_46
              refine r_iload_n C dX6_swapped_72 rfl ?_
              refine r_bipush C dX6_swapped_73 (v := 99) (by decide) ?_
              refine r_ixor C dX6_swapped_75 ?_
              refine r_top (y := nI (x ^^^ 99)) (nx_xor9 x 99) ?_
              exact r_ireturn C T_ rfl rfl dX6_swapped_76 (⟨_, rfl, rfl, by rw [hx, show m - 1 = 4 by omega, aff_sw b hb]⟩)
            · skip
              have c_46 : ¬ (5 ≤ m) := fun h9 => c_46 ((nI_leI (a := 5) (b := m) (by omega) (by omega)).mpr h9)
              refine r_iload_n C dX6_swapped_49 rfl ?_
              refine r_iload_n C dX6_swapped_50 rfl ?_
              refine r_iload_n C dX6_swapped_51 rfl ?_
              refine r_ishl C dX6_swapped_52 ?_
              refine r_top (y := nI (iv b * 2 ^ m)) (pk_shlN _ m (smod_nI m (by omega)) (mul_lt32 hiv6 (by omega))) ?_
              refine r_iload_n C dX6_swapped_53 rfl ?_
              refine r_bipush C dX6_swapped_54 (v := 8) (by decide) ?_
              refine r_iload_n C dX6_swapped_56 rfl ?_
              refine r_isub C dX6_swapped_57 ?_
              refine r_top (y := nI (8 - m)) (pk_sub (a := 8) (b := m) (by omega)) ?_
              refine r_ishr C dX6_swapped_58 ?_
              refine r_top (y := nI (iv b / 2 ^ (8 - m))) (pk_shrN (by omega) _ (8 - m) (smod_nI (8 - m) (by omega))) ?_
              refine r_ior C dX6_swapped_59 ?_
              refine r_top (y := nI ((iv b * 2 ^ m) ||| (iv b / 2 ^ (8 - m)))) (nx_or9 (iv b * 2 ^ m) (iv b / 2 ^ (8 - m))) ?_
              refine r_sipush C dX6_swapped_60 (v := 255) (by decide) ?_
              refine r_iand C dX6_swapped_63 ?_
              refine r_top (y := nI (((iv b * 2 ^ m) ||| (iv b / 2 ^ (8 - m))) % 256)) (pk_andN (or_lt32 hiv6 (by omega)) 8 rfl) ?_
              refine r_ixor C dX6_swapped_64 ?_
              refine r_top (y := nI (x ^^^ (((iv b * 2 ^ m) ||| (iv b / 2 ^ (8 - m))) % 256))) (nx_xor9 x (((iv b * 2 ^ m) ||| (iv b / 2 ^ (8 - m))) % 256)) ?_
              refine r_istore_n C dX6_swapped_65 (L' := [some (.int (nI b)), some (.int (nI (iv b))), some (.int (nI (x ^^^ (((iv b * 2 ^ m) ||| (iv b / 2 ^ (8 - m))) % 256)))), some (.int (nI m))]) (by decide) rfl ?_
              refine r_iinc C dX6_swapped_66 (v := nI (m + 1)) (L' := [some (.int (nI b)), some (.int (nI (iv b))), some (.int (nI (x ^^^ (((iv b * 2 ^ m) ||| (iv b / 2 ^ (8 - m))) % 256)))), some (.int (nI (m + 1)))]) rfl (nI_add m 1) (by decide) rfl ?_
              refine r_goto C 44 dX6_swapped_69 (by decide) ?_
              exact ih_44 (m + 1) _ (by omega) (by omega) (by omega) (by rw [hx, show m + 1 - 1 = (m - 1) + 1 by omega, affS, show m - 1 + 1 = m by omega])
        exact loop_44 _ 1 (iv b) (Nat.lt_succ_self _) (by omega) (by omega) rfl
      · skip
        have c_8 : ¬ (256 ≤ k) := fun h9 => c_8 ((nI_leI (a := 256) (b := k) (by omega) (by omega)).mpr h9)
        refine r_iload_n C dX6_swapped_11 rfl ?_
        refine r_if_le C 40 dX6_swapped_12 (by decide) (fun c_12 => ?_) (fun c_12 => ?_)
        · skip
          have c_12 : b ≤ 0 := (nI_leI (a := b) (b := 0) (by omega) (by omega)).mp c_12
          have hiv : v = iv b := sw_zero hv c_12
          have hiv6 : iv b < 256 := sw_lt9 b hb
          subst hiv
          refine r_iload_n C dX6_swapped_40 rfl ?_
          refine r_istore_n C dX6_swapped_41 (L' := [some (.int (nI b)), some (.int (nI (iv b))), some (.int (nI (iv b))), none]) (by decide) rfl ?_
          refine r_iconst C dX6_swapped_42 (v := 1) (by decide) ?_
          refine r_istore_n C dX6_swapped_43 (L' := [some (.int (nI b)), some (.int (nI (iv b))), some (.int (nI (iv b))), some (.int 1)]) (by decide) rfl ?_
          have loop_44 : ∀ (d9 : Nat) (m : Nat) (x : Nat), 5 - m < d9 → 1 ≤ m → m ≤ 5 → x = affS (iv b) (m - 1) → Az g mX6_swapped ct 0 0 44 [some (.int (nI b)), some (.int (nI (iv b))), some (.int (nI x)), some (.int (nI m))] [] w := by
            intro d9
            induction d9 with
            | zero => intro m x hd9; exact absurd hd9 (Nat.not_lt_zero _)
            | succ d9 ih_44 =>
              intro m x hd9 hm hm2 hx
              refine r_iload_n C dX6_swapped_44 rfl ?_
              refine r_iconst C dX6_swapped_45 (v := 5) (by decide) ?_
              refine r_icmp_ge C 72 dX6_swapped_46 (by decide) (fun c_46 => ?_) (fun c_46 => ?_)
              · skip
                have c_46 : 5 ≤ m := (nI_leI (a := 5) (b := m) (by omega) (by omega)).mp c_46
                refine r_iload_n C dX6_swapped_72 rfl ?_
                refine r_bipush C dX6_swapped_73 (v := 99) (by decide) ?_
                refine r_ixor C dX6_swapped_75 ?_
                refine r_top (y := nI (x ^^^ 99)) (nx_xor9 x 99) ?_
                exact r_ireturn C T_ rfl rfl dX6_swapped_76 (⟨_, rfl, rfl, by rw [hx, show m - 1 = 4 by omega, aff_sw b hb]⟩)
              · skip
                have c_46 : ¬ (5 ≤ m) := fun h9 => c_46 ((nI_leI (a := 5) (b := m) (by omega) (by omega)).mpr h9)
                refine r_iload_n C dX6_swapped_49 rfl ?_
                refine r_iload_n C dX6_swapped_50 rfl ?_
                refine r_iload_n C dX6_swapped_51 rfl ?_
                refine r_ishl C dX6_swapped_52 ?_
                refine r_top (y := nI (iv b * 2 ^ m)) (pk_shlN _ m (smod_nI m (by omega)) (mul_lt32 hiv6 (by omega))) ?_
                refine r_iload_n C dX6_swapped_53 rfl ?_
                refine r_bipush C dX6_swapped_54 (v := 8) (by decide) ?_
                refine r_iload_n C dX6_swapped_56 rfl ?_
                refine r_isub C dX6_swapped_57 ?_
                refine r_top (y := nI (8 - m)) (pk_sub (a := 8) (b := m) (by omega)) ?_
                refine r_ishr C dX6_swapped_58 ?_
                refine r_top (y := nI (iv b / 2 ^ (8 - m))) (pk_shrN (by omega) _ (8 - m) (smod_nI (8 - m) (by omega))) ?_
                refine r_ior C dX6_swapped_59 ?_
                refine r_top (y := nI ((iv b * 2 ^ m) ||| (iv b / 2 ^ (8 - m)))) (nx_or9 (iv b * 2 ^ m) (iv b / 2 ^ (8 - m))) ?_
                refine r_sipush C dX6_swapped_60 (v := 255) (by decide) ?_
                refine r_iand C dX6_swapped_63 ?_
                refine r_top (y := nI (((iv b * 2 ^ m) ||| (iv b / 2 ^ (8 - m))) % 256)) (pk_andN (or_lt32 hiv6 (by omega)) 8 rfl) ?_
                refine r_ixor C dX6_swapped_64 ?_
                refine r_top (y := nI (x ^^^ (((iv b * 2 ^ m) ||| (iv b / 2 ^ (8 - m))) % 256))) (nx_xor9 x (((iv b * 2 ^ m) ||| (iv b / 2 ^ (8 - m))) % 256)) ?_
                refine r_istore_n C dX6_swapped_65 (L' := [some (.int (nI b)), some (.int (nI (iv b))), some (.int (nI (x ^^^ (((iv b * 2 ^ m) ||| (iv b / 2 ^ (8 - m))) % 256)))), some (.int (nI m))]) (by decide) rfl ?_
                refine r_iinc C dX6_swapped_66 (v := nI (m + 1)) (L' := [some (.int (nI b)), some (.int (nI (iv b))), some (.int (nI (x ^^^ (((iv b * 2 ^ m) ||| (iv b / 2 ^ (8 - m))) % 256)))), some (.int (nI (m + 1)))]) rfl (nI_add m 1) (by decide) rfl ?_
                refine r_goto C 44 dX6_swapped_69 (by decide) ?_
                exact ih_44 (m + 1) _ (by omega) (by omega) (by omega) (by rw [hx, show m + 1 - 1 = (m - 1) + 1 by omega, affS, show m - 1 + 1 = m by omega])
          exact loop_44 _ 1 (iv b) (Nat.lt_succ_self _) (by omega) (by omega) rfl
        · skip
          have c_12 : ¬ (b ≤ 0) := fun h9 => c_12 ((nI_leI (a := b) (b := 0) (by omega) (by omega)).mpr h9)
          refine r_iload_n C dX6_swapped_15 rfl ?_
          refine r_if_ne C 40 dX6_swapped_16 (by decide) (fun c_16 => ?_) (fun c_16 => ?_)
          · skip
            have c_16 : ¬ (v = 0) := fun h9 => c_16 ((nI_eq (a := v) (b := 0) (by omega) (by omega)).mpr h9)
            have hiv : v = iv b := sw_hit hb hv c_16
            have hiv6 : iv b < 256 := sw_lt9 b hb
            subst hiv
            refine r_iload_n C dX6_swapped_40 rfl ?_
            refine r_istore_n C dX6_swapped_41 (L' := [some (.int (nI b)), some (.int (nI (iv b))), some (.int (nI (iv b))), none]) (by decide) rfl ?_
            refine r_iconst C dX6_swapped_42 (v := 1) (by decide) ?_
            refine r_istore_n C dX6_swapped_43 (L' := [some (.int (nI b)), some (.int (nI (iv b))), some (.int (nI (iv b))), some (.int 1)]) (by decide) rfl ?_
            have loop_44 : ∀ (d9 : Nat) (m : Nat) (x : Nat), 5 - m < d9 → 1 ≤ m → m ≤ 5 → x = affS (iv b) (m - 1) → Az g mX6_swapped ct 0 0 44 [some (.int (nI b)), some (.int (nI (iv b))), some (.int (nI x)), some (.int (nI m))] [] w := by
              intro d9
              induction d9 with
              | zero => intro m x hd9; exact absurd hd9 (Nat.not_lt_zero _)
              | succ d9 ih_44 =>
                intro m x hd9 hm hm2 hx
                refine r_iload_n C dX6_swapped_44 rfl ?_
                refine r_iconst C dX6_swapped_45 (v := 5) (by decide) ?_
                refine r_icmp_ge C 72 dX6_swapped_46 (by decide) (fun c_46 => ?_) (fun c_46 => ?_)
                · skip
                  have c_46 : 5 ≤ m := (nI_leI (a := 5) (b := m) (by omega) (by omega)).mp c_46
                  refine r_iload_n C dX6_swapped_72 rfl ?_
                  refine r_bipush C dX6_swapped_73 (v := 99) (by decide) ?_
                  refine r_ixor C dX6_swapped_75 ?_
                  refine r_top (y := nI (x ^^^ 99)) (nx_xor9 x 99) ?_
                  exact r_ireturn C T_ rfl rfl dX6_swapped_76 (⟨_, rfl, rfl, by rw [hx, show m - 1 = 4 by omega, aff_sw b hb]⟩)
                · skip
                  have c_46 : ¬ (5 ≤ m) := fun h9 => c_46 ((nI_leI (a := 5) (b := m) (by omega) (by omega)).mpr h9)
                  refine r_iload_n C dX6_swapped_49 rfl ?_
                  refine r_iload_n C dX6_swapped_50 rfl ?_
                  refine r_iload_n C dX6_swapped_51 rfl ?_
                  refine r_ishl C dX6_swapped_52 ?_
                  refine r_top (y := nI (iv b * 2 ^ m)) (pk_shlN _ m (smod_nI m (by omega)) (mul_lt32 hiv6 (by omega))) ?_
                  refine r_iload_n C dX6_swapped_53 rfl ?_
                  refine r_bipush C dX6_swapped_54 (v := 8) (by decide) ?_
                  refine r_iload_n C dX6_swapped_56 rfl ?_
                  refine r_isub C dX6_swapped_57 ?_
                  refine r_top (y := nI (8 - m)) (pk_sub (a := 8) (b := m) (by omega)) ?_
                  refine r_ishr C dX6_swapped_58 ?_
                  refine r_top (y := nI (iv b / 2 ^ (8 - m))) (pk_shrN (by omega) _ (8 - m) (smod_nI (8 - m) (by omega))) ?_
                  refine r_ior C dX6_swapped_59 ?_
                  refine r_top (y := nI ((iv b * 2 ^ m) ||| (iv b / 2 ^ (8 - m)))) (nx_or9 (iv b * 2 ^ m) (iv b / 2 ^ (8 - m))) ?_
                  refine r_sipush C dX6_swapped_60 (v := 255) (by decide) ?_
                  refine r_iand C dX6_swapped_63 ?_
                  refine r_top (y := nI (((iv b * 2 ^ m) ||| (iv b / 2 ^ (8 - m))) % 256)) (pk_andN (or_lt32 hiv6 (by omega)) 8 rfl) ?_
                  refine r_ixor C dX6_swapped_64 ?_
                  refine r_top (y := nI (x ^^^ (((iv b * 2 ^ m) ||| (iv b / 2 ^ (8 - m))) % 256))) (nx_xor9 x (((iv b * 2 ^ m) ||| (iv b / 2 ^ (8 - m))) % 256)) ?_
                  refine r_istore_n C dX6_swapped_65 (L' := [some (.int (nI b)), some (.int (nI (iv b))), some (.int (nI (x ^^^ (((iv b * 2 ^ m) ||| (iv b / 2 ^ (8 - m))) % 256)))), some (.int (nI m))]) (by decide) rfl ?_
                  refine r_iinc C dX6_swapped_66 (v := nI (m + 1)) (L' := [some (.int (nI b)), some (.int (nI (iv b))), some (.int (nI (x ^^^ (((iv b * 2 ^ m) ||| (iv b / 2 ^ (8 - m))) % 256)))), some (.int (nI (m + 1)))]) rfl (nI_add m 1) (by decide) rfl ?_
                  refine r_goto C 44 dX6_swapped_69 (by decide) ?_
                  exact ih_44 (m + 1) _ (by omega) (by omega) (by omega) (by rw [hx, show m + 1 - 1 = (m - 1) + 1 by omega, affS, show m - 1 + 1 = m by omega])
            exact loop_44 _ 1 (iv b) (Nat.lt_succ_self _) (by omega) (by omega) rfl
          · skip
            have c_16 : v = 0 := (nI_eq (a := v) (b := 0) (by omega) (by omega)).mp c_16
            refine r_iload_n C dX6_swapped_19 rfl ?_
            refine r_iload_n C dX6_swapped_20 rfl ?_
            refine r_callSi C (As := [.int (nI b), .int (nI k)]) (rest := []) dX6_swapped_21 (cX6_product9 (a := b) (b := k) hb (by omega)) okX6_product mlRX6_248 stX6_product ⟨by decide, by decide⟩ rfl rfl (Nat.le_of_ble_eq_true rfl) (by decide) (by decide) (fun r_1 w9 h9 => ?_)
            obtain ⟨e9, rfl⟩ := h9
            have e9 := e9.symm
            subst e9
            have pl_ := prd_lt k hb
            refine r_iconst C dX6_swapped_24 (v := 1) (by decide) ?_
            refine r_icmp_ne C 32 dX6_swapped_25 (by decide) (fun c_25 => ?_) (fun c_25 => ?_)
            · skip
              have c_25 : ¬ ((prd b k) = 1) := fun h9 => c_25 ((nI_eq (a := prd b k) (b := 1) (by omega) (by omega)).mpr h9)
              refine r_iconst C dX6_swapped_32 (v := 0) (by decide) ?_
              refine r_istore_n C dX6_swapped_33 (L' := [some (.int (nI b)), some (.int 0), some (.int (nI k)), none]) (by decide) rfl ?_
              refine r_iinc C dX6_swapped_34 (v := nI (k + 1)) (L' := [some (.int (nI b)), some (.int 0), some (.int (nI (k + 1))), none]) rfl (nI_add k 1) (by decide) rfl ?_
              refine r_goto C 4 dX6_swapped_37 (by decide) ?_
              exact ih_4 (k + 1) 0 (by omega) (by omega) (by omega) (sw_no hv c_16 c_12 c_25)
            · skip
              have c_25 : (prd b k) = 1 := (nI_eq (a := prd b k) (b := 1) (by omega) (by omega)).mp c_25
              refine r_iload_n C dX6_swapped_28 rfl ?_
              refine r_goto C 33 dX6_swapped_29 (by decide) ?_
              refine r_istore_n C dX6_swapped_33 (L' := [some (.int (nI b)), some (.int (nI k)), some (.int (nI k)), none]) (by decide) rfl ?_
              refine r_iinc C dX6_swapped_34 (v := nI (k + 1)) (L' := [some (.int (nI b)), some (.int (nI k)), some (.int (nI (k + 1))), none]) rfl (nI_add k 1) (by decide) rfl ?_
              refine r_goto C 4 dX6_swapped_37 (by decide) ?_
              exact ih_4 (k + 1) k (by omega) (by omega) (by omega) (sw_yes hv c_16 c_12 c_25 hk)
  exact loop_4 _ 1 0 (Nat.lt_succ_self _) (by omega) (by omega) (Or.inl ⟨rfl, Or.inr (fun j h1 h2 => absurd h2 (by omega))⟩)
set_option maxHeartbeats 4000000 in
set_option maxRecDepth 100000 in
theorem cX6_unswapped9 {w : Wo} {fa sz rz rv ln pm lo ns os uz ik ms hsz : Int32} (w_35 : w 35 = mo fa sz rz rv ln pm lo ns os uz ik ms hsz) {BK : Nat → Nat} (w_58 : w 58 = ia 256 (nf BK)) {b : Nat} (hb : b < 256) : Ctr mX6_unswapped [.ref 35, .int (nI b)] w (PI fun r w' => w' = w ∧ r = nI (BK b)) := by
  refine Ctr_intro okX6_unswapped rfl (Nat.le_of_ble_eq_true rfl) (L := [some (.ref 35), some (.int (nI b))]) rfl (fun g ct C T_ => ?_)
  refine r_aload_n C dX6_unswapped_0 rfl ?_
  refine r_get C dX6_unswapped_1 fgRX6_150 (Nat.le_of_ble_eq_true rfl) w_35 rfl ?_
  refine r_iload_n C dX6_unswapped_4 rfl ?_
  refine r_ialdN C dX6_unswapped_5 (Nat.le_of_ble_eq_true rfl) w_58 (j := b) rfl (by omega) (by decide) ?_
  refine r_top (y := nI (BK b)) (nf_at BK b) ?_
  exact r_ireturn C T_ rfl rfl dX6_unswapped_6 (⟨_, rfl, rfl, rfl⟩)
theorem bk_step {B1 : Nat → Nat} {k : Nat} (h : ∀ m, m < k → B1 (sw m) = m) (hk : k < 256) : ∀ m, m < k + 1 → upn B1 (sw k) k (sw m) = m := by
  intro m hm
  unfold upn
  by_cases e : sw m = sw k
  · rw [if_pos e]
    have := congrArg bk e
    rw [bk_sw m (by omega), bk_sw k hk] at this
    exact this.symm
  · rw [if_neg e]
    exact h m (by
      rcases Nat.lt_or_ge m k with h9 | h9
      · exact h9
      · exact absurd (by rw [show m = k by omega]) e)
theorem bk_all {B1 : Nat → Nat} (h : ∀ m, m < 256 → B1 (sw m) = m) : ∀ x, x < 256 → B1 x = bk x := fun x hx => by
  have := h (bk x) (bk_lt x)
  rw [sw_bk x hx] at this
  exact this
set_option maxHeartbeats 4000000 in
set_option maxRecDepth 100000 in
theorem cX6_makeSwaps9 {w : Wo} {fa sz rz rv ln pm lo ns os uz ik ms hsz : Int32} (w_35 : w 35 = mo fa sz rz rv ln pm lo ns os uz ik ms hsz) {SW BK : Nat → Nat} (w_57 : w 57 = ia 256 (nf SW)) (w_58 : w 58 = ia 256 (nf BK)) : Ctr mX6_makeSwaps [.ref 35] w (PV fun w' => ∃ SW' BK', w' = wset (wset w 57 (ia 256 (nf SW'))) 58 (ia 256 (nf BK')) ∧ (∀ x, x < 256 → SW' x = sw x) ∧ ∀ x, x < 256 → BK' x = bk x) := by
  refine Ctr_intro okX6_makeSwaps rfl (Nat.le_of_ble_eq_true rfl) (L := [some (.ref 35), none]) rfl (fun g ct C T_ => ?_)
  refine r_iconst C dX6_makeSwaps_0 (v := 0) (by decide) ?_
  refine r_istore_n C dX6_makeSwaps_1 (L' := [some (.ref 35), some (.int 0)]) (by decide) rfl ?_
  have loop_2 : ∀ (d9 : Nat) (k : Nat) (S1 : Nat → Nat) (B1 : Nat → Nat), 256 - k < d9 → k ≤ 256 → (∀ m, m < k → S1 m = sw m) → (∀ m, m < k → B1 (sw m) = m) → Az g mX6_makeSwaps ct 0 0 2 [some (.ref 35), some (.int (nI k))] [] (wset (wset w 57 (ia 256 (nf S1))) 58 (ia 256 (nf B1))) := by
    intro d9
    induction d9 with
    | zero => intro k S1 B1 hd9; exact absurd hd9 (Nat.not_lt_zero _)
    | succ d9 ih_2 =>
      intro k S1 B1 hd9 hk h1 h2
      refine r_iload_n C dX6_makeSwaps_2 rfl ?_
      refine r_sipush C dX6_makeSwaps_3 (v := 256) (by decide) ?_
      refine r_icmp_ge C 37 dX6_makeSwaps_6 (by decide) (fun c_6 => ?_) (fun c_6 => ?_)
      · skip
        have c_6 : 256 ≤ k := (nI_leI (a := 256) (b := k) (by omega) (by omega)).mp c_6
        exact r_return C T_ rfl dX6_makeSwaps_37 (⟨rfl, _, _, rfl, fun x hx => h1 x (by omega), bk_all (fun m hm => h2 m (by omega))⟩)
      · skip
        have c_6 : ¬ (256 ≤ k) := fun h9 => c_6 ((nI_leI (a := 256) (b := k) (by omega) (by omega)).mpr h9)
        refine r_aload_n C dX6_makeSwaps_9 rfl ?_
        refine r_get C dX6_makeSwaps_10 fgRX6_147 (Nat.le_of_ble_eq_true rfl) (ws_ne (Nat.ne_of_beq_eq_false rfl) (ws_ne (Nat.ne_of_beq_eq_false rfl) w_35)) rfl ?_
        refine r_iload_n C dX6_makeSwaps_13 rfl ?_
        refine r_iload_n C dX6_makeSwaps_14 rfl ?_
        refine r_callSi C (As := [.int (nI k)]) (rest := [.int (nI k), .ref 57]) dX6_makeSwaps_15 (cX6_swapped9 (b := k) (by omega)) okX6_swapped mlRX6_251 stX6_swapped ⟨by decide, by decide⟩ rfl rfl (Nat.le_of_ble_eq_true rfl) (by decide) (by decide) (fun r_1 w9 h9 => ?_)
        obtain ⟨e9, rfl⟩ := h9
        have e9 := e9.symm
        subst e9
        refine r_iastF C dX6_makeSwaps_18 (Nat.le_of_ble_eq_true rfl) (ws_ne (Nat.ne_of_beq_eq_false rfl) ws_eq) (j := k) (x := sw k) rfl rfl (by omega) (by decide) ?_
        refine r_eq rfl rfl ((ws_comm (Nat.ne_of_beq_eq_false rfl)).trans (congrArg (fun z => wset z 58 (ia 256 (nf B1))) ws_same)) ?_
        refine r_aload_n C dX6_makeSwaps_19 rfl ?_
        refine r_get C dX6_makeSwaps_20 fgRX6_150 (Nat.le_of_ble_eq_true rfl) (ws_ne (Nat.ne_of_beq_eq_false rfl) (ws_ne (Nat.ne_of_beq_eq_false rfl) w_35)) rfl ?_
        refine r_aload_n C dX6_makeSwaps_23 rfl ?_
        refine r_get C dX6_makeSwaps_24 fgRX6_147 (Nat.le_of_ble_eq_true rfl) (ws_ne (Nat.ne_of_beq_eq_false rfl) (ws_ne (Nat.ne_of_beq_eq_false rfl) w_35)) rfl ?_
        refine r_iload_n C dX6_makeSwaps_27 rfl ?_
        refine r_ialdN C dX6_makeSwaps_28 (Nat.le_of_ble_eq_true rfl) (ws_ne (Nat.ne_of_beq_eq_false rfl) ws_eq) (j := k) rfl (by omega) (by decide) ?_
        refine r_top (y := nI (sw k)) (congrArg nI upn_eq) ?_
        refine r_iload_n C dX6_makeSwaps_29 rfl ?_
        refine r_iastF C dX6_makeSwaps_30 (Nat.le_of_ble_eq_true rfl) ws_eq (j := sw k) (x := k) rfl rfl (sw_lt k) (by decide) ?_
        refine r_eq rfl rfl ws_same ?_
        refine r_iinc C dX6_makeSwaps_31 (v := nI (k + 1)) (L' := [some (.ref 35), some (.int (nI (k + 1)))]) rfl (nI_add k 1) (by decide) rfl ?_
        refine r_goto C 2 dX6_makeSwaps_34 (by decide) ?_
        exact ih_2 (k + 1) _ _ (by omega) (by omega) (upn_lt h1 rfl) (bk_step h2 (by omega))
  refine r_eq rfl rfl (ws_self w_57).symm ?_
  refine r_eq rfl rfl (ws_self (ws_ne (Nat.ne_of_beq_eq_false rfl) w_58)).symm ?_
  exact loop_2 _ 0 _ _ (Nat.lt_succ_self _) (by omega) (fun m hm => absurd hm (Nat.not_lt_zero m)) (fun m hm => absurd hm (Nat.not_lt_zero m))
set_option maxHeartbeats 4000000 in
set_option maxRecDepth 100000 in
theorem cX6_addKey9 {w : Wo} {fa sz rz rv ln pm lo ns os uz ik ms hsz : Int32} (w_35 : w 35 = mo fa sz rz rv ln pm lo ns os uz ik ms hsz) {B K KK : Nat → Nat} (w_55 : w 55 = ia 16 (nf B)) (w_54 : w 54 = ia 176 (nf K)) (hK : ∀ k, k < 176 → K k = KK k) {r : Nat} (hr : r ≤ 10) : Ctr mX6_addKey [.ref 35, .int (nI r)] w (PV fun w' => w' = wset w 55 (ia 16 (nf (addC KK r B)))) := by
  refine Ctr_intro okX6_addKey rfl (Nat.le_of_ble_eq_true rfl) (L := [some (.ref 35), some (.int (nI r)), none]) rfl (fun g ct C T_ => ?_)
  refine r_iconst C dX6_addKey_0 (v := 0) (by decide) ?_
  refine r_istore_n C dX6_addKey_1 (L' := [some (.ref 35), some (.int (nI r)), some (.int 0)]) (by decide) rfl ?_
  have loop_2 : ∀ (d9 : Nat) (i : Nat) (B1 : Nat → Nat), 16 - i < d9 → i ≤ 16 → (∀ k, k < i → B1 k = addC KK r B k) → (∀ k, i ≤ k → B1 k = B k) → Az g mX6_addKey ct 0 0 2 [some (.ref 35), some (.int (nI r)), some (.int (nI i))] [] (wset w 55 (ia 16 (nf B1))) := by
    intro d9
    induction d9 with
    | zero => intro i B1 hd9; exact absurd hd9 (Nat.not_lt_zero _)
    | succ d9 ih_2 =>
      intro i B1 hd9 hi h1 h2
      refine r_iload_n C dX6_addKey_2 rfl ?_
      refine r_bipush C dX6_addKey_3 (v := 16) (by decide) ?_
      refine r_icmp_ge C 38 dX6_addKey_5 (by decide) (fun c_5 => ?_) (fun c_5 => ?_)
      · skip
        have c_5 : 16 ≤ i := (nI_leI (a := 16) (b := i) (by omega) (by omega)).mp c_5
        exact r_return C T_ rfl dX6_addKey_38 (⟨rfl, by rw [fun_lh (n := i) h1 h2 (fun k hk => addC_hi _ _ _ k (by omega))]⟩)
      · skip
        have c_5 : ¬ (16 ≤ i) := fun h9 => c_5 ((nI_leI (a := 16) (b := i) (by omega) (by omega)).mpr h9)
        refine r_aload_n C dX6_addKey_8 rfl ?_
        refine r_get C dX6_addKey_9 fgRX6_141 (Nat.le_of_ble_eq_true rfl) (ws_ne (Nat.ne_of_beq_eq_false rfl) w_35) rfl ?_
        refine r_iload_n C dX6_addKey_12 rfl ?_
        refine r_aload_n C dX6_addKey_13 rfl ?_
        refine r_get C dX6_addKey_14 fgRX6_141 (Nat.le_of_ble_eq_true rfl) (ws_ne (Nat.ne_of_beq_eq_false rfl) w_35) rfl ?_
        refine r_iload_n C dX6_addKey_17 rfl ?_
        refine r_ialdN C dX6_addKey_18 (Nat.le_of_ble_eq_true rfl) ws_eq (j := i) rfl (by omega) (by decide) ?_
        refine r_top (y := nI (B1 i)) (nf_at B1 i) ?_
        refine r_aload_n C dX6_addKey_19 rfl ?_
        refine r_get C dX6_addKey_20 fgRX6_138 (Nat.le_of_ble_eq_true rfl) (ws_ne (Nat.ne_of_beq_eq_false rfl) w_35) rfl ?_
        refine r_bipush C dX6_addKey_23 (v := 16) (by decide) ?_
        refine r_iload_n C dX6_addKey_25 rfl ?_
        refine r_imul C dX6_addKey_26 ?_
        refine r_top (y := nI (16 * r)) (pk_mul 16 r) ?_
        refine r_iload_n C dX6_addKey_27 rfl ?_
        refine r_iadd C dX6_addKey_28 ?_
        refine r_top (y := nI ((16 * r) + i)) (nI_add (16 * r) i) ?_
        refine r_ialdN C dX6_addKey_29 (Nat.le_of_ble_eq_true rfl) (ws_ne (Nat.ne_of_beq_eq_false rfl) w_54) (j := (16 * r) + i) rfl (by omega) (by decide) ?_
        refine r_top (y := nI (K ((16 * r) + i))) (nf_at K ((16 * r) + i)) ?_
        refine r_ixor C dX6_addKey_30 ?_
        refine r_top (y := nI ((B1 i) ^^^ (K ((16 * r) + i)))) (nx_xor9 (B1 i) (K ((16 * r) + i))) ?_
        refine r_iastF C dX6_addKey_31 (Nat.le_of_ble_eq_true rfl) ws_eq (j := i) (x := (B1 i) ^^^ (K ((16 * r) + i))) rfl rfl (by omega) (by decide) ?_
        refine r_eq rfl rfl ws_same ?_
        refine r_iinc C dX6_addKey_32 (v := nI (i + 1)) (L' := [some (.ref 35), some (.int (nI r)), some (.int (nI (i + 1)))]) rfl (nI_add i 1) (by decide) rfl ?_
        refine r_goto C 2 dX6_addKey_35 (by decide) ?_
        exact ih_2 (i + 1) _ (by omega) (by omega) (upn_lt h1 (by unfold addC; rw [if_pos (by omega), h2 i (Nat.le_refl _), hK _ (by omega)])) (upn_ge h2)
  refine r_eq rfl rfl (ws_self w_55).symm ?_
  exact loop_2 _ 0 B (Nat.lt_succ_self _) (by omega) (fun k hk => absurd hk (Nat.not_lt_zero k)) (fun k hk => rfl)
