/-- the law's own road: the script of L9 ints xv at the cell number 910; no traces; what throwing stands on; its end -/
def Lx (b L9 : Nat) (xv : Nat → Int32) (g : Ge) : Ct → Prop
  | (_, l, _, s, _, _, _, _, _, A, _) => g.1 910 = b ∧ va_X b L9 xv s s.heap ∧ b < s.heap.size ∧ ¬ A b ∧ l.stackTraces = false ∧ Xx A s
theorem Lx.h0 {b L9 : Nat} {xv : Nat → Int32} {g : Ge} {ct : Ct} (B : Lx b L9 xv g ct) : ∀ p l e s m args below meth c A Q, ct = (p, l, e, s, m, args, below, meth, c, A, Q) → l.stackTraces = false ∧ Xx A s := fun p l e s m args below meth c A Q h => by
  subst h
  exact ⟨B.2.2.2.2.1, B.2.2.2.2.2⟩
theorem r_sld {g : Ge} {q : Mi} {ct : Ct} {k n pc : Nat} {L : Lo} {st : List Value} {w : Wo} {b L9 : Nat} {xv : Nat → Int32} (C : Cx g q ct) (B : Lx b L9 xv g ct) {j : Nat} (hd : decode q.2.1 pc = .ok (.iaload, 1)) (hj : j < L9) (hN : L9 < 2 ^ 31) (kk : Az g q ct k n (pc + 1) L (.int (xv j) :: st) w) : Az g q ct k n pc L (.int (nI j) :: .ref 910 :: st) w := by
  obtain ⟨p, l, e, s, m, args, below, meth, c, A, Q⟩ := ct
  obtain ⟨hx, hb, hml, hown, hts, hK, hZ, hA, hr, hlk⟩ := C
  obtain ⟨h0, hX, hbl, hbA, -⟩ := B
  intro H locs ls hP hD hS hL
  have h1 := kk H locs ls hP hD hS hL
  refine va_sld (b := g.1 910) hx hb (by rw [h0]; exact hX) (by rw [h0]; exact hbl) (by rw [h0]; exact hbA) hS (vp_in_nI hj hN) hd ?_
  rw [nI_clamp (Nat.lt_trans hj hN)]
  exact h1
theorem r_slen {g : Ge} {q : Mi} {ct : Ct} {k n pc : Nat} {L : Lo} {st : List Value} {w : Wo} {b L9 : Nat} {xv : Nat → Int32} (C : Cx g q ct) (B : Lx b L9 xv g ct) (hd : decode q.2.1 pc = .ok (.arraylength, 1)) (kk : Az g q ct k n (pc + 1) L (.int (nI L9) :: st) w) : Az g q ct k n pc L (.ref 910 :: st) w := by
  obtain ⟨p, l, e, s, m, args, below, meth, c, A, Q⟩ := ct
  obtain ⟨hx, hb, hml, hown, hts, hK, hZ, hA, hr, hlk⟩ := C
  obtain ⟨h0, hX, hbl, hbA, -⟩ := B
  intro H locs ls hP hD hS hL
  exact va_slen (b := g.1 910) hx hb (by rw [h0]; exact hX) (by rw [h0]; exact hbl) (by rw [h0]; exact hbA) hS hd (kk H locs ls hP hD hS hL)
theorem CW_kp {S : SK} {w w' : Wo} (h : CW S w) (e : ∀ k, k < 35 → w' k = w k) : CW S w' := by
  obtain ⟨xs, rs, rv, ln, pm, lo, ow, us, nb, op, up, kn⟩ := S
  exact CW_keep h e
theorem MW_kp {S : SK} {fa : Int32} {w w' : Wo} (h : MW fa S w) (e : ∀ k, 35 ≤ k → k < 59 → w' k = w k) : MW fa S w' := by
  obtain ⟨xs, rs, rv, ln, pm, lo, ow, us, nb, op, up, kn⟩ := S
  exact MW_keep h e
theorem CW_r0 {S : SK} {w : Wo} (h : CW S w) : w 0 = ob 5 [.ref 1, .ref 3, .ref 5] := by
  obtain ⟨xs, rs, rv, ln, pm, lo, ow, us, nb, op, up, kn⟩ := S
  exact CW_0 h
theorem MW_r35 {S : SK} {fa : Int32} {w : Wo} (h : MW fa S w) : ∃ fs, w 35 = ob 6 fs := by
  obtain ⟨xs, rs, rv, ln, pm, lo, ow, us, nb, op, up, kn⟩ := S
  exact MW_35 h
theorem mX6_thrown9 {S : SK} {fa : Int32} {w : Wo} (mw : MW fa S w) : Ctr mX6_thrown [.ref 35] w (PI fun r w' => w' = w ∧ r = fa) := by
  obtain ⟨xs, rs, rv, ln, pm, lo, ow, us, nb, op, up, kn⟩ := S
  exact MW_open mw (fun fx fr9 fo fus fn fop fup fk fh hl fm fd vA vB vC vD fsn ftn fpd ft fe fp fot K B SW BK ik w_35 w_36 h_xs k_xs w_37 h_rs k_rs w_38 h_ow k_ow w_39 h_us k_us w_40 h_nb k_nb w_41 h_op k_op w_42 h_up k_up w_43 h_kn k_kn w_50 h_hl k_hl w_44 w_45 w_46 w_47 hsn w_48 htn w_49 hpd w_51 w_52 w_53 w_54 w_55 w_56 w_57 w_58 hik => cX6_thrown9 w_35)
theorem lg_cmp_rf (x : Int64) : lg_cmp x x = 0 := by
  unfold lg_cmp
  simp
/-- what holds of both at the loop's head -/
def Inv (S : SK) (fa : Int32) (w : Wo) : Prop := CW S w ∧ MW fa S w ∧ PSok S ∧ ∃ fl, w 59 = la 1 fl
abbrev LwI (i : Nat) : Lo := [some (.ref 910), some (.ref 0), some (.ref 35), some (.ref 59), some (.int (nI (6 * i))), none, none]
abbrev mL_law : Mi := (yL_law, cL_law, 7, some .boolean, 1, { frames := 10, cells := 600128, slots := 7301098, locals := 374 })
/-- behind a case -/
def Kx9 (g : Ge) (ct : Ct) (k n i : Nat) : Prop := ∀ (S' : SK) (fa' : Int32) (w' : Wo) (k' n' : Nat), Inv S' fa' w' → k' ≤ k + 1 → n' ≤ n + 6 → Az g mL_law ct k' n' 826 (LwI i) [] w'
theorem mlRL_46 : Cond.methodLink RL 46 yX5_feed ∈ tb_ := mem_tb 232 (by decide +kernel) rfl
theorem mlRL_49 : Cond.methodLink RL 49 yX6_feed ∈ tb_ := mem_tb 826 (by decide +kernel) rfl
theorem mlRL_50 : Cond.methodLink RL 50 yL_put ∈ tb_ := mem_tb 380 (by decide +kernel) rfl
theorem mlRL_55 : Cond.methodLink RL 55 yX6_put ∈ tb_ := mem_tb 830 (by decide +kernel) rfl
theorem mlRL_56 : Cond.methodLink RL 56 yX6_thrown ∈ tb_ := mem_tb 822 (by decide +kernel) rfl
theorem mlRL_60 : Cond.methodLink RL 60 yL_cut ∈ tb_ := mem_tb 473 (by decide +kernel) rfl
theorem mlRL_63 : Cond.methodLink RL 63 yX6_cut ∈ tb_ := mem_tb 838 (by decide +kernel) rfl
theorem mlRL_64 : Cond.methodLink RL 64 yL_handler ∈ tb_ := mem_tb 482 (by decide +kernel) rfl
theorem mlRL_67 : Cond.methodLink RL 67 yX6_handler ∈ tb_ := mem_tb 842 (by decide +kernel) rfl
theorem mlRL_68 : Cond.methodLink RL 68 yL_take ∈ tb_ := mem_tb 492 (by decide +kernel) rfl
theorem mlRL_70 : Cond.methodLink RL 70 yX6_take ∈ tb_ := mem_tb 846 (by decide +kernel) rfl
theorem mlRL_71 : Cond.methodLink RL 71 yL_enter ∈ tb_ := mem_tb 521 (by decide +kernel) rfl
theorem mlRL_74 : Cond.methodLink RL 74 yX6_enter ∈ tb_ := mem_tb 850 (by decide +kernel) rfl
theorem mlRL_75 : Cond.methodLink RL 75 yX5_open ∈ tb_ := mem_tb 244 (by decide +kernel) rfl
theorem mlRL_78 : Cond.methodLink RL 78 yX6_open ∈ tb_ := mem_tb 913 (by decide +kernel) rfl
theorem mlRL_79 : Cond.methodLink RL 79 yX5_key ∈ tb_ := mem_tb 350 (by decide +kernel) rfl
theorem mlRL_82 : Cond.methodLink RL 82 yX6_key ∈ tb_ := mem_tb 925 (by decide +kernel) rfl
theorem mlRL_83 : Cond.methodLink RL 83 yX5_digest ∈ tb_ := mem_tb 358 (by decide +kernel) rfl
theorem mlRL_86 : Cond.methodLink RL 86 yX6_digest ∈ tb_ := mem_tb 929 (by decide +kernel) rfl
theorem mlRL_87 : Cond.methodLink RL 87 yL_undo ∈ tb_ := mem_tb 537 (by decide +kernel) rfl
theorem mlRL_90 : Cond.methodLink RL 90 yX6_undo ∈ tb_ := mem_tb 933 (by decide +kernel) rfl
theorem mlRL_91 : Cond.methodLink RL 91 yL_seal ∈ tb_ := mem_tb 617 (by decide +kernel) rfl
theorem mlRL_94 : Cond.methodLink RL 94 yX6_seal ∈ tb_ := mem_tb 1004 (by decide +kernel) rfl
theorem mlRL_95 : Cond.methodLink RL 95 yX5_count ∈ tb_ := mem_tb 363 (by decide +kernel) rfl
theorem mlRL_98 : Cond.methodLink RL 98 yX6_count ∈ tb_ := mem_tb 1016 (by decide +kernel) rfl
theorem mlRL_99 : Cond.methodLink RL 99 yX5_at ∈ tb_ := mem_tb 367 (by decide +kernel) rfl
theorem mlRL_102 : Cond.methodLink RL 102 yX6_at ∈ tb_ := mem_tb 1020 (by decide +kernel) rfl
theorem mlRL_103 : Cond.methodLink RL 103 yX5_entry ∈ tb_ := mem_tb 371 (by decide +kernel) rfl
theorem mlRL_106 : Cond.methodLink RL 106 yX6_entry ∈ tb_ := mem_tb 1024 (by decide +kernel) rfl
theorem mlRL_107 : Cond.methodLink RL 107 yX5_keep ∈ tb_ := mem_tb 375 (by decide +kernel) rfl
theorem mlRL_110 : Cond.methodLink RL 110 yX6_keep ∈ tb_ := mem_tb 1028 (by decide +kernel) rfl
set_option maxHeartbeats 4000000 in
set_option maxRecDepth 100000 in
theorem law_feed {g : Ge} {ct : Ct} {k n i b L9 : Nat} {xv : Nat → Int32} {w : Wo} {fa : Int32} {xs rs : List Nat} {rv : Int32} {ln : Nat} {pm lo : Int32} {ow us nb op up kn : List Nat} {fl : Nat → Int64} (C : Cx g mL_law ct) (B : Lx b L9 xv g ct) (hi : 6 * i + 6 ≤ L9) (h384 : L9 ≤ 384) (hk : k ≤ 500000) (hn : n ≤ 7000000) (cw : CW (xs, rs, rv, ln, pm, lo, ow, us, nb, op, up, kn) w) (mw : MW fa (xs, rs, rv, ln, pm, lo, ow, us, nb, op, up, kn) w) (ps : PSok (xs, rs, rv, ln, pm, lo, ow, us, nb, op, up, kn)) (w59 : w 59 = la 1 fl) (kk : Kx9 g ct k n i) : Az g mL_law ct k n 116 (LwI i) [] w := by
  refine r_aload_n C dL_law_116 rfl ?_
  refine r_aload_n C dL_law_117 rfl ?_
  refine r_iload C dL_law_118 rfl ?_
  refine r_iconst C dL_law_120 (v := 1) (by decide) ?_
  refine r_iadd C dL_law_121 ?_
  refine r_top (y := nI ((6 * i) + 1)) (nI_add (6 * i) 1) ?_
  refine r_sld C B dL_law_122 (j := (6 * i) + 1) (by omega) (by omega) ?_
  refine r_aload_n C dL_law_123 rfl ?_
  refine r_iload C dL_law_124 rfl ?_
  refine r_iconst C dL_law_126 (v := 2) (by decide) ?_
  refine r_iadd C dL_law_127 ?_
  refine r_top (y := nI ((6 * i) + 2)) (nI_add (6 * i) 2) ?_
  refine r_sld C B dL_law_128 (j := (6 * i) + 2) (by omega) (by omega) ?_
  refine r_aload_n C dL_law_129 rfl ?_
  refine r_iload C dL_law_130 rfl ?_
  refine r_iconst C dL_law_132 (v := 3) (by decide) ?_
  refine r_iadd C dL_law_133 ?_
  refine r_top (y := nI ((6 * i) + 3)) (nI_add (6 * i) 3) ?_
  refine r_sld C B dL_law_134 (j := (6 * i) + 3) (by omega) (by omega) ?_
  refine r_aload_n C dL_law_135 rfl ?_
  refine r_iload C dL_law_136 rfl ?_
  refine r_iconst C dL_law_138 (v := 4) (by decide) ?_
  refine r_iadd C dL_law_139 ?_
  refine r_top (y := nI ((6 * i) + 4)) (nI_add (6 * i) 4) ?_
  refine r_sld C B dL_law_140 (j := (6 * i) + 4) (by omega) (by omega) ?_
  refine r_aload_n C dL_law_141 rfl ?_
  refine r_iload C dL_law_142 rfl ?_
  refine r_iconst C dL_law_144 (v := 5) (by decide) ?_
  refine r_iadd C dL_law_145 ?_
  refine r_top (y := nI ((6 * i) + 5)) (nI_add (6 * i) 5) ?_
  refine r_sld C B dL_law_146 (j := (6 * i) + 5) (by omega) (by omega) ?_
  refine r_callVi C (As := [.int (xv ((6 * i) + 1)), .int (xv ((6 * i) + 2)), .int (xv ((6 * i) + 3)), .int (xv ((6 * i) + 4)), .int (xv ((6 * i) + 5))]) (rest := []) dL_law_147 (cX5_feed9 cw ps) okX5_feed mlRL_46 imX5_feed seX5_feed ⟨by decide, by decide⟩ rfl rfl (Nat.le_of_ble_eq_true rfl) (CW_r0 cw) rfl rfl (Nat.le_of_ble_eq_true rfl) (by show _ ≤ 600128; omega) (by show _ ≤ 7301098; omega) (fun r1 w1 h9 => ?_)
  obtain ⟨cw_1, hf_1, e_1⟩ := h9
  have mw_1 := MW_kp mw (fun k h1 h2 => hf_1 k h1)
  have w59_1 := (hf_1 59 (by decide)).trans w59
  refine r_aload_n C dL_law_150 rfl ?_
  refine r_aload_n C dL_law_151 rfl ?_
  refine r_iload C dL_law_152 rfl ?_
  refine r_iconst C dL_law_154 (v := 1) (by decide) ?_
  refine r_iadd C dL_law_155 ?_
  refine r_top (y := nI ((6 * i) + 1)) (nI_add (6 * i) 1) ?_
  refine r_sld C B dL_law_156 (j := (6 * i) + 1) (by omega) (by omega) ?_
  refine r_aload_n C dL_law_157 rfl ?_
  refine r_iload C dL_law_158 rfl ?_
  refine r_iconst C dL_law_160 (v := 2) (by decide) ?_
  refine r_iadd C dL_law_161 ?_
  refine r_top (y := nI ((6 * i) + 2)) (nI_add (6 * i) 2) ?_
  refine r_sld C B dL_law_162 (j := (6 * i) + 2) (by omega) (by omega) ?_
  refine r_aload_n C dL_law_163 rfl ?_
  refine r_iload C dL_law_164 rfl ?_
  refine r_iconst C dL_law_166 (v := 3) (by decide) ?_
  refine r_iadd C dL_law_167 ?_
  refine r_top (y := nI ((6 * i) + 3)) (nI_add (6 * i) 3) ?_
  refine r_sld C B dL_law_168 (j := (6 * i) + 3) (by omega) (by omega) ?_
  refine r_aload_n C dL_law_169 rfl ?_
  refine r_iload C dL_law_170 rfl ?_
  refine r_iconst C dL_law_172 (v := 4) (by decide) ?_
  refine r_iadd C dL_law_173 ?_
  refine r_top (y := nI ((6 * i) + 4)) (nI_add (6 * i) 4) ?_
  refine r_sld C B dL_law_174 (j := (6 * i) + 4) (by omega) (by omega) ?_
  refine r_aload_n C dL_law_175 rfl ?_
  refine r_iload C dL_law_176 rfl ?_
  refine r_iconst C dL_law_178 (v := 5) (by decide) ?_
  refine r_iadd C dL_law_179 ?_
  refine r_top (y := nI ((6 * i) + 5)) (nI_add (6 * i) 5) ?_
  refine r_sld C B dL_law_180 (j := (6 * i) + 5) (by omega) (by omega) ?_
  obtain ⟨fs_2, q_2⟩ := MW_r35 mw_1
  refine r_callVi C (As := [.int (xv ((6 * i) + 1)), .int (xv ((6 * i) + 2)), .int (xv ((6 * i) + 3)), .int (xv ((6 * i) + 4)), .int (xv ((6 * i) + 5))]) (rest := [.int r1]) dL_law_181 (mX6_feed9 mw_1 ps) okX6_feed mlRL_49 imX6_feed seX6_feed ⟨by decide, by decide⟩ rfl rfl (Nat.le_of_ble_eq_true rfl) q_2 rfl rfl (Nat.le_of_ble_eq_true rfl) (by show _ ≤ 600128; omega) (by show _ ≤ 7301098; omega) (fun r2 w2 h9 => ?_)
  obtain ⟨mw_2, hm_2, e_2⟩ := h9
  have cw_2 := CW_kp cw_1 (fun k hk => hm_2 k (Or.inl hk))
  have w59_2 := (hm_2 59 (Or.inr (by decide))).trans w59_1
  refine r_icmp_eq C 826 dL_law_184 (by decide) (fun c_184 => ?_) (fun c_184 => ?_)
  · skip
    exact kk _ _ _ _ _ ⟨cw_2, mw_2, PS_xs ps (byt_fedd ps.1 _ _ _ _ _), _, w59_2⟩ (by omega) (by omega)
  · skip
    exact absurd (e_1.trans e_2.symm) c_184
set_option maxHeartbeats 4000000 in
set_option maxRecDepth 100000 in
theorem law_put {g : Ge} {ct : Ct} {k n i b L9 : Nat} {xv : Nat → Int32} {w : Wo} {fa : Int32} {xs rs : List Nat} {rv : Int32} {ln : Nat} {pm lo : Int32} {ow us nb op up kn : List Nat} {fl : Nat → Int64} (C : Cx g mL_law ct) (B : Lx b L9 xv g ct) (hi : 6 * i + 6 ≤ L9) (h384 : L9 ≤ 384) (hk : k ≤ 500000) (hn : n ≤ 7000000) (cw : CW (xs, rs, rv, ln, pm, lo, ow, us, nb, op, up, kn) w) (mw : MW fa (xs, rs, rv, ln, pm, lo, ow, us, nb, op, up, kn) w) (ps : PSok (xs, rs, rv, ln, pm, lo, ow, us, nb, op, up, kn)) (w59 : w 59 = la 1 fl) (kk : Kx9 g ct k n i) : Az g mL_law ct k n 189 (LwI i) [] w := by
  refine r_aload_n C dL_law_189 rfl ?_
  refine r_aload_n C dL_law_190 rfl ?_
  refine r_iload C dL_law_191 rfl ?_
  refine r_iconst C dL_law_193 (v := 1) (by decide) ?_
  refine r_iadd C dL_law_194 ?_
  refine r_top (y := nI ((6 * i) + 1)) (nI_add (6 * i) 1) ?_
  refine r_sld C B dL_law_195 (j := (6 * i) + 1) (by omega) (by omega) ?_
  refine r_aload_n C dL_law_196 rfl ?_
  refine r_iload C dL_law_197 rfl ?_
  refine r_iconst C dL_law_199 (v := 2) (by decide) ?_
  refine r_iadd C dL_law_200 ?_
  refine r_top (y := nI ((6 * i) + 2)) (nI_add (6 * i) 2) ?_
  refine r_sld C B dL_law_201 (j := (6 * i) + 2) (by omega) (by omega) ?_
  refine r_aload_n C dL_law_202 rfl ?_
  refine r_callH C B.h0 (As := [.ref 0, .int (xv ((6 * i) + 1)), .int (xv ((6 * i) + 2)), .ref 59]) (rest := []) dL_law_203 (hL_put9 cw ps w59 (p1 := xv ((6 * i) + 1)) (p2 := xv ((6 * i) + 2))) okL_put mlRL_50 stL_put ⟨by decide, by decide⟩ rfl rfl (Nat.le_of_ble_eq_true rfl) (by show _ ≤ 600128; omega) (by show _ ≤ 7301098; omega) (fun r1 w1 h9 => ?_)
  obtain ⟨h_1, hf_1, f_1, w59_1, ha_1⟩ := h9
  have mw_1 := MW_kp mw (fun k h1 h2 => hf_1 k h1 (Nat.ne_of_lt h2))
  refine r_istore C dL_law_206 (L' := [some (.ref 910), some (.ref 0), some (.ref 35), some (.ref 59), some (.int (nI (6 * i))), some (.int r1), none]) (by decide) rfl ?_
  refine r_aload_n C dL_law_208 rfl ?_
  refine r_aload_n C dL_law_209 rfl ?_
  refine r_iload C dL_law_210 rfl ?_
  refine r_iconst C dL_law_212 (v := 1) (by decide) ?_
  refine r_iadd C dL_law_213 ?_
  refine r_top (y := nI ((6 * i) + 1)) (nI_add (6 * i) 1) ?_
  refine r_sld C B dL_law_214 (j := (6 * i) + 1) (by omega) (by omega) ?_
  refine r_aload_n C dL_law_215 rfl ?_
  refine r_iload C dL_law_216 rfl ?_
  refine r_iconst C dL_law_218 (v := 2) (by decide) ?_
  refine r_iadd C dL_law_219 ?_
  refine r_top (y := nI ((6 * i) + 2)) (nI_add (6 * i) 2) ?_
  refine r_sld C B dL_law_220 (j := (6 * i) + 2) (by omega) (by omega) ?_
  obtain ⟨fs_2, q_2⟩ := MW_r35 mw_1
  refine r_callVi C (As := [.int (xv ((6 * i) + 1)), .int (xv ((6 * i) + 2))]) (rest := []) dL_law_221 (mX6_put9 mw_1 ps) okX6_put mlRL_55 imX6_put seX6_put ⟨by decide, by decide⟩ rfl rfl (Nat.le_of_ble_eq_true rfl) q_2 rfl rfl (Nat.le_of_ble_eq_true rfl) (by show _ ≤ 600128; omega) (by show _ ≤ 7301098; omega) (fun r2 w2 h9 => ?_)
  obtain ⟨mw_2, hm_2, e_2⟩ := h9
  have w59_2 := (hm_2 59 (Or.inr (by decide))).trans w59_1
  obtain ⟨S9, fa9, cw_2, mw_29, ps9, er, ea⟩ : ∃ (S' : SK) (fa' : Int32), CW S' w2 ∧ MW fa' S' w2 ∧ PSok S' ∧ r1 = fa' ∧ (r1 = 0 → f_1 0 = r2.toInt64) := by
    exact ⟨_, _, CW_kp h_1.2 (fun k hk => hm_2 k (Or.inl hk)), mw_2, PS_xs ps (byt_putO ps.1 _ _), h_1.1, fun z => (ha_1 z).trans (congrArg Int32.toInt64 e_2.symm)⟩
  clear ps
  have ps := ps9
  refine r_istore C dL_law_224 (L' := [some (.ref 910), some (.ref 0), some (.ref 35), some (.ref 59), some (.int (nI (6 * i))), some (.int r1), some (.int r2)]) (by decide) rfl ?_
  refine r_aload_n C dL_law_226 rfl ?_
  obtain ⟨fs_3, q_3⟩ := MW_r35 mw_29
  refine r_callVi C (As := []) (rest := []) dL_law_227 (mX6_thrown9 mw_29) okX6_thrown mlRL_56 imX6_thrown seX6_thrown ⟨by decide, by decide⟩ rfl rfl (Nat.le_of_ble_eq_true rfl) q_3 rfl rfl (Nat.le_of_ble_eq_true rfl) (by show _ ≤ 600128; omega) (by show _ ≤ 7301098; omega) (fun r3 w3 h9 => ?_)
  obtain ⟨e9, e_3⟩ := h9
  subst e9
  refine r_iload C dL_law_230 rfl ?_
  refine r_icmp_eq C 237 dL_law_232 (by decide) (fun c_232 => ?_) (fun c_232 => ?_)
  · skip
    refine r_iload C dL_law_237 rfl ?_
    refine r_if_ne C 254 dL_law_239 (by decide) (fun c_239 => ?_) (fun c_239 => ?_)
    · skip
      refine r_goto C 826 dL_law_254 (by decide) ?_
      refine r_forget (LwI i) ⟨Or.inr rfl, Or.inr rfl, Or.inr rfl, Or.inr rfl, Or.inr rfl, Or.inl rfl, Or.inl rfl, trivial⟩ ?_
      exact kk _ _ _ _ _ ⟨cw_2, mw_29, ps, _, w59_2⟩ (by omega) (by omega)
    · skip
      refine r_aload_n C dL_law_242 rfl ?_
      refine r_iconst C dL_law_243 (v := 0) (by decide) ?_
      refine r_lald C dL_law_244 (Nat.le_of_ble_eq_true rfl) w59_2 (j := 0) rfl (by decide) (by decide) ?_
      refine r_iload C dL_law_245 rfl ?_
      refine r_i2l C dL_law_247 ?_
      refine r_lcmp C dL_law_248 ?_
      refine r_if_eq C 254 dL_law_249 (by decide) (fun c_249 => ?_) (fun c_249 => ?_)
      · skip
        refine r_goto C 826 dL_law_254 (by decide) ?_
        refine r_forget (LwI i) ⟨Or.inr rfl, Or.inr rfl, Or.inr rfl, Or.inr rfl, Or.inr rfl, Or.inl rfl, Or.inl rfl, trivial⟩ ?_
        exact kk _ _ _ _ _ ⟨cw_2, mw_29, ps, _, w59_2⟩ (by omega) (by omega)
      · skip
        exact absurd (by rw [ea c_239]; exact lg_cmp_rf _) c_249
  · skip
    exact absurd (e_3.trans er.symm) c_232
set_option maxHeartbeats 4000000 in
set_option maxRecDepth 100000 in
theorem law_cut {g : Ge} {ct : Ct} {k n i b L9 : Nat} {xv : Nat → Int32} {w : Wo} {fa : Int32} {xs rs : List Nat} {rv : Int32} {ln : Nat} {pm lo : Int32} {ow us nb op up kn : List Nat} {fl : Nat → Int64} (C : Cx g mL_law ct) (B : Lx b L9 xv g ct) (hi : 6 * i + 6 ≤ L9) (h384 : L9 ≤ 384) (hk : k ≤ 500000) (hn : n ≤ 7000000) (cw : CW (xs, rs, rv, ln, pm, lo, ow, us, nb, op, up, kn) w) (mw : MW fa (xs, rs, rv, ln, pm, lo, ow, us, nb, op, up, kn) w) (ps : PSok (xs, rs, rv, ln, pm, lo, ow, us, nb, op, up, kn)) (w59 : w 59 = la 1 fl) (kk : Kx9 g ct k n i) : Az g mL_law ct k n 257 (LwI i) [] w := by
  refine r_aload_n C dL_law_257 rfl ?_
  refine r_aload_n C dL_law_258 rfl ?_
  refine r_iload C dL_law_259 rfl ?_
  refine r_iconst C dL_law_261 (v := 1) (by decide) ?_
  refine r_iadd C dL_law_262 ?_
  refine r_top (y := nI ((6 * i) + 1)) (nI_add (6 * i) 1) ?_
  refine r_sld C B dL_law_263 (j := (6 * i) + 1) (by omega) (by omega) ?_
  refine r_aload_n C dL_law_264 rfl ?_
  refine r_callH C B.h0 (As := [.ref 0, .int (xv ((6 * i) + 1)), .ref 59]) (rest := []) dL_law_265 (hL_cut9 cw ps w59 (p1 := xv ((6 * i) + 1))) okL_cut mlRL_60 stL_cut ⟨by decide, by decide⟩ rfl rfl (Nat.le_of_ble_eq_true rfl) (by show _ ≤ 600128; omega) (by show _ ≤ 7301098; omega) (fun r1 w1 h9 => ?_)
  obtain ⟨h_1, hf_1, f_1, w59_1, ha_1⟩ := h9
  have mw_1 := MW_kp mw (fun k h1 h2 => hf_1 k h1 (Nat.ne_of_lt h2))
  refine r_istore C dL_law_268 (L' := [some (.ref 910), some (.ref 0), some (.ref 35), some (.ref 59), some (.int (nI (6 * i))), some (.int r1), none]) (by decide) rfl ?_
  refine r_aload_n C dL_law_270 rfl ?_
  refine r_aload_n C dL_law_271 rfl ?_
  refine r_iload C dL_law_272 rfl ?_
  refine r_iconst C dL_law_274 (v := 1) (by decide) ?_
  refine r_iadd C dL_law_275 ?_
  refine r_top (y := nI ((6 * i) + 1)) (nI_add (6 * i) 1) ?_
  refine r_sld C B dL_law_276 (j := (6 * i) + 1) (by omega) (by omega) ?_
  obtain ⟨fs_2, q_2⟩ := MW_r35 mw_1
  refine r_callVi C (As := [.int (xv ((6 * i) + 1))]) (rest := []) dL_law_277 (mX6_cut9 mw_1 ps) okX6_cut mlRL_63 imX6_cut seX6_cut ⟨by decide, by decide⟩ rfl rfl (Nat.le_of_ble_eq_true rfl) q_2 rfl rfl (Nat.le_of_ble_eq_true rfl) (by show _ ≤ 600128; omega) (by show _ ≤ 7301098; omega) (fun r2 w2 h9 => ?_)
  obtain ⟨mw_2, hm_2, e_2⟩ := h9
  have w59_2 := (hm_2 59 (Or.inr (by decide))).trans w59_1
  obtain ⟨S9, fa9, cw_2, mw_29, ps9, er, ea⟩ : ∃ (S' : SK) (fa' : Int32), CW S' w2 ∧ MW fa' S' w2 ∧ PSok S' ∧ r1 = fa' ∧ (r1 = 0 → f_1 0 = r2.toInt64) := by
    exact ⟨_, _, CW_kp h_1.2 (fun k hk => hm_2 k (Or.inl hk)), mw_2, PS_xs ps (byt_cutO ps.1 _), h_1.1, fun z => (ha_1 z).trans (congrArg Int32.toInt64 e_2.symm)⟩
  clear ps
  have ps := ps9
  refine r_istore C dL_law_280 (L' := [some (.ref 910), some (.ref 0), some (.ref 35), some (.ref 59), some (.int (nI (6 * i))), some (.int r1), some (.int r2)]) (by decide) rfl ?_
  refine r_aload_n C dL_law_282 rfl ?_
  obtain ⟨fs_3, q_3⟩ := MW_r35 mw_29
  refine r_callVi C (As := []) (rest := []) dL_law_283 (mX6_thrown9 mw_29) okX6_thrown mlRL_56 imX6_thrown seX6_thrown ⟨by decide, by decide⟩ rfl rfl (Nat.le_of_ble_eq_true rfl) q_3 rfl rfl (Nat.le_of_ble_eq_true rfl) (by show _ ≤ 600128; omega) (by show _ ≤ 7301098; omega) (fun r3 w3 h9 => ?_)
  obtain ⟨e9, e_3⟩ := h9
  subst e9
  refine r_iload C dL_law_286 rfl ?_
  refine r_icmp_eq C 293 dL_law_288 (by decide) (fun c_288 => ?_) (fun c_288 => ?_)
  · skip
    refine r_iload C dL_law_293 rfl ?_
    refine r_if_ne C 310 dL_law_295 (by decide) (fun c_295 => ?_) (fun c_295 => ?_)
    · skip
      refine r_goto C 826 dL_law_310 (by decide) ?_
      refine r_forget (LwI i) ⟨Or.inr rfl, Or.inr rfl, Or.inr rfl, Or.inr rfl, Or.inr rfl, Or.inl rfl, Or.inl rfl, trivial⟩ ?_
      exact kk _ _ _ _ _ ⟨cw_2, mw_29, ps, _, w59_2⟩ (by omega) (by omega)
    · skip
      refine r_aload_n C dL_law_298 rfl ?_
      refine r_iconst C dL_law_299 (v := 0) (by decide) ?_
      refine r_lald C dL_law_300 (Nat.le_of_ble_eq_true rfl) w59_2 (j := 0) rfl (by decide) (by decide) ?_
      refine r_iload C dL_law_301 rfl ?_
      refine r_i2l C dL_law_303 ?_
      refine r_lcmp C dL_law_304 ?_
      refine r_if_eq C 310 dL_law_305 (by decide) (fun c_305 => ?_) (fun c_305 => ?_)
      · skip
        refine r_goto C 826 dL_law_310 (by decide) ?_
        refine r_forget (LwI i) ⟨Or.inr rfl, Or.inr rfl, Or.inr rfl, Or.inr rfl, Or.inr rfl, Or.inl rfl, Or.inl rfl, trivial⟩ ?_
        exact kk _ _ _ _ _ ⟨cw_2, mw_29, ps, _, w59_2⟩ (by omega) (by omega)
      · skip
        exact absurd (by rw [ea c_295]; exact lg_cmp_rf _) c_305
  · skip
    exact absurd (e_3.trans er.symm) c_288
set_option maxHeartbeats 4000000 in
set_option maxRecDepth 100000 in
theorem law_handler0 {g : Ge} {ct : Ct} {k n i b L9 : Nat} {xv : Nat → Int32} {w : Wo} {fa : Int32} {xs rs : List Nat} {rv : Int32} {ln : Nat} {pm lo : Int32} {ow us nb op up kn : List Nat} {fl : Nat → Int64} (C : Cx g mL_law ct) (B : Lx b L9 xv g ct) (hi : 6 * i + 6 ≤ L9) (h384 : L9 ≤ 384) (hk : k ≤ 500000) (hn : n ≤ 7000000) (cw : CW (xs, rs, rv, ln, pm, lo, ow, us, nb, op, up, kn) w) (mw : MW fa (xs, rs, rv, ln, pm, lo, ow, us, nb, op, up, kn) w) (ps : PSok (xs, rs, rv, ln, pm, lo, ow, us, nb, op, up, kn)) (w59 : w 59 = la 1 fl) (hb : xv (6 * i + 4) = 0) (kk : Kx9 g ct k n i) : Az g mL_law ct k n 313 (LwI i) [] w := by
  have h4 : (0 : Int32) = 0 ∨ (0 : Int32) = 1 := by decide
  refine r_aload_n C dL_law_313 rfl ?_
  refine r_aload_n C dL_law_314 rfl ?_
  refine r_iload C dL_law_315 rfl ?_
  refine r_iconst C dL_law_317 (v := 1) (by decide) ?_
  refine r_iadd C dL_law_318 ?_
  refine r_top (y := nI ((6 * i) + 1)) (nI_add (6 * i) 1) ?_
  refine r_sld C B dL_law_319 (j := (6 * i) + 1) (by omega) (by omega) ?_
  refine r_aload_n C dL_law_320 rfl ?_
  refine r_iload C dL_law_321 rfl ?_
  refine r_iconst C dL_law_323 (v := 2) (by decide) ?_
  refine r_iadd C dL_law_324 ?_
  refine r_top (y := nI ((6 * i) + 2)) (nI_add (6 * i) 2) ?_
  refine r_sld C B dL_law_325 (j := (6 * i) + 2) (by omega) (by omega) ?_
  refine r_aload_n C dL_law_326 rfl ?_
  refine r_iload C dL_law_327 rfl ?_
  refine r_iconst C dL_law_329 (v := 3) (by decide) ?_
  refine r_iadd C dL_law_330 ?_
  refine r_top (y := nI ((6 * i) + 3)) (nI_add (6 * i) 3) ?_
  refine r_sld C B dL_law_331 (j := (6 * i) + 3) (by omega) (by omega) ?_
  refine r_aload_n C dL_law_332 rfl ?_
  refine r_iload C dL_law_333 rfl ?_
  refine r_iconst C dL_law_335 (v := 4) (by decide) ?_
  refine r_iadd C dL_law_336 ?_
  refine r_top (y := nI ((6 * i) + 4)) (nI_add (6 * i) 4) ?_
  refine r_sld C B dL_law_337 (j := (6 * i) + 4) (by omega) (by omega) ?_
  refine r_if_eq C 345 dL_law_338 (by decide) (fun c_338 => ?_) (fun c_338 => ?_)
  · skip
    refine r_iconst C dL_law_345 (v := 0) (by decide) ?_
    refine r_callH C B.h0 (As := [.ref 0, .int (xv ((6 * i) + 1)), .int (xv ((6 * i) + 2)), .int (xv ((6 * i) + 3)), .int 0]) (rest := []) dL_law_346 (hL_handler9 cw ps h4 (p1 := xv ((6 * i) + 1)) (p2 := xv ((6 * i) + 2)) (p3 := xv ((6 * i) + 3)) (p4 := 0)) okL_handler mlRL_64 stL_handler ⟨by decide, by decide⟩ rfl rfl (Nat.le_of_ble_eq_true rfl) (by show _ ≤ 600128; omega) (by show _ ≤ 7301098; omega) (fun r1 w1 h9 => ?_)
    obtain ⟨h_1, hf_1⟩ := h9
    have w59_1 := (hf_1 59 (by decide)).trans w59
    have mw_1 := MW_kp mw (fun k h1 h2 => hf_1 k h1)
    refine r_istore C dL_law_349 (L' := [some (.ref 910), some (.ref 0), some (.ref 35), some (.ref 59), some (.int (nI (6 * i))), some (.int r1), none]) (by decide) rfl ?_
    refine r_aload_n C dL_law_351 rfl ?_
    refine r_aload_n C dL_law_352 rfl ?_
    refine r_iload C dL_law_353 rfl ?_
    refine r_iconst C dL_law_355 (v := 1) (by decide) ?_
    refine r_iadd C dL_law_356 ?_
    refine r_top (y := nI ((6 * i) + 1)) (nI_add (6 * i) 1) ?_
    refine r_sld C B dL_law_357 (j := (6 * i) + 1) (by omega) (by omega) ?_
    refine r_aload_n C dL_law_358 rfl ?_
    refine r_iload C dL_law_359 rfl ?_
    refine r_iconst C dL_law_361 (v := 2) (by decide) ?_
    refine r_iadd C dL_law_362 ?_
    refine r_top (y := nI ((6 * i) + 2)) (nI_add (6 * i) 2) ?_
    refine r_sld C B dL_law_363 (j := (6 * i) + 2) (by omega) (by omega) ?_
    refine r_aload_n C dL_law_364 rfl ?_
    refine r_iload C dL_law_365 rfl ?_
    refine r_iconst C dL_law_367 (v := 3) (by decide) ?_
    refine r_iadd C dL_law_368 ?_
    refine r_top (y := nI ((6 * i) + 3)) (nI_add (6 * i) 3) ?_
    refine r_sld C B dL_law_369 (j := (6 * i) + 3) (by omega) (by omega) ?_
    refine r_aload_n C dL_law_370 rfl ?_
    refine r_iload C dL_law_371 rfl ?_
    refine r_iconst C dL_law_373 (v := 4) (by decide) ?_
    refine r_iadd C dL_law_374 ?_
    refine r_top (y := nI ((6 * i) + 4)) (nI_add (6 * i) 4) ?_
    refine r_sld C B dL_law_375 (j := (6 * i) + 4) (by omega) (by omega) ?_
    refine r_if_eq C 383 dL_law_376 (by decide) (fun c_376 => ?_) (fun c_376 => ?_)
    · skip
      refine r_iconst C dL_law_383 (v := 0) (by decide) ?_
      obtain ⟨fs_2, q_2⟩ := MW_r35 mw_1
      refine r_callVv C (As := [.int (xv ((6 * i) + 1)), .int (xv ((6 * i) + 2)), .int (xv ((6 * i) + 3)), .int 0]) (rest := []) dL_law_384 (mX6_handler9 mw_1 ps h4) okX6_handler mlRL_67 imX6_handler seX6_handler ⟨by decide, by decide⟩ rfl rfl (Nat.le_of_ble_eq_true rfl) q_2 rfl rfl (Nat.le_of_ble_eq_true rfl) (by show _ ≤ 600128; omega) (by show _ ≤ 7301098; omega) (fun w2 h9 => ?_)
      obtain ⟨g_2, hm_2⟩ := h9
      have w59_2 := (hm_2 59 (Or.inr (by decide))).trans w59_1
      obtain ⟨S9, fa9, cw_2, mw_29, ps9, er, ea⟩ : ∃ (S' : SK) (fa' : Int32), CW S' w2 ∧ MW fa' S' w2 ∧ PSok S' ∧ r1 = fa' ∧ True := by
        rcases h_1 with ⟨a, e, y⟩ | ⟨a, e, y⟩
        · rcases g_2 with ⟨a', m⟩ | ⟨a', m⟩
          · exact ⟨_, _, CW_kp y (fun k hk => hm_2 k (Or.inl hk)), m, PS_han ps a h4, e, trivial⟩
          · first | exact absurd a a' | exact absurd a' a | exact absurd b b' | exact absurd b' b | exact absurd b a' | exact absurd b' a | exact absurd a b' | exact absurd a' b | exact False.elim (b.elim b' (fun z => z d')) | exact False.elim (b'.elim b (fun z => z d))
        · rcases g_2 with ⟨a', m⟩ | ⟨a', m⟩
          · first | exact absurd a a' | exact absurd a' a | exact absurd b b' | exact absurd b' b | exact absurd b a' | exact absurd b' a | exact absurd a b' | exact absurd a' b | exact False.elim (b.elim b' (fun z => z d')) | exact False.elim (b'.elim b (fun z => z d))
          · exact ⟨_, _, CW_kp y (fun k hk => hm_2 k (Or.inl hk)), m, ps, e, trivial⟩
      clear ps
      have ps := ps9
      refine r_aload_n C dL_law_387 rfl ?_
      obtain ⟨fs_3, q_3⟩ := MW_r35 mw_29
      refine r_callVi C (As := []) (rest := []) dL_law_388 (mX6_thrown9 mw_29) okX6_thrown mlRL_56 imX6_thrown seX6_thrown ⟨by decide, by decide⟩ rfl rfl (Nat.le_of_ble_eq_true rfl) q_3 rfl rfl (Nat.le_of_ble_eq_true rfl) (by show _ ≤ 600128; omega) (by show _ ≤ 7301098; omega) (fun r3 w3 h9 => ?_)
      obtain ⟨e9, e_3⟩ := h9
      subst e9
      refine r_iload C dL_law_391 rfl ?_
      refine r_icmp_eq C 398 dL_law_393 (by decide) (fun c_393 => ?_) (fun c_393 => ?_)
      · skip
        refine r_goto C 826 dL_law_398 (by decide) ?_
        refine r_forget (LwI i) ⟨Or.inr rfl, Or.inr rfl, Or.inr rfl, Or.inr rfl, Or.inr rfl, Or.inl rfl, Or.inl rfl, trivial⟩ ?_
        exact kk _ _ _ _ _ ⟨cw_2, mw_29, ps, _, w59_2⟩ (by omega) (by omega)
      · skip
        exact absurd (e_3.trans er.symm) c_393
    · skip
      exact absurd hb c_376
  · skip
    exact absurd hb c_338
set_option maxHeartbeats 4000000 in
set_option maxRecDepth 100000 in
theorem law_handler1 {g : Ge} {ct : Ct} {k n i b L9 : Nat} {xv : Nat → Int32} {w : Wo} {fa : Int32} {xs rs : List Nat} {rv : Int32} {ln : Nat} {pm lo : Int32} {ow us nb op up kn : List Nat} {fl : Nat → Int64} (C : Cx g mL_law ct) (B : Lx b L9 xv g ct) (hi : 6 * i + 6 ≤ L9) (h384 : L9 ≤ 384) (hk : k ≤ 500000) (hn : n ≤ 7000000) (cw : CW (xs, rs, rv, ln, pm, lo, ow, us, nb, op, up, kn) w) (mw : MW fa (xs, rs, rv, ln, pm, lo, ow, us, nb, op, up, kn) w) (ps : PSok (xs, rs, rv, ln, pm, lo, ow, us, nb, op, up, kn)) (w59 : w 59 = la 1 fl) (hb : ¬ xv (6 * i + 4) = 0) (kk : Kx9 g ct k n i) : Az g mL_law ct k n 313 (LwI i) [] w := by
  have h4 : (1 : Int32) = 0 ∨ (1 : Int32) = 1 := by decide
  refine r_aload_n C dL_law_313 rfl ?_
  refine r_aload_n C dL_law_314 rfl ?_
  refine r_iload C dL_law_315 rfl ?_
  refine r_iconst C dL_law_317 (v := 1) (by decide) ?_
  refine r_iadd C dL_law_318 ?_
  refine r_top (y := nI ((6 * i) + 1)) (nI_add (6 * i) 1) ?_
  refine r_sld C B dL_law_319 (j := (6 * i) + 1) (by omega) (by omega) ?_
  refine r_aload_n C dL_law_320 rfl ?_
  refine r_iload C dL_law_321 rfl ?_
  refine r_iconst C dL_law_323 (v := 2) (by decide) ?_
  refine r_iadd C dL_law_324 ?_
  refine r_top (y := nI ((6 * i) + 2)) (nI_add (6 * i) 2) ?_
  refine r_sld C B dL_law_325 (j := (6 * i) + 2) (by omega) (by omega) ?_
  refine r_aload_n C dL_law_326 rfl ?_
  refine r_iload C dL_law_327 rfl ?_
  refine r_iconst C dL_law_329 (v := 3) (by decide) ?_
  refine r_iadd C dL_law_330 ?_
  refine r_top (y := nI ((6 * i) + 3)) (nI_add (6 * i) 3) ?_
  refine r_sld C B dL_law_331 (j := (6 * i) + 3) (by omega) (by omega) ?_
  refine r_aload_n C dL_law_332 rfl ?_
  refine r_iload C dL_law_333 rfl ?_
  refine r_iconst C dL_law_335 (v := 4) (by decide) ?_
  refine r_iadd C dL_law_336 ?_
  refine r_top (y := nI ((6 * i) + 4)) (nI_add (6 * i) 4) ?_
  refine r_sld C B dL_law_337 (j := (6 * i) + 4) (by omega) (by omega) ?_
  refine r_if_eq C 345 dL_law_338 (by decide) (fun c_338 => ?_) (fun c_338 => ?_)
  · skip
    exact absurd c_338 hb
  · skip
    refine r_iconst C dL_law_341 (v := 1) (by decide) ?_
    refine r_goto C 346 dL_law_342 (by decide) ?_
    refine r_callH C B.h0 (As := [.ref 0, .int (xv ((6 * i) + 1)), .int (xv ((6 * i) + 2)), .int (xv ((6 * i) + 3)), .int 1]) (rest := []) dL_law_346 (hL_handler9 cw ps h4 (p1 := xv ((6 * i) + 1)) (p2 := xv ((6 * i) + 2)) (p3 := xv ((6 * i) + 3)) (p4 := 1)) okL_handler mlRL_64 stL_handler ⟨by decide, by decide⟩ rfl rfl (Nat.le_of_ble_eq_true rfl) (by show _ ≤ 600128; omega) (by show _ ≤ 7301098; omega) (fun r1 w1 h9 => ?_)
    obtain ⟨h_1, hf_1⟩ := h9
    have w59_1 := (hf_1 59 (by decide)).trans w59
    have mw_1 := MW_kp mw (fun k h1 h2 => hf_1 k h1)
    refine r_istore C dL_law_349 (L' := [some (.ref 910), some (.ref 0), some (.ref 35), some (.ref 59), some (.int (nI (6 * i))), some (.int r1), none]) (by decide) rfl ?_
    refine r_aload_n C dL_law_351 rfl ?_
    refine r_aload_n C dL_law_352 rfl ?_
    refine r_iload C dL_law_353 rfl ?_
    refine r_iconst C dL_law_355 (v := 1) (by decide) ?_
    refine r_iadd C dL_law_356 ?_
    refine r_top (y := nI ((6 * i) + 1)) (nI_add (6 * i) 1) ?_
    refine r_sld C B dL_law_357 (j := (6 * i) + 1) (by omega) (by omega) ?_
    refine r_aload_n C dL_law_358 rfl ?_
    refine r_iload C dL_law_359 rfl ?_
    refine r_iconst C dL_law_361 (v := 2) (by decide) ?_
    refine r_iadd C dL_law_362 ?_
    refine r_top (y := nI ((6 * i) + 2)) (nI_add (6 * i) 2) ?_
    refine r_sld C B dL_law_363 (j := (6 * i) + 2) (by omega) (by omega) ?_
    refine r_aload_n C dL_law_364 rfl ?_
    refine r_iload C dL_law_365 rfl ?_
    refine r_iconst C dL_law_367 (v := 3) (by decide) ?_
    refine r_iadd C dL_law_368 ?_
    refine r_top (y := nI ((6 * i) + 3)) (nI_add (6 * i) 3) ?_
    refine r_sld C B dL_law_369 (j := (6 * i) + 3) (by omega) (by omega) ?_
    refine r_aload_n C dL_law_370 rfl ?_
    refine r_iload C dL_law_371 rfl ?_
    refine r_iconst C dL_law_373 (v := 4) (by decide) ?_
    refine r_iadd C dL_law_374 ?_
    refine r_top (y := nI ((6 * i) + 4)) (nI_add (6 * i) 4) ?_
    refine r_sld C B dL_law_375 (j := (6 * i) + 4) (by omega) (by omega) ?_
    refine r_if_eq C 383 dL_law_376 (by decide) (fun c_376 => ?_) (fun c_376 => ?_)
    · skip
      exact absurd c_376 hb
    · skip
      refine r_iconst C dL_law_379 (v := 1) (by decide) ?_
      refine r_goto C 384 dL_law_380 (by decide) ?_
      obtain ⟨fs_2, q_2⟩ := MW_r35 mw_1
      refine r_callVv C (As := [.int (xv ((6 * i) + 1)), .int (xv ((6 * i) + 2)), .int (xv ((6 * i) + 3)), .int 1]) (rest := []) dL_law_384 (mX6_handler9 mw_1 ps h4) okX6_handler mlRL_67 imX6_handler seX6_handler ⟨by decide, by decide⟩ rfl rfl (Nat.le_of_ble_eq_true rfl) q_2 rfl rfl (Nat.le_of_ble_eq_true rfl) (by show _ ≤ 600128; omega) (by show _ ≤ 7301098; omega) (fun w2 h9 => ?_)
      obtain ⟨g_2, hm_2⟩ := h9
      have w59_2 := (hm_2 59 (Or.inr (by decide))).trans w59_1
      obtain ⟨S9, fa9, cw_2, mw_29, ps9, er, ea⟩ : ∃ (S' : SK) (fa' : Int32), CW S' w2 ∧ MW fa' S' w2 ∧ PSok S' ∧ r1 = fa' ∧ True := by
        rcases h_1 with ⟨a, e, y⟩ | ⟨a, e, y⟩
        · rcases g_2 with ⟨a', m⟩ | ⟨a', m⟩
          · exact ⟨_, _, CW_kp y (fun k hk => hm_2 k (Or.inl hk)), m, PS_han ps a h4, e, trivial⟩
          · first | exact absurd a a' | exact absurd a' a | exact absurd b b' | exact absurd b' b | exact absurd b a' | exact absurd b' a | exact absurd a b' | exact absurd a' b | exact False.elim (b.elim b' (fun z => z d')) | exact False.elim (b'.elim b (fun z => z d))
        · rcases g_2 with ⟨a', m⟩ | ⟨a', m⟩
          · first | exact absurd a a' | exact absurd a' a | exact absurd b b' | exact absurd b' b | exact absurd b a' | exact absurd b' a | exact absurd a b' | exact absurd a' b | exact False.elim (b.elim b' (fun z => z d')) | exact False.elim (b'.elim b (fun z => z d))
          · exact ⟨_, _, CW_kp y (fun k hk => hm_2 k (Or.inl hk)), m, ps, e, trivial⟩
      clear ps
      have ps := ps9
      refine r_aload_n C dL_law_387 rfl ?_
      obtain ⟨fs_3, q_3⟩ := MW_r35 mw_29
      refine r_callVi C (As := []) (rest := []) dL_law_388 (mX6_thrown9 mw_29) okX6_thrown mlRL_56 imX6_thrown seX6_thrown ⟨by decide, by decide⟩ rfl rfl (Nat.le_of_ble_eq_true rfl) q_3 rfl rfl (Nat.le_of_ble_eq_true rfl) (by show _ ≤ 600128; omega) (by show _ ≤ 7301098; omega) (fun r3 w3 h9 => ?_)
      obtain ⟨e9, e_3⟩ := h9
      subst e9
      refine r_iload C dL_law_391 rfl ?_
      refine r_icmp_eq C 398 dL_law_393 (by decide) (fun c_393 => ?_) (fun c_393 => ?_)
      · skip
        refine r_goto C 826 dL_law_398 (by decide) ?_
        refine r_forget (LwI i) ⟨Or.inr rfl, Or.inr rfl, Or.inr rfl, Or.inr rfl, Or.inr rfl, Or.inl rfl, Or.inl rfl, trivial⟩ ?_
        exact kk _ _ _ _ _ ⟨cw_2, mw_29, ps, _, w59_2⟩ (by omega) (by omega)
      · skip
        exact absurd (e_3.trans er.symm) c_393
set_option maxHeartbeats 4000000 in
set_option maxRecDepth 100000 in
theorem law_take {g : Ge} {ct : Ct} {k n i b L9 : Nat} {xv : Nat → Int32} {w : Wo} {fa : Int32} {xs rs : List Nat} {rv : Int32} {ln : Nat} {pm lo : Int32} {ow us nb op up kn : List Nat} {fl : Nat → Int64} (C : Cx g mL_law ct) (B : Lx b L9 xv g ct) (hi : 6 * i + 6 ≤ L9) (h384 : L9 ≤ 384) (hk : k ≤ 500000) (hn : n ≤ 7000000) (cw : CW (xs, rs, rv, ln, pm, lo, ow, us, nb, op, up, kn) w) (mw : MW fa (xs, rs, rv, ln, pm, lo, ow, us, nb, op, up, kn) w) (ps : PSok (xs, rs, rv, ln, pm, lo, ow, us, nb, op, up, kn)) (w59 : w 59 = la 1 fl) (kk : Kx9 g ct k n i) : Az g mL_law ct k n 401 (LwI i) [] w := by
  refine r_aload_n C dL_law_401 rfl ?_
  refine r_aload_n C dL_law_402 rfl ?_
  refine r_iload C dL_law_403 rfl ?_
  refine r_iconst C dL_law_405 (v := 1) (by decide) ?_
  refine r_iadd C dL_law_406 ?_
  refine r_top (y := nI ((6 * i) + 1)) (nI_add (6 * i) 1) ?_
  refine r_sld C B dL_law_407 (j := (6 * i) + 1) (by omega) (by omega) ?_
  refine r_aload_n C dL_law_408 rfl ?_
  refine r_callH C B.h0 (As := [.ref 0, .int (xv ((6 * i) + 1)), .ref 59]) (rest := []) dL_law_409 (hL_take9 cw ps w59 (p1 := xv ((6 * i) + 1))) okL_take mlRL_68 stL_take ⟨by decide, by decide⟩ rfl rfl (Nat.le_of_ble_eq_true rfl) (by show _ ≤ 600128; omega) (by show _ ≤ 7301098; omega) (fun r1 w1 h9 => ?_)
  obtain ⟨h_1, hf_1, f_1, w59_1, ha_1⟩ := h9
  have mw_1 := MW_kp mw (fun k h1 h2 => hf_1 k h1 (Nat.ne_of_lt h2))
  refine r_istore C dL_law_412 (L' := [some (.ref 910), some (.ref 0), some (.ref 35), some (.ref 59), some (.int (nI (6 * i))), some (.int r1), none]) (by decide) rfl ?_
  refine r_aload_n C dL_law_414 rfl ?_
  refine r_aload_n C dL_law_415 rfl ?_
  refine r_iload C dL_law_416 rfl ?_
  refine r_iconst C dL_law_418 (v := 1) (by decide) ?_
  refine r_iadd C dL_law_419 ?_
  refine r_top (y := nI ((6 * i) + 1)) (nI_add (6 * i) 1) ?_
  refine r_sld C B dL_law_420 (j := (6 * i) + 1) (by omega) (by omega) ?_
  obtain ⟨fs_2, q_2⟩ := MW_r35 mw_1
  refine r_callVi C (As := [.int (xv ((6 * i) + 1))]) (rest := []) dL_law_421 (mX6_take9 mw_1 ps) okX6_take mlRL_70 imX6_take seX6_take ⟨by decide, by decide⟩ rfl rfl (Nat.le_of_ble_eq_true rfl) q_2 rfl rfl (Nat.le_of_ble_eq_true rfl) (by show _ ≤ 600128; omega) (by show _ ≤ 7301098; omega) (fun r2 w2 h9 => ?_)
  obtain ⟨g_2, hm_2⟩ := h9
  have w59_2 := (hm_2 59 (Or.inr (by decide))).trans w59_1
  obtain ⟨S9, fa9, cw_2, mw_29, ps9, er, ea⟩ : ∃ (S' : SK) (fa' : Int32), CW S' w2 ∧ MW fa' S' w2 ∧ PSok S' ∧ r1 = fa' ∧ (r1 = 0 → f_1 0 = r2.toInt64) := by
    rcases h_1 with ⟨a, e, y⟩ | ⟨a, b, e, y⟩ | ⟨a, b, e, y⟩
    · rcases g_2 with ⟨a', m, e'⟩ | ⟨a', b', m, e'⟩ | ⟨a', b', m, e'⟩
      · exact ⟨_, _, CW_kp y (fun k hk => hm_2 k (Or.inl hk)), m, ps, e, fun z => absurd (e.symm.trans z) (by decide)⟩
      · first | exact absurd a a' | exact absurd a' a | exact absurd b b' | exact absurd b' b | exact absurd b a' | exact absurd b' a | exact absurd a b' | exact absurd a' b | exact False.elim (b.elim b' (fun z => z d')) | exact False.elim (b'.elim b (fun z => z d))
      · first | exact absurd a a' | exact absurd a' a | exact absurd b b' | exact absurd b' b | exact absurd b a' | exact absurd b' a | exact absurd a b' | exact absurd a' b | exact False.elim (b.elim b' (fun z => z d')) | exact False.elim (b'.elim b (fun z => z d))
    · rcases g_2 with ⟨a', m, e'⟩ | ⟨a', b', m, e'⟩ | ⟨a', b', m, e'⟩
      · first | exact absurd a a' | exact absurd a' a | exact absurd b b' | exact absurd b' b | exact absurd b a' | exact absurd b' a | exact absurd a b' | exact absurd a' b | exact False.elim (b.elim b' (fun z => z d')) | exact False.elim (b'.elim b (fun z => z d))
      · exact ⟨_, _, CW_kp y (fun k hk => hm_2 k (Or.inl hk)), m, ps, e, fun z => absurd (e.symm.trans z) (by decide)⟩
      · first | exact absurd a a' | exact absurd a' a | exact absurd b b' | exact absurd b' b | exact absurd b a' | exact absurd b' a | exact absurd a b' | exact absurd a' b | exact False.elim (b.elim b' (fun z => z d')) | exact False.elim (b'.elim b (fun z => z d))
    · rcases g_2 with ⟨a', m, e'⟩ | ⟨a', b', m, e'⟩ | ⟨a', b', m, e'⟩
      · first | exact absurd a a' | exact absurd a' a | exact absurd b b' | exact absurd b' b | exact absurd b a' | exact absurd b' a | exact absurd a b' | exact absurd a' b | exact False.elim (b.elim b' (fun z => z d')) | exact False.elim (b'.elim b (fun z => z d))
      · first | exact absurd a a' | exact absurd a' a | exact absurd b b' | exact absurd b' b | exact absurd b a' | exact absurd b' a | exact absurd a b' | exact absurd a' b | exact False.elim (b.elim b' (fun z => z d')) | exact False.elim (b'.elim b (fun z => z d))
      · exact ⟨_, _, CW_kp y (fun k hk => hm_2 k (Or.inl hk)), m, PS_tk ps b, e, fun z => (ha_1 z).trans (congrArg Int32.toInt64 e'.symm)⟩
  clear ps
  have ps := ps9
  refine r_istore C dL_law_424 (L' := [some (.ref 910), some (.ref 0), some (.ref 35), some (.ref 59), some (.int (nI (6 * i))), some (.int r1), some (.int r2)]) (by decide) rfl ?_
  refine r_aload_n C dL_law_426 rfl ?_
  obtain ⟨fs_3, q_3⟩ := MW_r35 mw_29
  refine r_callVi C (As := []) (rest := []) dL_law_427 (mX6_thrown9 mw_29) okX6_thrown mlRL_56 imX6_thrown seX6_thrown ⟨by decide, by decide⟩ rfl rfl (Nat.le_of_ble_eq_true rfl) q_3 rfl rfl (Nat.le_of_ble_eq_true rfl) (by show _ ≤ 600128; omega) (by show _ ≤ 7301098; omega) (fun r3 w3 h9 => ?_)
  obtain ⟨e9, e_3⟩ := h9
  subst e9
  refine r_iload C dL_law_430 rfl ?_
  refine r_icmp_eq C 437 dL_law_432 (by decide) (fun c_432 => ?_) (fun c_432 => ?_)
  · skip
    refine r_iload C dL_law_437 rfl ?_
    refine r_if_ne C 454 dL_law_439 (by decide) (fun c_439 => ?_) (fun c_439 => ?_)
    · skip
      refine r_goto C 826 dL_law_454 (by decide) ?_
      refine r_forget (LwI i) ⟨Or.inr rfl, Or.inr rfl, Or.inr rfl, Or.inr rfl, Or.inr rfl, Or.inl rfl, Or.inl rfl, trivial⟩ ?_
      exact kk _ _ _ _ _ ⟨cw_2, mw_29, ps, _, w59_2⟩ (by omega) (by omega)
    · skip
      refine r_aload_n C dL_law_442 rfl ?_
      refine r_iconst C dL_law_443 (v := 0) (by decide) ?_
      refine r_lald C dL_law_444 (Nat.le_of_ble_eq_true rfl) w59_2 (j := 0) rfl (by decide) (by decide) ?_
      refine r_iload C dL_law_445 rfl ?_
      refine r_i2l C dL_law_447 ?_
      refine r_lcmp C dL_law_448 ?_
      refine r_if_eq C 454 dL_law_449 (by decide) (fun c_449 => ?_) (fun c_449 => ?_)
      · skip
        refine r_goto C 826 dL_law_454 (by decide) ?_
        refine r_forget (LwI i) ⟨Or.inr rfl, Or.inr rfl, Or.inr rfl, Or.inr rfl, Or.inr rfl, Or.inl rfl, Or.inl rfl, trivial⟩ ?_
        exact kk _ _ _ _ _ ⟨cw_2, mw_29, ps, _, w59_2⟩ (by omega) (by omega)
      · skip
        exact absurd (by rw [ea c_439]; exact lg_cmp_rf _) c_449
  · skip
    exact absurd (e_3.trans er.symm) c_432
set_option maxHeartbeats 4000000 in
set_option maxRecDepth 100000 in
theorem law_enter {g : Ge} {ct : Ct} {k n i b L9 : Nat} {xv : Nat → Int32} {w : Wo} {fa : Int32} {xs rs : List Nat} {rv : Int32} {ln : Nat} {pm lo : Int32} {ow us nb op up kn : List Nat} {fl : Nat → Int64} (C : Cx g mL_law ct) (B : Lx b L9 xv g ct) (hi : 6 * i + 6 ≤ L9) (h384 : L9 ≤ 384) (hk : k ≤ 500000) (hn : n ≤ 7000000) (cw : CW (xs, rs, rv, ln, pm, lo, ow, us, nb, op, up, kn) w) (mw : MW fa (xs, rs, rv, ln, pm, lo, ow, us, nb, op, up, kn) w) (ps : PSok (xs, rs, rv, ln, pm, lo, ow, us, nb, op, up, kn)) (w59 : w 59 = la 1 fl) (kk : Kx9 g ct k n i) : Az g mL_law ct k n 457 (LwI i) [] w := by
  refine r_aload_n C dL_law_457 rfl ?_
  refine r_aload_n C dL_law_458 rfl ?_
  refine r_iload C dL_law_459 rfl ?_
  refine r_iconst C dL_law_461 (v := 1) (by decide) ?_
  refine r_iadd C dL_law_462 ?_
  refine r_top (y := nI ((6 * i) + 1)) (nI_add (6 * i) 1) ?_
  refine r_sld C B dL_law_463 (j := (6 * i) + 1) (by omega) (by omega) ?_
  refine r_callH C B.h0 (As := [.ref 0, .int (xv ((6 * i) + 1))]) (rest := []) dL_law_464 (hL_enter9 cw ps  (p1 := xv ((6 * i) + 1))) okL_enter mlRL_71 stL_enter ⟨by decide, by decide⟩ rfl rfl (Nat.le_of_ble_eq_true rfl) (by show _ ≤ 600128; omega) (by show _ ≤ 7301098; omega) (fun r1 w1 h9 => ?_)
  obtain ⟨h_1, hf_1⟩ := h9
  have w59_1 := (hf_1 59 (by decide)).trans w59
  have mw_1 := MW_kp mw (fun k h1 h2 => hf_1 k h1)
  refine r_istore C dL_law_467 (L' := [some (.ref 910), some (.ref 0), some (.ref 35), some (.ref 59), some (.int (nI (6 * i))), some (.int r1), none]) (by decide) rfl ?_
  refine r_aload_n C dL_law_469 rfl ?_
  refine r_aload_n C dL_law_470 rfl ?_
  refine r_iload C dL_law_471 rfl ?_
  refine r_iconst C dL_law_473 (v := 1) (by decide) ?_
  refine r_iadd C dL_law_474 ?_
  refine r_top (y := nI ((6 * i) + 1)) (nI_add (6 * i) 1) ?_
  refine r_sld C B dL_law_475 (j := (6 * i) + 1) (by omega) (by omega) ?_
  obtain ⟨fs_2, q_2⟩ := MW_r35 mw_1
  refine r_callVv C (As := [.int (xv ((6 * i) + 1))]) (rest := []) dL_law_476 (mX6_enter9 mw_1 ps) okX6_enter mlRL_74 imX6_enter seX6_enter ⟨by decide, by decide⟩ rfl rfl (Nat.le_of_ble_eq_true rfl) q_2 rfl rfl (Nat.le_of_ble_eq_true rfl) (by show _ ≤ 600128; omega) (by show _ ≤ 7301098; omega) (fun w2 h9 => ?_)
  obtain ⟨g_2, hm_2⟩ := h9
  have w59_2 := (hm_2 59 (Or.inr (by decide))).trans w59_1
  obtain ⟨S9, fa9, cw_2, mw_29, ps9, er, ea⟩ : ∃ (S' : SK) (fa' : Int32), CW S' w2 ∧ MW fa' S' w2 ∧ PSok S' ∧ r1 = fa' ∧ True := by
    rcases h_1 with ⟨a, e, y⟩ | ⟨a, e, y⟩ | ⟨a, b, e, y⟩
    · rcases g_2 with ⟨a', m⟩ | ⟨a', m⟩ | ⟨a', b', m⟩
      · exact ⟨_, _, CW_kp y (fun k hk => hm_2 k (Or.inl hk)), m, PS_nokn (PS_ow ps), e, trivial⟩
      · exact absurd (a.symm.trans a') (by decide)
      · first | exact absurd a a' | exact absurd a' a | exact absurd b b' | exact absurd b' b | exact absurd b a' | exact absurd b' a | exact absurd a b' | exact absurd a' b | exact False.elim (b.elim b' (fun z => z d')) | exact False.elim (b'.elim b (fun z => z d))
    · rcases g_2 with ⟨a', m⟩ | ⟨a', m⟩ | ⟨a', b', m⟩
      · exact absurd (a.symm.trans a') (by decide)
      · exact ⟨_, _, CW_kp y (fun k hk => hm_2 k (Or.inl hk)), m, PS_nokn (PS_us ps), e, trivial⟩
      · first | exact absurd a a' | exact absurd a' a | exact absurd b b' | exact absurd b' b | exact absurd b a' | exact absurd b' a | exact absurd a b' | exact absurd a' b | exact False.elim (b.elim b' (fun z => z d')) | exact False.elim (b'.elim b (fun z => z d))
    · rcases g_2 with ⟨a', m⟩ | ⟨a', m⟩ | ⟨a', b', m⟩
      · first | exact absurd a a' | exact absurd a' a | exact absurd b b' | exact absurd b' b | exact absurd b a' | exact absurd b' a | exact absurd a b' | exact absurd a' b | exact False.elim (b.elim b' (fun z => z d')) | exact False.elim (b'.elim b (fun z => z d))
      · first | exact absurd a a' | exact absurd a' a | exact absurd b b' | exact absurd b' b | exact absurd b a' | exact absurd b' a | exact absurd a b' | exact absurd a' b | exact False.elim (b.elim b' (fun z => z d')) | exact False.elim (b'.elim b (fun z => z d))
      · exact ⟨_, _, CW_kp y (fun k hk => hm_2 k (Or.inl hk)), m, ps, e, trivial⟩
  clear ps
  have ps := ps9
  refine r_aload_n C dL_law_479 rfl ?_
  obtain ⟨fs_3, q_3⟩ := MW_r35 mw_29
  refine r_callVi C (As := []) (rest := []) dL_law_480 (mX6_thrown9 mw_29) okX6_thrown mlRL_56 imX6_thrown seX6_thrown ⟨by decide, by decide⟩ rfl rfl (Nat.le_of_ble_eq_true rfl) q_3 rfl rfl (Nat.le_of_ble_eq_true rfl) (by show _ ≤ 600128; omega) (by show _ ≤ 7301098; omega) (fun r3 w3 h9 => ?_)
  obtain ⟨e9, e_3⟩ := h9
  subst e9
  refine r_iload C dL_law_483 rfl ?_
  refine r_icmp_eq C 490 dL_law_485 (by decide) (fun c_485 => ?_) (fun c_485 => ?_)
  · skip
    refine r_goto C 826 dL_law_490 (by decide) ?_
    refine r_forget (LwI i) ⟨Or.inr rfl, Or.inr rfl, Or.inr rfl, Or.inr rfl, Or.inr rfl, Or.inl rfl, Or.inl rfl, trivial⟩ ?_
    exact kk _ _ _ _ _ ⟨cw_2, mw_29, ps, _, w59_2⟩ (by omega) (by omega)
  · skip
    exact absurd (e_3.trans er.symm) c_485
set_option maxHeartbeats 4000000 in
set_option maxRecDepth 100000 in
theorem law_open {g : Ge} {ct : Ct} {k n i b L9 : Nat} {xv : Nat → Int32} {w : Wo} {fa : Int32} {xs rs : List Nat} {rv : Int32} {ln : Nat} {pm lo : Int32} {ow us nb op up kn : List Nat} {fl : Nat → Int64} (C : Cx g mL_law ct) (B : Lx b L9 xv g ct) (hi : 6 * i + 6 ≤ L9) (h384 : L9 ≤ 384) (hk : k ≤ 500000) (hn : n ≤ 7000000) (cw : CW (xs, rs, rv, ln, pm, lo, ow, us, nb, op, up, kn) w) (mw : MW fa (xs, rs, rv, ln, pm, lo, ow, us, nb, op, up, kn) w) (ps : PSok (xs, rs, rv, ln, pm, lo, ow, us, nb, op, up, kn)) (w59 : w 59 = la 1 fl) (kk : Kx9 g ct k n i) : Az g mL_law ct k n 493 (LwI i) [] w := by
  refine r_aload_n C dL_law_493 rfl ?_
  refine r_callVi C (As := []) (rest := []) dL_law_494 (cX5_open9 cw ps) okX5_open mlRL_75 imX5_open seX5_open ⟨by decide, by decide⟩ rfl rfl (Nat.le_of_ble_eq_true rfl) (CW_r0 cw) rfl rfl (Nat.le_of_ble_eq_true rfl) (by show _ ≤ 600128; omega) (by show _ ≤ 7301098; omega) (fun r1 w1 h9 => ?_)
  obtain ⟨cw_1, hf_1, e_1⟩ := h9
  have mw_1 := MW_kp mw (fun k h1 h2 => hf_1 k h1)
  have w59_1 := (hf_1 59 (by decide)).trans w59
  refine r_aload_n C dL_law_497 rfl ?_
  obtain ⟨fs_2, q_2⟩ := MW_r35 mw_1
  refine r_callVi C (As := []) (rest := [.int r1]) dL_law_498 (mX6_open9 mw_1 ps) okX6_open mlRL_78 imX6_open seX6_open ⟨by decide, by decide⟩ rfl rfl (Nat.le_of_ble_eq_true rfl) q_2 rfl rfl (Nat.le_of_ble_eq_true rfl) (by show _ ≤ 600128; omega) (by show _ ≤ 7301098; omega) (fun r2 w2 h9 => ?_)
  obtain ⟨mw_2, hm_2, e_2⟩ := h9
  have cw_2 := CW_kp cw_1 (fun k hk => hm_2 k (Or.inl hk))
  have w59_2 := (hm_2 59 (Or.inr (by decide))).trans w59_1
  refine r_icmp_eq C 826 dL_law_501 (by decide) (fun c_501 => ?_) (fun c_501 => ?_)
  · skip
    exact kk _ _ _ _ _ ⟨cw_2, mw_2, PS_opn ps, _, w59_2⟩ (by omega) (by omega)
  · skip
    exact absurd (e_1.trans e_2.symm) c_501
set_option maxHeartbeats 4000000 in
set_option maxRecDepth 100000 in
theorem law_key {g : Ge} {ct : Ct} {k n i b L9 : Nat} {xv : Nat → Int32} {w : Wo} {fa : Int32} {xs rs : List Nat} {rv : Int32} {ln : Nat} {pm lo : Int32} {ow us nb op up kn : List Nat} {fl : Nat → Int64} (C : Cx g mL_law ct) (B : Lx b L9 xv g ct) (hi : 6 * i + 6 ≤ L9) (h384 : L9 ≤ 384) (hk : k ≤ 500000) (hn : n ≤ 7000000) (cw : CW (xs, rs, rv, ln, pm, lo, ow, us, nb, op, up, kn) w) (mw : MW fa (xs, rs, rv, ln, pm, lo, ow, us, nb, op, up, kn) w) (ps : PSok (xs, rs, rv, ln, pm, lo, ow, us, nb, op, up, kn)) (w59 : w 59 = la 1 fl) (kk : Kx9 g ct k n i) : Az g mL_law ct k n 506 (LwI i) [] w := by
  refine r_aload_n C dL_law_506 rfl ?_
  refine r_aload_n C dL_law_507 rfl ?_
  refine r_iload C dL_law_508 rfl ?_
  refine r_iconst C dL_law_510 (v := 1) (by decide) ?_
  refine r_iadd C dL_law_511 ?_
  refine r_top (y := nI ((6 * i) + 1)) (nI_add (6 * i) 1) ?_
  refine r_sld C B dL_law_512 (j := (6 * i) + 1) (by omega) (by omega) ?_
  refine r_callVi C (As := [.int (xv ((6 * i) + 1))]) (rest := []) dL_law_513 (cX5_key9 cw ps) okX5_key mlRL_79 imX5_key seX5_key ⟨by decide, by decide⟩ rfl rfl (Nat.le_of_ble_eq_true rfl) (CW_r0 cw) rfl rfl (Nat.le_of_ble_eq_true rfl) (by show _ ≤ 600128; omega) (by show _ ≤ 7301098; omega) (fun r1 w1 h9 => ?_)
  obtain ⟨e9, e_1⟩ := h9
  subst e9
  refine r_aload_n C dL_law_516 rfl ?_
  refine r_aload_n C dL_law_517 rfl ?_
  refine r_iload C dL_law_518 rfl ?_
  refine r_iconst C dL_law_520 (v := 1) (by decide) ?_
  refine r_iadd C dL_law_521 ?_
  refine r_top (y := nI ((6 * i) + 1)) (nI_add (6 * i) 1) ?_
  refine r_sld C B dL_law_522 (j := (6 * i) + 1) (by omega) (by omega) ?_
  obtain ⟨fs_2, q_2⟩ := MW_r35 mw
  refine r_callVi C (As := [.int (xv ((6 * i) + 1))]) (rest := [.int r1]) dL_law_523 (mX6_key9 mw ps) okX6_key mlRL_82 imX6_key seX6_key ⟨by decide, by decide⟩ rfl rfl (Nat.le_of_ble_eq_true rfl) q_2 rfl rfl (Nat.le_of_ble_eq_true rfl) (by show _ ≤ 600128; omega) (by show _ ≤ 7301098; omega) (fun r2 w2 h9 => ?_)
  obtain ⟨mw_2, hm_2, e_2⟩ := h9
  have cw_2 := CW_kp cw (fun k hk => hm_2 k (Or.inl hk))
  have w59_2 := (hm_2 59 (Or.inr (by decide))).trans w59
  refine r_icmp_eq C 826 dL_law_526 (by decide) (fun c_526 => ?_) (fun c_526 => ?_)
  · skip
    exact kk _ _ _ _ _ ⟨cw_2, mw_2, ps, _, w59_2⟩ (by omega) (by omega)
  · skip
    exact absurd (e_1.trans e_2.symm) c_526
set_option maxHeartbeats 4000000 in
set_option maxRecDepth 100000 in
theorem law_digest {g : Ge} {ct : Ct} {k n i b L9 : Nat} {xv : Nat → Int32} {w : Wo} {fa : Int32} {xs rs : List Nat} {rv : Int32} {ln : Nat} {pm lo : Int32} {ow us nb op up kn : List Nat} {fl : Nat → Int64} (C : Cx g mL_law ct) (B : Lx b L9 xv g ct) (hi : 6 * i + 6 ≤ L9) (h384 : L9 ≤ 384) (hk : k ≤ 500000) (hn : n ≤ 7000000) (cw : CW (xs, rs, rv, ln, pm, lo, ow, us, nb, op, up, kn) w) (mw : MW fa (xs, rs, rv, ln, pm, lo, ow, us, nb, op, up, kn) w) (ps : PSok (xs, rs, rv, ln, pm, lo, ow, us, nb, op, up, kn)) (w59 : w 59 = la 1 fl) (kk : Kx9 g ct k n i) : Az g mL_law ct k n 531 (LwI i) [] w := by
  refine r_aload_n C dL_law_531 rfl ?_
  refine r_callVv C (As := []) (rest := []) dL_law_532 (cX5_digest9 cw ps) okX5_digest mlRL_83 imX5_digest seX5_digest ⟨by decide, by decide⟩ rfl rfl (Nat.le_of_ble_eq_true rfl) (CW_r0 cw) rfl rfl (Nat.le_of_ble_eq_true rfl) (by show _ ≤ 600128; omega) (by show _ ≤ 7301098; omega) (fun w1 h9 => ?_)
  obtain ⟨cw_1, hf_1⟩ := h9
  have mw_1 := MW_kp mw (fun k h1 h2 => hf_1 k h1)
  have w59_1 := (hf_1 59 (by decide)).trans w59
  refine r_aload_n C dL_law_535 rfl ?_
  obtain ⟨fs_2, q_2⟩ := MW_r35 mw_1
  refine r_callVv C (As := []) (rest := []) dL_law_536 (mX6_digest9 mw_1 ps) okX6_digest mlRL_86 imX6_digest seX6_digest ⟨by decide, by decide⟩ rfl rfl (Nat.le_of_ble_eq_true rfl) q_2 rfl rfl (Nat.le_of_ble_eq_true rfl) (by show _ ≤ 600128; omega) (by show _ ≤ 7301098; omega) (fun w2 h9 => ?_)
  obtain ⟨mw_2, hm_2⟩ := h9
  have cw_2 := CW_kp cw_1 (fun k hk => hm_2 k (Or.inl hk))
  have w59_2 := (hm_2 59 (Or.inr (by decide))).trans w59_1
  refine r_goto C 826 dL_law_539 (by decide) ?_
  exact kk _ _ _ _ _ ⟨cw_2, mw_2, PS_rs ps (byt_md5 _), _, w59_2⟩ (by omega) (by omega)
set_option maxHeartbeats 4000000 in
set_option maxRecDepth 100000 in
theorem law_undo {g : Ge} {ct : Ct} {k n i b L9 : Nat} {xv : Nat → Int32} {w : Wo} {fa : Int32} {xs rs : List Nat} {rv : Int32} {ln : Nat} {pm lo : Int32} {ow us nb op up kn : List Nat} {fl : Nat → Int64} (C : Cx g mL_law ct) (B : Lx b L9 xv g ct) (hi : 6 * i + 6 ≤ L9) (h384 : L9 ≤ 384) (hk : k ≤ 500000) (hn : n ≤ 7000000) (cw : CW (xs, rs, rv, ln, pm, lo, ow, us, nb, op, up, kn) w) (mw : MW fa (xs, rs, rv, ln, pm, lo, ow, us, nb, op, up, kn) w) (ps : PSok (xs, rs, rv, ln, pm, lo, ow, us, nb, op, up, kn)) (w59 : w 59 = la 1 fl) (kk : Kx9 g ct k n i) : Az g mL_law ct k n 542 (LwI i) [] w := by
  refine r_aload_n C dL_law_542 rfl ?_
  refine r_aload_n C dL_law_543 rfl ?_
  refine r_iload C dL_law_544 rfl ?_
  refine r_iconst C dL_law_546 (v := 1) (by decide) ?_
  refine r_iadd C dL_law_547 ?_
  refine r_top (y := nI ((6 * i) + 1)) (nI_add (6 * i) 1) ?_
  refine r_sld C B dL_law_548 (j := (6 * i) + 1) (by omega) (by omega) ?_
  refine r_aload_n C dL_law_549 rfl ?_
  refine r_iload C dL_law_550 rfl ?_
  refine r_iconst C dL_law_552 (v := 2) (by decide) ?_
  refine r_iadd C dL_law_553 ?_
  refine r_top (y := nI ((6 * i) + 2)) (nI_add (6 * i) 2) ?_
  refine r_sld C B dL_law_554 (j := (6 * i) + 2) (by omega) (by omega) ?_
  refine r_aload_n C dL_law_555 rfl ?_
  refine r_iload C dL_law_556 rfl ?_
  refine r_iconst C dL_law_558 (v := 3) (by decide) ?_
  refine r_iadd C dL_law_559 ?_
  refine r_top (y := nI ((6 * i) + 3)) (nI_add (6 * i) 3) ?_
  refine r_sld C B dL_law_560 (j := (6 * i) + 3) (by omega) (by omega) ?_
  refine r_aload_n C dL_law_561 rfl ?_
  refine r_callH C B.h0 (As := [.ref 0, .int (xv ((6 * i) + 1)), .int (xv ((6 * i) + 2)), .int (xv ((6 * i) + 3)), .ref 59]) (rest := []) dL_law_562 (hL_undo9 cw ps w59 (nu := xv ((6 * i) + 1)) (ge := xv ((6 * i) + 2)) (me := xv ((6 * i) + 3))) okL_undo mlRL_87 stL_undo ⟨by decide, by decide⟩ rfl rfl (Nat.le_of_ble_eq_true rfl) (by show _ ≤ 600128; omega) (by show _ ≤ 7301098; omega) (fun r1 w1 h9 => ?_)
  obtain ⟨h_1, hf_1, f_1, w59_1, ha_1⟩ := h9
  have mw_1 := MW_kp mw (fun k h1 h2 => hf_1 k h1 (Nat.ne_of_lt h2))
  refine r_istore C dL_law_565 (L' := [some (.ref 910), some (.ref 0), some (.ref 35), some (.ref 59), some (.int (nI (6 * i))), some (.int r1), none]) (by decide) rfl ?_
  refine r_aload_n C dL_law_567 rfl ?_
  refine r_aload_n C dL_law_568 rfl ?_
  refine r_iload C dL_law_569 rfl ?_
  refine r_iconst C dL_law_571 (v := 1) (by decide) ?_
  refine r_iadd C dL_law_572 ?_
  refine r_top (y := nI ((6 * i) + 1)) (nI_add (6 * i) 1) ?_
  refine r_sld C B dL_law_573 (j := (6 * i) + 1) (by omega) (by omega) ?_
  refine r_aload_n C dL_law_574 rfl ?_
  refine r_iload C dL_law_575 rfl ?_
  refine r_iconst C dL_law_577 (v := 2) (by decide) ?_
  refine r_iadd C dL_law_578 ?_
  refine r_top (y := nI ((6 * i) + 2)) (nI_add (6 * i) 2) ?_
  refine r_sld C B dL_law_579 (j := (6 * i) + 2) (by omega) (by omega) ?_
  refine r_aload_n C dL_law_580 rfl ?_
  refine r_iload C dL_law_581 rfl ?_
  refine r_iconst C dL_law_583 (v := 3) (by decide) ?_
  refine r_iadd C dL_law_584 ?_
  refine r_top (y := nI ((6 * i) + 3)) (nI_add (6 * i) 3) ?_
  refine r_sld C B dL_law_585 (j := (6 * i) + 3) (by omega) (by omega) ?_
  obtain ⟨fs_2, q_2⟩ := MW_r35 mw_1
  refine r_callVi C (As := [.int (xv ((6 * i) + 1)), .int (xv ((6 * i) + 2)), .int (xv ((6 * i) + 3))]) (rest := []) dL_law_586 (mX6_undo9 mw_1 ps) okX6_undo mlRL_90 imX6_undo seX6_undo ⟨by decide, by decide⟩ rfl rfl (Nat.le_of_ble_eq_true rfl) q_2 rfl rfl (Nat.le_of_ble_eq_true rfl) (by show _ ≤ 600128; omega) (by show _ ≤ 7301098; omega) (fun r2 w2 h9 => ?_)
  obtain ⟨g_2, hm_2⟩ := h9
  have w59_2 := (hm_2 59 (Or.inr (by decide))).trans w59_1
  obtain ⟨S9, fa9, cw_2, mw_29, ps9, er, ea⟩ : ∃ (S' : SK) (fa' : Int32), CW S' w2 ∧ MW fa' S' w2 ∧ PSok S' ∧ r1 = fa' ∧ (r1 = 0 → f_1 0 = r2.toInt64) := by
    rcases h_1 with ⟨a, e, y⟩ | ⟨a, b, e, y⟩ | ⟨a, b, e, y⟩
    · rcases g_2 with ⟨a', m, e'⟩ | ⟨a', b', m, e'⟩ | ⟨a', b', m, e'⟩
      · exact ⟨_, _, CW_kp y (fun k hk => hm_2 k (Or.inl hk)), m, ps, e, fun z => absurd (e.symm.trans z) (by decide)⟩
      · first | exact absurd a a' | exact absurd a' a | exact absurd b b' | exact absurd b' b | exact absurd b a' | exact absurd b' a | exact absurd a b' | exact absurd a' b | exact False.elim (b.elim b' (fun z => z d')) | exact False.elim (b'.elim b (fun z => z d))
      · first | exact absurd a a' | exact absurd a' a | exact absurd b b' | exact absurd b' b | exact absurd b a' | exact absurd b' a | exact absurd a b' | exact absurd a' b | exact False.elim (b.elim b' (fun z => z d')) | exact False.elim (b'.elim b (fun z => z d))
    · rcases g_2 with ⟨a', m, e'⟩ | ⟨a', b', m, e'⟩ | ⟨a', b', m, e'⟩
      · first | exact absurd a a' | exact absurd a' a | exact absurd b b' | exact absurd b' b | exact absurd b a' | exact absurd b' a | exact absurd a b' | exact absurd a' b | exact False.elim (b.elim b' (fun z => z d')) | exact False.elim (b'.elim b (fun z => z d))
      · exact ⟨_, _, CW_kp y (fun k hk => hm_2 k (Or.inl hk)), m, ps, e, fun z => absurd (e.symm.trans z) (by decide)⟩
      · first | exact absurd a a' | exact absurd a' a | exact absurd b b' | exact absurd b' b | exact absurd b a' | exact absurd b' a | exact absurd a b' | exact absurd a' b | exact False.elim (b.elim b' (fun z => z d')) | exact False.elim (b'.elim b (fun z => z d))
    · rcases g_2 with ⟨a', m, e'⟩ | ⟨a', b', m, e'⟩ | ⟨a', b', m, e'⟩
      · first | exact absurd a a' | exact absurd a' a | exact absurd b b' | exact absurd b' b | exact absurd b a' | exact absurd b' a | exact absurd a b' | exact absurd a' b | exact False.elim (b.elim b' (fun z => z d')) | exact False.elim (b'.elim b (fun z => z d))
      · first | exact absurd a a' | exact absurd a' a | exact absurd b b' | exact absurd b' b | exact absurd b a' | exact absurd b' a | exact absurd a b' | exact absurd a' b | exact False.elim (b.elim b' (fun z => z d')) | exact False.elim (b'.elim b (fun z => z d))
      · exact ⟨_, _, CW_kp y (fun k hk => hm_2 k (Or.inl hk)), m, PS_rs ps (byt_unR _ (byt_objKey _ _ _ _ _) ps.1 ps.2.1), e, fun z => (ha_1 z).trans (congrArg Int32.toInt64 e'.symm)⟩
  clear ps
  have ps := ps9
  refine r_istore C dL_law_589 (L' := [some (.ref 910), some (.ref 0), some (.ref 35), some (.ref 59), some (.int (nI (6 * i))), some (.int r1), some (.int r2)]) (by decide) rfl ?_
  refine r_aload_n C dL_law_591 rfl ?_
  obtain ⟨fs_3, q_3⟩ := MW_r35 mw_29
  refine r_callVi C (As := []) (rest := []) dL_law_592 (mX6_thrown9 mw_29) okX6_thrown mlRL_56 imX6_thrown seX6_thrown ⟨by decide, by decide⟩ rfl rfl (Nat.le_of_ble_eq_true rfl) q_3 rfl rfl (Nat.le_of_ble_eq_true rfl) (by show _ ≤ 600128; omega) (by show _ ≤ 7301098; omega) (fun r3 w3 h9 => ?_)
  obtain ⟨e9, e_3⟩ := h9
  subst e9
  refine r_iload C dL_law_595 rfl ?_
  refine r_icmp_eq C 602 dL_law_597 (by decide) (fun c_597 => ?_) (fun c_597 => ?_)
  · skip
    refine r_iload C dL_law_602 rfl ?_
    refine r_if_ne C 619 dL_law_604 (by decide) (fun c_604 => ?_) (fun c_604 => ?_)
    · skip
      refine r_goto C 826 dL_law_619 (by decide) ?_
      refine r_forget (LwI i) ⟨Or.inr rfl, Or.inr rfl, Or.inr rfl, Or.inr rfl, Or.inr rfl, Or.inl rfl, Or.inl rfl, trivial⟩ ?_
      exact kk _ _ _ _ _ ⟨cw_2, mw_29, ps, _, w59_2⟩ (by omega) (by omega)
    · skip
      refine r_aload_n C dL_law_607 rfl ?_
      refine r_iconst C dL_law_608 (v := 0) (by decide) ?_
      refine r_lald C dL_law_609 (Nat.le_of_ble_eq_true rfl) w59_2 (j := 0) rfl (by decide) (by decide) ?_
      refine r_iload C dL_law_610 rfl ?_
      refine r_i2l C dL_law_612 ?_
      refine r_lcmp C dL_law_613 ?_
      refine r_if_eq C 619 dL_law_614 (by decide) (fun c_614 => ?_) (fun c_614 => ?_)
      · skip
        refine r_goto C 826 dL_law_619 (by decide) ?_
        refine r_forget (LwI i) ⟨Or.inr rfl, Or.inr rfl, Or.inr rfl, Or.inr rfl, Or.inr rfl, Or.inl rfl, Or.inl rfl, trivial⟩ ?_
        exact kk _ _ _ _ _ ⟨cw_2, mw_29, ps, _, w59_2⟩ (by omega) (by omega)
      · skip
        exact absurd (by rw [ea c_604]; exact lg_cmp_rf _) c_614
  · skip
    exact absurd (e_3.trans er.symm) c_597
set_option maxHeartbeats 4000000 in
set_option maxRecDepth 100000 in
theorem law_seal {g : Ge} {ct : Ct} {k n i b L9 : Nat} {xv : Nat → Int32} {w : Wo} {fa : Int32} {xs rs : List Nat} {rv : Int32} {ln : Nat} {pm lo : Int32} {ow us nb op up kn : List Nat} {fl : Nat → Int64} (C : Cx g mL_law ct) (B : Lx b L9 xv g ct) (hi : 6 * i + 6 ≤ L9) (h384 : L9 ≤ 384) (hk : k ≤ 500000) (hn : n ≤ 7000000) (cw : CW (xs, rs, rv, ln, pm, lo, ow, us, nb, op, up, kn) w) (mw : MW fa (xs, rs, rv, ln, pm, lo, ow, us, nb, op, up, kn) w) (ps : PSok (xs, rs, rv, ln, pm, lo, ow, us, nb, op, up, kn)) (w59 : w 59 = la 1 fl) (kk : Kx9 g ct k n i) : Az g mL_law ct k n 622 (LwI i) [] w := by
  refine r_aload_n C dL_law_622 rfl ?_
  refine r_aload_n C dL_law_623 rfl ?_
  refine r_iload C dL_law_624 rfl ?_
  refine r_iconst C dL_law_626 (v := 1) (by decide) ?_
  refine r_iadd C dL_law_627 ?_
  refine r_top (y := nI ((6 * i) + 1)) (nI_add (6 * i) 1) ?_
  refine r_sld C B dL_law_628 (j := (6 * i) + 1) (by omega) (by omega) ?_
  refine r_aload_n C dL_law_629 rfl ?_
  refine r_iload C dL_law_630 rfl ?_
  refine r_iconst C dL_law_632 (v := 2) (by decide) ?_
  refine r_iadd C dL_law_633 ?_
  refine r_top (y := nI ((6 * i) + 2)) (nI_add (6 * i) 2) ?_
  refine r_sld C B dL_law_634 (j := (6 * i) + 2) (by omega) (by omega) ?_
  refine r_aload_n C dL_law_635 rfl ?_
  refine r_iload C dL_law_636 rfl ?_
  refine r_iconst C dL_law_638 (v := 3) (by decide) ?_
  refine r_iadd C dL_law_639 ?_
  refine r_top (y := nI ((6 * i) + 3)) (nI_add (6 * i) 3) ?_
  refine r_sld C B dL_law_640 (j := (6 * i) + 3) (by omega) (by omega) ?_
  refine r_aload_n C dL_law_641 rfl ?_
  refine r_iload C dL_law_642 rfl ?_
  refine r_iconst C dL_law_644 (v := 4) (by decide) ?_
  refine r_iadd C dL_law_645 ?_
  refine r_top (y := nI ((6 * i) + 4)) (nI_add (6 * i) 4) ?_
  refine r_sld C B dL_law_646 (j := (6 * i) + 4) (by omega) (by omega) ?_
  refine r_aload_n C dL_law_647 rfl ?_
  refine r_iload C dL_law_648 rfl ?_
  refine r_iconst C dL_law_650 (v := 5) (by decide) ?_
  refine r_iadd C dL_law_651 ?_
  refine r_top (y := nI ((6 * i) + 5)) (nI_add (6 * i) 5) ?_
  refine r_sld C B dL_law_652 (j := (6 * i) + 5) (by omega) (by omega) ?_
  refine r_aload_n C dL_law_653 rfl ?_
  refine r_callH C B.h0 (As := [.ref 0, .int (xv ((6 * i) + 1)), .int (xv ((6 * i) + 2)), .int (xv ((6 * i) + 3)), .int (xv ((6 * i) + 4)), .int (xv ((6 * i) + 5)), .ref 59]) (rest := []) dL_law_654 (hL_seal9 cw ps w59 (nu := xv ((6 * i) + 1)) (ge := xv ((6 * i) + 2)) (me := xv ((6 * i) + 3)) (one := xv ((6 * i) + 4)) (two := xv ((6 * i) + 5))) okL_seal mlRL_91 stL_seal ⟨by decide, by decide⟩ rfl rfl (Nat.le_of_ble_eq_true rfl) (by show _ ≤ 600128; omega) (by show _ ≤ 7301098; omega) (fun r1 w1 h9 => ?_)
  obtain ⟨h_1, hf_1, f_1, w59_1, ha_1⟩ := h9
  have mw_1 := MW_kp mw (fun k h1 h2 => hf_1 k h1 (Nat.ne_of_lt h2))
  refine r_istore C dL_law_657 (L' := [some (.ref 910), some (.ref 0), some (.ref 35), some (.ref 59), some (.int (nI (6 * i))), some (.int r1), none]) (by decide) rfl ?_
  refine r_aload_n C dL_law_659 rfl ?_
  refine r_aload_n C dL_law_660 rfl ?_
  refine r_iload C dL_law_661 rfl ?_
  refine r_iconst C dL_law_663 (v := 1) (by decide) ?_
  refine r_iadd C dL_law_664 ?_
  refine r_top (y := nI ((6 * i) + 1)) (nI_add (6 * i) 1) ?_
  refine r_sld C B dL_law_665 (j := (6 * i) + 1) (by omega) (by omega) ?_
  refine r_aload_n C dL_law_666 rfl ?_
  refine r_iload C dL_law_667 rfl ?_
  refine r_iconst C dL_law_669 (v := 2) (by decide) ?_
  refine r_iadd C dL_law_670 ?_
  refine r_top (y := nI ((6 * i) + 2)) (nI_add (6 * i) 2) ?_
  refine r_sld C B dL_law_671 (j := (6 * i) + 2) (by omega) (by omega) ?_
  refine r_aload_n C dL_law_672 rfl ?_
  refine r_iload C dL_law_673 rfl ?_
  refine r_iconst C dL_law_675 (v := 3) (by decide) ?_
  refine r_iadd C dL_law_676 ?_
  refine r_top (y := nI ((6 * i) + 3)) (nI_add (6 * i) 3) ?_
  refine r_sld C B dL_law_677 (j := (6 * i) + 3) (by omega) (by omega) ?_
  refine r_aload_n C dL_law_678 rfl ?_
  refine r_iload C dL_law_679 rfl ?_
  refine r_iconst C dL_law_681 (v := 4) (by decide) ?_
  refine r_iadd C dL_law_682 ?_
  refine r_top (y := nI ((6 * i) + 4)) (nI_add (6 * i) 4) ?_
  refine r_sld C B dL_law_683 (j := (6 * i) + 4) (by omega) (by omega) ?_
  refine r_aload_n C dL_law_684 rfl ?_
  refine r_iload C dL_law_685 rfl ?_
  refine r_iconst C dL_law_687 (v := 5) (by decide) ?_
  refine r_iadd C dL_law_688 ?_
  refine r_top (y := nI ((6 * i) + 5)) (nI_add (6 * i) 5) ?_
  refine r_sld C B dL_law_689 (j := (6 * i) + 5) (by omega) (by omega) ?_
  obtain ⟨fs_2, q_2⟩ := MW_r35 mw_1
  refine r_callVi C (As := [.int (xv ((6 * i) + 1)), .int (xv ((6 * i) + 2)), .int (xv ((6 * i) + 3)), .int (xv ((6 * i) + 4)), .int (xv ((6 * i) + 5))]) (rest := []) dL_law_690 (mX6_seal9 mw_1 ps) okX6_seal mlRL_94 imX6_seal seX6_seal ⟨by decide, by decide⟩ rfl rfl (Nat.le_of_ble_eq_true rfl) q_2 rfl rfl (Nat.le_of_ble_eq_true rfl) (by show _ ≤ 600128; omega) (by show _ ≤ 7301098; omega) (fun r2 w2 h9 => ?_)
  obtain ⟨g_2, hm_2⟩ := h9
  have w59_2 := (hm_2 59 (Or.inr (by decide))).trans w59_1
  obtain ⟨S9, fa9, cw_2, mw_29, ps9, er, ea⟩ : ∃ (S' : SK) (fa' : Int32), CW S' w2 ∧ MW fa' S' w2 ∧ PSok S' ∧ r1 = fa' ∧ (r1 = 0 → f_1 0 = r2.toInt64) := by
    rcases h_1 with ⟨a, e, y⟩ | ⟨a, b, e, y⟩ | ⟨a, b, d, e, y⟩
    · rcases g_2 with ⟨a', m, e'⟩ | ⟨a', b', m, e'⟩ | ⟨a', b', d', m, e'⟩
      · exact ⟨_, _, CW_kp y (fun k hk => hm_2 k (Or.inl hk)), m, ps, e, fun z => absurd (e.symm.trans z) (by decide)⟩
      · first | exact absurd a a' | exact absurd a' a | exact absurd b b' | exact absurd b' b | exact absurd b a' | exact absurd b' a | exact absurd a b' | exact absurd a' b | exact False.elim (b.elim b' (fun z => z d')) | exact False.elim (b'.elim b (fun z => z d))
      · first | exact absurd a a' | exact absurd a' a | exact absurd b b' | exact absurd b' b | exact absurd b a' | exact absurd b' a | exact absurd a b' | exact absurd a' b | exact False.elim (b.elim b' (fun z => z d')) | exact False.elim (b'.elim b (fun z => z d))
    · rcases g_2 with ⟨a', m, e'⟩ | ⟨a', b', m, e'⟩ | ⟨a', b', d', m, e'⟩
      · first | exact absurd a a' | exact absurd a' a | exact absurd b b' | exact absurd b' b | exact absurd b a' | exact absurd b' a | exact absurd a b' | exact absurd a' b | exact False.elim (b.elim b' (fun z => z d')) | exact False.elim (b'.elim b (fun z => z d))
      · exact ⟨_, _, CW_kp y (fun k hk => hm_2 k (Or.inl hk)), m, ps, e, fun z => absurd (e.symm.trans z) (by decide)⟩
      · first | exact absurd a a' | exact absurd a' a | exact absurd b b' | exact absurd b' b | exact absurd b a' | exact absurd b' a | exact absurd a b' | exact absurd a' b | exact False.elim (b.elim b' (fun z => z d')) | exact False.elim (b'.elim b (fun z => z d))
    · rcases g_2 with ⟨a', m, e'⟩ | ⟨a', b', m, e'⟩ | ⟨a', b', d', m, e'⟩
      · first | exact absurd a a' | exact absurd a' a | exact absurd b b' | exact absurd b' b | exact absurd b a' | exact absurd b' a | exact absurd a b' | exact absurd a' b | exact False.elim (b.elim b' (fun z => z d')) | exact False.elim (b'.elim b (fun z => z d))
      · first | exact absurd a a' | exact absurd a' a | exact absurd b b' | exact absurd b' b | exact absurd b a' | exact absurd b' a | exact absurd a b' | exact absurd a' b | exact False.elim (b.elim b' (fun z => z d')) | exact False.elim (b'.elim b (fun z => z d))
      · exact ⟨_, _, CW_kp y (fun k hk => hm_2 k (Or.inl hk)), m, PS_rs ps (byt_seR _ (byt_objKey _ _ _ _ _) ps.1 _ _), e, fun z => (ha_1 z).trans (congrArg Int32.toInt64 e'.symm)⟩
  clear ps
  have ps := ps9
  refine r_istore C dL_law_693 (L' := [some (.ref 910), some (.ref 0), some (.ref 35), some (.ref 59), some (.int (nI (6 * i))), some (.int r1), some (.int r2)]) (by decide) rfl ?_
  refine r_aload_n C dL_law_695 rfl ?_
  obtain ⟨fs_3, q_3⟩ := MW_r35 mw_29
  refine r_callVi C (As := []) (rest := []) dL_law_696 (mX6_thrown9 mw_29) okX6_thrown mlRL_56 imX6_thrown seX6_thrown ⟨by decide, by decide⟩ rfl rfl (Nat.le_of_ble_eq_true rfl) q_3 rfl rfl (Nat.le_of_ble_eq_true rfl) (by show _ ≤ 600128; omega) (by show _ ≤ 7301098; omega) (fun r3 w3 h9 => ?_)
  obtain ⟨e9, e_3⟩ := h9
  subst e9
  refine r_iload C dL_law_699 rfl ?_
  refine r_icmp_eq C 706 dL_law_701 (by decide) (fun c_701 => ?_) (fun c_701 => ?_)
  · skip
    refine r_iload C dL_law_706 rfl ?_
    refine r_if_ne C 723 dL_law_708 (by decide) (fun c_708 => ?_) (fun c_708 => ?_)
    · skip
      refine r_goto C 826 dL_law_723 (by decide) ?_
      refine r_forget (LwI i) ⟨Or.inr rfl, Or.inr rfl, Or.inr rfl, Or.inr rfl, Or.inr rfl, Or.inl rfl, Or.inl rfl, trivial⟩ ?_
      exact kk _ _ _ _ _ ⟨cw_2, mw_29, ps, _, w59_2⟩ (by omega) (by omega)
    · skip
      refine r_aload_n C dL_law_711 rfl ?_
      refine r_iconst C dL_law_712 (v := 0) (by decide) ?_
      refine r_lald C dL_law_713 (Nat.le_of_ble_eq_true rfl) w59_2 (j := 0) rfl (by decide) (by decide) ?_
      refine r_iload C dL_law_714 rfl ?_
      refine r_i2l C dL_law_716 ?_
      refine r_lcmp C dL_law_717 ?_
      refine r_if_eq C 723 dL_law_718 (by decide) (fun c_718 => ?_) (fun c_718 => ?_)
      · skip
        refine r_goto C 826 dL_law_723 (by decide) ?_
        refine r_forget (LwI i) ⟨Or.inr rfl, Or.inr rfl, Or.inr rfl, Or.inr rfl, Or.inr rfl, Or.inl rfl, Or.inl rfl, trivial⟩ ?_
        exact kk _ _ _ _ _ ⟨cw_2, mw_29, ps, _, w59_2⟩ (by omega) (by omega)
      · skip
        exact absurd (by rw [ea c_708]; exact lg_cmp_rf _) c_718
  · skip
    exact absurd (e_3.trans er.symm) c_701
set_option maxHeartbeats 4000000 in
set_option maxRecDepth 100000 in
theorem law_count {g : Ge} {ct : Ct} {k n i b L9 : Nat} {xv : Nat → Int32} {w : Wo} {fa : Int32} {xs rs : List Nat} {rv : Int32} {ln : Nat} {pm lo : Int32} {ow us nb op up kn : List Nat} {fl : Nat → Int64} (C : Cx g mL_law ct) (B : Lx b L9 xv g ct) (hi : 6 * i + 6 ≤ L9) (h384 : L9 ≤ 384) (hk : k ≤ 500000) (hn : n ≤ 7000000) (cw : CW (xs, rs, rv, ln, pm, lo, ow, us, nb, op, up, kn) w) (mw : MW fa (xs, rs, rv, ln, pm, lo, ow, us, nb, op, up, kn) w) (ps : PSok (xs, rs, rv, ln, pm, lo, ow, us, nb, op, up, kn)) (w59 : w 59 = la 1 fl) (kk : Kx9 g ct k n i) : Az g mL_law ct k n 726 (LwI i) [] w := by
  refine r_aload_n C dL_law_726 rfl ?_
  refine r_aload_n C dL_law_727 rfl ?_
  refine r_iload C dL_law_728 rfl ?_
  refine r_iconst C dL_law_730 (v := 1) (by decide) ?_
  refine r_iadd C dL_law_731 ?_
  refine r_top (y := nI ((6 * i) + 1)) (nI_add (6 * i) 1) ?_
  refine r_sld C B dL_law_732 (j := (6 * i) + 1) (by omega) (by omega) ?_
  refine r_callVi C (As := [.int (xv ((6 * i) + 1))]) (rest := []) dL_law_733 (cX5_count9 cw ps) okX5_count mlRL_95 imX5_count seX5_count ⟨by decide, by decide⟩ rfl rfl (Nat.le_of_ble_eq_true rfl) (CW_r0 cw) rfl rfl (Nat.le_of_ble_eq_true rfl) (by show _ ≤ 600128; omega) (by show _ ≤ 7301098; omega) (fun r1 w1 h9 => ?_)
  obtain ⟨e9, e_1⟩ := h9
  subst e9
  refine r_aload_n C dL_law_736 rfl ?_
  refine r_aload_n C dL_law_737 rfl ?_
  refine r_iload C dL_law_738 rfl ?_
  refine r_iconst C dL_law_740 (v := 1) (by decide) ?_
  refine r_iadd C dL_law_741 ?_
  refine r_top (y := nI ((6 * i) + 1)) (nI_add (6 * i) 1) ?_
  refine r_sld C B dL_law_742 (j := (6 * i) + 1) (by omega) (by omega) ?_
  obtain ⟨fs_2, q_2⟩ := MW_r35 mw
  refine r_callVi C (As := [.int (xv ((6 * i) + 1))]) (rest := [.int r1]) dL_law_743 (mX6_count9 mw ps) okX6_count mlRL_98 imX6_count seX6_count ⟨by decide, by decide⟩ rfl rfl (Nat.le_of_ble_eq_true rfl) q_2 rfl rfl (Nat.le_of_ble_eq_true rfl) (by show _ ≤ 600128; omega) (by show _ ≤ 7301098; omega) (fun r2 w2 h9 => ?_)
  obtain ⟨mw_2, hm_2, e_2⟩ := h9
  have cw_2 := CW_kp cw (fun k hk => hm_2 k (Or.inl hk))
  have w59_2 := (hm_2 59 (Or.inr (by decide))).trans w59
  refine r_icmp_eq C 826 dL_law_746 (by decide) (fun c_746 => ?_) (fun c_746 => ?_)
  · skip
    exact kk _ _ _ _ _ ⟨cw_2, mw_2, ps, _, w59_2⟩ (by omega) (by omega)
  · skip
    exact absurd (e_1.trans e_2.symm) c_746
set_option maxHeartbeats 4000000 in
set_option maxRecDepth 100000 in
theorem law_at {g : Ge} {ct : Ct} {k n i b L9 : Nat} {xv : Nat → Int32} {w : Wo} {fa : Int32} {xs rs : List Nat} {rv : Int32} {ln : Nat} {pm lo : Int32} {ow us nb op up kn : List Nat} {fl : Nat → Int64} (C : Cx g mL_law ct) (B : Lx b L9 xv g ct) (hi : 6 * i + 6 ≤ L9) (h384 : L9 ≤ 384) (hk : k ≤ 500000) (hn : n ≤ 7000000) (cw : CW (xs, rs, rv, ln, pm, lo, ow, us, nb, op, up, kn) w) (mw : MW fa (xs, rs, rv, ln, pm, lo, ow, us, nb, op, up, kn) w) (ps : PSok (xs, rs, rv, ln, pm, lo, ow, us, nb, op, up, kn)) (w59 : w 59 = la 1 fl) (kk : Kx9 g ct k n i) : Az g mL_law ct k n 751 (LwI i) [] w := by
  refine r_aload_n C dL_law_751 rfl ?_
  refine r_aload_n C dL_law_752 rfl ?_
  refine r_iload C dL_law_753 rfl ?_
  refine r_iconst C dL_law_755 (v := 1) (by decide) ?_
  refine r_iadd C dL_law_756 ?_
  refine r_top (y := nI ((6 * i) + 1)) (nI_add (6 * i) 1) ?_
  refine r_sld C B dL_law_757 (j := (6 * i) + 1) (by omega) (by omega) ?_
  refine r_callVi C (As := [.int (xv ((6 * i) + 1))]) (rest := []) dL_law_758 (cX5_at9 cw ps) okX5_at mlRL_99 imX5_at seX5_at ⟨by decide, by decide⟩ rfl rfl (Nat.le_of_ble_eq_true rfl) (CW_r0 cw) rfl rfl (Nat.le_of_ble_eq_true rfl) (by show _ ≤ 600128; omega) (by show _ ≤ 7301098; omega) (fun r1 w1 h9 => ?_)
  obtain ⟨e9, e_1⟩ := h9
  subst e9
  refine r_aload_n C dL_law_761 rfl ?_
  refine r_aload_n C dL_law_762 rfl ?_
  refine r_iload C dL_law_763 rfl ?_
  refine r_iconst C dL_law_765 (v := 1) (by decide) ?_
  refine r_iadd C dL_law_766 ?_
  refine r_top (y := nI ((6 * i) + 1)) (nI_add (6 * i) 1) ?_
  refine r_sld C B dL_law_767 (j := (6 * i) + 1) (by omega) (by omega) ?_
  obtain ⟨fs_2, q_2⟩ := MW_r35 mw
  refine r_callVi C (As := [.int (xv ((6 * i) + 1))]) (rest := [.int r1]) dL_law_768 (mX6_at9 mw ps) okX6_at mlRL_102 imX6_at seX6_at ⟨by decide, by decide⟩ rfl rfl (Nat.le_of_ble_eq_true rfl) q_2 rfl rfl (Nat.le_of_ble_eq_true rfl) (by show _ ≤ 600128; omega) (by show _ ≤ 7301098; omega) (fun r2 w2 h9 => ?_)
  obtain ⟨mw_2, hm_2, e_2⟩ := h9
  have cw_2 := CW_kp cw (fun k hk => hm_2 k (Or.inl hk))
  have w59_2 := (hm_2 59 (Or.inr (by decide))).trans w59
  refine r_icmp_eq C 826 dL_law_771 (by decide) (fun c_771 => ?_) (fun c_771 => ?_)
  · skip
    exact kk _ _ _ _ _ ⟨cw_2, mw_2, ps, _, w59_2⟩ (by omega) (by omega)
  · skip
    exact absurd (e_1.trans e_2.symm) c_771
set_option maxHeartbeats 4000000 in
set_option maxRecDepth 100000 in
theorem law_entry {g : Ge} {ct : Ct} {k n i b L9 : Nat} {xv : Nat → Int32} {w : Wo} {fa : Int32} {xs rs : List Nat} {rv : Int32} {ln : Nat} {pm lo : Int32} {ow us nb op up kn : List Nat} {fl : Nat → Int64} (C : Cx g mL_law ct) (B : Lx b L9 xv g ct) (hi : 6 * i + 6 ≤ L9) (h384 : L9 ≤ 384) (hk : k ≤ 500000) (hn : n ≤ 7000000) (cw : CW (xs, rs, rv, ln, pm, lo, ow, us, nb, op, up, kn) w) (mw : MW fa (xs, rs, rv, ln, pm, lo, ow, us, nb, op, up, kn) w) (ps : PSok (xs, rs, rv, ln, pm, lo, ow, us, nb, op, up, kn)) (w59 : w 59 = la 1 fl) (kk : Kx9 g ct k n i) : Az g mL_law ct k n 776 (LwI i) [] w := by
  refine r_aload_n C dL_law_776 rfl ?_
  refine r_aload_n C dL_law_777 rfl ?_
  refine r_iload C dL_law_778 rfl ?_
  refine r_iconst C dL_law_780 (v := 1) (by decide) ?_
  refine r_iadd C dL_law_781 ?_
  refine r_top (y := nI ((6 * i) + 1)) (nI_add (6 * i) 1) ?_
  refine r_sld C B dL_law_782 (j := (6 * i) + 1) (by omega) (by omega) ?_
  refine r_aload_n C dL_law_783 rfl ?_
  refine r_iload C dL_law_784 rfl ?_
  refine r_iconst C dL_law_786 (v := 2) (by decide) ?_
  refine r_iadd C dL_law_787 ?_
  refine r_top (y := nI ((6 * i) + 2)) (nI_add (6 * i) 2) ?_
  refine r_sld C B dL_law_788 (j := (6 * i) + 2) (by omega) (by omega) ?_
  refine r_callVi C (As := [.int (xv ((6 * i) + 1)), .int (xv ((6 * i) + 2))]) (rest := []) dL_law_789 (cX5_entry9 cw ps) okX5_entry mlRL_103 imX5_entry seX5_entry ⟨by decide, by decide⟩ rfl rfl (Nat.le_of_ble_eq_true rfl) (CW_r0 cw) rfl rfl (Nat.le_of_ble_eq_true rfl) (by show _ ≤ 600128; omega) (by show _ ≤ 7301098; omega) (fun r1 w1 h9 => ?_)
  obtain ⟨e9, e_1⟩ := h9
  subst e9
  refine r_aload_n C dL_law_792 rfl ?_
  refine r_aload_n C dL_law_793 rfl ?_
  refine r_iload C dL_law_794 rfl ?_
  refine r_iconst C dL_law_796 (v := 1) (by decide) ?_
  refine r_iadd C dL_law_797 ?_
  refine r_top (y := nI ((6 * i) + 1)) (nI_add (6 * i) 1) ?_
  refine r_sld C B dL_law_798 (j := (6 * i) + 1) (by omega) (by omega) ?_
  refine r_aload_n C dL_law_799 rfl ?_
  refine r_iload C dL_law_800 rfl ?_
  refine r_iconst C dL_law_802 (v := 2) (by decide) ?_
  refine r_iadd C dL_law_803 ?_
  refine r_top (y := nI ((6 * i) + 2)) (nI_add (6 * i) 2) ?_
  refine r_sld C B dL_law_804 (j := (6 * i) + 2) (by omega) (by omega) ?_
  obtain ⟨fs_2, q_2⟩ := MW_r35 mw
  refine r_callVi C (As := [.int (xv ((6 * i) + 1)), .int (xv ((6 * i) + 2))]) (rest := [.int r1]) dL_law_805 (mX6_entry9 mw ps) okX6_entry mlRL_106 imX6_entry seX6_entry ⟨by decide, by decide⟩ rfl rfl (Nat.le_of_ble_eq_true rfl) q_2 rfl rfl (Nat.le_of_ble_eq_true rfl) (by show _ ≤ 600128; omega) (by show _ ≤ 7301098; omega) (fun r2 w2 h9 => ?_)
  obtain ⟨mw_2, hm_2, e_2⟩ := h9
  have cw_2 := CW_kp cw (fun k hk => hm_2 k (Or.inl hk))
  have w59_2 := (hm_2 59 (Or.inr (by decide))).trans w59
  refine r_icmp_eq C 826 dL_law_808 (by decide) (fun c_808 => ?_) (fun c_808 => ?_)
  · skip
    exact kk _ _ _ _ _ ⟨cw_2, mw_2, ps, _, w59_2⟩ (by omega) (by omega)
  · skip
    exact absurd (e_1.trans e_2.symm) c_808
set_option maxHeartbeats 4000000 in
set_option maxRecDepth 100000 in
theorem law_keep {g : Ge} {ct : Ct} {k n i b L9 : Nat} {xv : Nat → Int32} {w : Wo} {fa : Int32} {xs rs : List Nat} {rv : Int32} {ln : Nat} {pm lo : Int32} {ow us nb op up kn : List Nat} {fl : Nat → Int64} (C : Cx g mL_law ct) (B : Lx b L9 xv g ct) (hi : 6 * i + 6 ≤ L9) (h384 : L9 ≤ 384) (hk : k ≤ 500000) (hn : n ≤ 7000000) (cw : CW (xs, rs, rv, ln, pm, lo, ow, us, nb, op, up, kn) w) (mw : MW fa (xs, rs, rv, ln, pm, lo, ow, us, nb, op, up, kn) w) (ps : PSok (xs, rs, rv, ln, pm, lo, ow, us, nb, op, up, kn)) (w59 : w 59 = la 1 fl) (kk : Kx9 g ct k n i) : Az g mL_law ct k n 813 (LwI i) [] w := by
  refine r_aload_n C dL_law_813 rfl ?_
  refine r_callVi C (As := []) (rest := []) dL_law_814 (cX5_keep9 cw ps) okX5_keep mlRL_107 imX5_keep seX5_keep ⟨by decide, by decide⟩ rfl rfl (Nat.le_of_ble_eq_true rfl) (CW_r0 cw) rfl rfl (Nat.le_of_ble_eq_true rfl) (by show _ ≤ 600128; omega) (by show _ ≤ 7301098; omega) (fun r1 w1 h9 => ?_)
  obtain ⟨cw_1, hf_1, e_1⟩ := h9
  have mw_1 := MW_kp mw (fun k h1 h2 => hf_1 k h1)
  have w59_1 := (hf_1 59 (by decide)).trans w59
  refine r_aload_n C dL_law_817 rfl ?_
  obtain ⟨fs_2, q_2⟩ := MW_r35 mw_1
  refine r_callVi C (As := []) (rest := [.int r1]) dL_law_818 (mX6_keep9 mw_1 ps) okX6_keep mlRL_110 imX6_keep seX6_keep ⟨by decide, by decide⟩ rfl rfl (Nat.le_of_ble_eq_true rfl) q_2 rfl rfl (Nat.le_of_ble_eq_true rfl) (by show _ ≤ 600128; omega) (by show _ ≤ 7301098; omega) (fun r2 w2 h9 => ?_)
  obtain ⟨mw_2, hm_2, e_2⟩ := h9
  have cw_2 := CW_kp cw_1 (fun k hk => hm_2 k (Or.inl hk))
  have w59_2 := (hm_2 59 (Or.inr (by decide))).trans w59_1
  refine r_icmp_eq C 826 dL_law_821 (by decide) (fun c_821 => ?_) (fun c_821 => ?_)
  · skip
    exact kk _ _ _ _ _ ⟨cw_2, mw_2, PS_keep ps, _, w59_2⟩ (by omega) (by omega)
  · skip
    exact absurd (e_1.trans e_2.symm) c_821
