/-- all but the class's own cells and the law's array stay -/
def fr9 (w w' : Wo) : Prop := ∀ k, 35 ≤ k → k ≠ 59 → w' k = w k
theorem putO_x {xs : List Nat} {a b : Int32} (h : ¬ (putO xs a b).1 = 0) : (putO xs a b).2.2 = xs := by
  unfold putO at h ⊢
  split
  · rfl
  · split
    · rfl
    · rename_i h1 h2
      rw [if_neg h1, if_neg h2] at h
      exact absurd rfl h
theorem cutO_x {xs : List Nat} {a : Int32} (h : ¬ (cutO xs a).1 = 0) : (cutO xs a).2.2 = xs := by
  unfold cutO at h ⊢
  split
  · rfl
  · rename_i h1
    rw [if_neg h1] at h
    exact absurd rfl h
theorem clRL_13 : Cond.classLink RL 13 "java/lang/IndexOutOfBoundsException" ∈ tb_ := mem_tb 383 (by decide +kernel) rfl
theorem clRL_15 : Cond.classLink RL 15 "java/lang/IllegalArgumentException" ∈ tb_ := mem_tb 384 (by decide +kernel) rfl
theorem clRL_28 : Cond.classLink RL 28 "java/lang/IllegalStateException" ∈ tb_ := mem_tb 495 (by decide +kernel) rfl
abbrev hhL_put : List (Nat × Nat × Nat × Nat) := [(0, 10, 13, 13), (0, 10, 17, 15)]
abbrev mL_put : Mi := (yL_put, cL_put, 5, (some .int), 4, { frames := 7, cells := 1, slots := 6, locals := 113 })
theorem okL_put : MiOkH mL_put hhL_put := ⟨by decide +kernel, mem_tb 382 (by decide +kernel) rfl, mem_tb 51 (by decide +kernel) rfl, by decide +kernel, rfl, rfl⟩
theorem stL_put : Cond.static yL_put ∈ tb_ := mem_tb 381 (by decide +kernel) rfl
theorem mlRL_7 : Cond.methodLink RL 7 yX5_put ∈ tb_ := mem_tb 385 (by decide +kernel) rfl
abbrev hhL_cut : List (Nat × Nat × Nat × Nat) := [(0, 9, 12, 15)]
abbrev mL_cut : Mi := (yL_cut, cL_cut, 4, (some .int), 3, { frames := 7, cells := 1, slots := 6, locals := 112 })
theorem okL_cut : MiOkH mL_cut hhL_cut := ⟨by decide +kernel, mem_tb 475 (by decide +kernel) rfl, mem_tb 51 (by decide +kernel) rfl, by decide +kernel, rfl, rfl⟩
theorem stL_cut : Cond.static yL_cut ∈ tb_ := mem_tb 474 (by decide +kernel) rfl
theorem mlRL_17 : Cond.methodLink RL 17 yX5_cut ∈ tb_ := mem_tb 476 (by decide +kernel) rfl
abbrev hhL_handler : List (Nat × Nat × Nat × Nat) := [(0, 9, 12, 15)]
abbrev mL_handler : Mi := (yL_handler, cL_handler, 6, (some .int), 5, { frames := 7, cells := 1, slots := 6, locals := 114 })
theorem okL_handler : MiOkH mL_handler hhL_handler := ⟨by decide +kernel, mem_tb 484 (by decide +kernel) rfl, mem_tb 51 (by decide +kernel) rfl, by decide +kernel, rfl, rfl⟩
theorem stL_handler : Cond.static yL_handler ∈ tb_ := mem_tb 483 (by decide +kernel) rfl
theorem mlRL_21 : Cond.methodLink RL 21 yX5_handler ∈ tb_ := mem_tb 485 (by decide +kernel) rfl
abbrev hhL_take : List (Nat × Nat × Nat × Nat) := [(0, 9, 12, 15), (0, 9, 15, 28)]
abbrev mL_take : Mi := (yL_take, cL_take, 4, (some .int), 3, { frames := 7, cells := 1, slots := 6, locals := 113 })
theorem okL_take : MiOkH mL_take hhL_take := ⟨by decide +kernel, mem_tb 494 (by decide +kernel) rfl, mem_tb 51 (by decide +kernel) rfl, by decide +kernel, rfl, rfl⟩
theorem stL_take : Cond.static yL_take ∈ tb_ := mem_tb 493 (by decide +kernel) rfl
theorem mlRL_25 : Cond.methodLink RL 25 yX5_take ∈ tb_ := mem_tb 496 (by decide +kernel) rfl
abbrev hhL_enter : List (Nat × Nat × Nat × Nat) := [(0, 5, 8, 15)]
abbrev mL_enter : Mi := (yL_enter, cL_enter, 3, (some .int), 2, { frames := 7, cells := 1, slots := 6, locals := 138 })
theorem okL_enter : MiOkH mL_enter hhL_enter := ⟨by decide +kernel, mem_tb 523 (by decide +kernel) rfl, mem_tb 51 (by decide +kernel) rfl, by decide +kernel, rfl, rfl⟩
theorem stL_enter : Cond.static yL_enter ∈ tb_ := mem_tb 522 (by decide +kernel) rfl
theorem mlRL_30 : Cond.methodLink RL 30 yX5_enter ∈ tb_ := mem_tb 524 (by decide +kernel) rfl
abbrev hhL_undo : List (Nat × Nat × Nat × Nat) := [(0, 12, 15, 15), (0, 12, 19, 28)]
abbrev mL_undo : Mi := (yL_undo, cL_undo, 6, (some .int), 5, { frames := 7, cells := 1, slots := 6, locals := 161 })
theorem okL_undo : MiOkH mL_undo hhL_undo := ⟨by decide +kernel, mem_tb 539 (by decide +kernel) rfl, mem_tb 51 (by decide +kernel) rfl, by decide +kernel, rfl, rfl⟩
theorem stL_undo : Cond.static yL_undo ∈ tb_ := mem_tb 538 (by decide +kernel) rfl
theorem mlRL_34 : Cond.methodLink RL 34 yX5_undo ∈ tb_ := mem_tb 540 (by decide +kernel) rfl
abbrev hhL_seal : List (Nat × Nat × Nat × Nat) := [(0, 16, 19, 15), (0, 16, 23, 28)]
abbrev mL_seal : Mi := (yL_seal, cL_seal, 8, (some .int), 7, { frames := 7, cells := 1, slots := 6, locals := 158 })
theorem okL_seal : MiOkH mL_seal hhL_seal := ⟨by decide +kernel, mem_tb 619 (by decide +kernel) rfl, mem_tb 51 (by decide +kernel) rfl, by decide +kernel, rfl, rfl⟩
theorem stL_seal : Cond.static yL_seal ∈ tb_ := mem_tb 618 (by decide +kernel) rfl
theorem mlRL_38 : Cond.methodLink RL 38 yX5_seal ∈ tb_ := mem_tb 620 (by decide +kernel) rfl
theorem CW_keep {w w' : Wo} {xs : List Nat} {rs : List Nat} {rv : Int32} {ln : Nat} {pm : Int32} {lo : Int32} {ow : List Nat} {us : List Nat} {nb : List Nat} {op : List Nat} {up : List Nat} {kn : List Nat} (cw : CW (xs, rs, rv, ln, pm, lo, ow, us, nb, op, up, kn) w) (h : ∀ k, k < 35 → w' k = w k) : CW (xs, rs, rv, ln, pm, lo, ow, us, nb, op, up, kn) w' := by
  refine CW_open cw (fun f2 f4 f7 f9 f11 f13 f15 f17 f28 f30 f32 f34 gl tl ml ul sA sB sC sD fw ftb SB K B fe w_0 w_5 w_1 w_2 h_xs k_xs w_3 w_4 h_rs k_rs w_6 w_7 h_ow k_ow w_8 w_9 h_us k_us w_10 w_11 h_nb k_nb w_12 w_13 h_op k_op w_14 w_15 h_up k_up w_16 w_17 h_kn k_kn w_27 w_28 h_gl k_gl w_29 w_30 h_tl k_tl w_31 w_32 h_ml k_ml w_33 w_34 h_ul k_ul w_18 w_19 w_20 w_21 w_22 w_23 hsb w_24 w_25 w_26 => ?_)
  exact CW_mk ((h 0 (by decide)).trans w_0) ((h 5 (by decide)).trans w_5) ((h 1 (by decide)).trans w_1) ((h 2 (by decide)).trans w_2) h_xs k_xs ((h 3 (by decide)).trans w_3) ((h 4 (by decide)).trans w_4) h_rs k_rs ((h 6 (by decide)).trans w_6) ((h 7 (by decide)).trans w_7) h_ow k_ow ((h 8 (by decide)).trans w_8) ((h 9 (by decide)).trans w_9) h_us k_us ((h 10 (by decide)).trans w_10) ((h 11 (by decide)).trans w_11) h_nb k_nb ((h 12 (by decide)).trans w_12) ((h 13 (by decide)).trans w_13) h_op k_op ((h 14 (by decide)).trans w_14) ((h 15 (by decide)).trans w_15) h_up k_up ((h 16 (by decide)).trans w_16) ((h 17 (by decide)).trans w_17) h_kn k_kn ((h 27 (by decide)).trans w_27) ((h 28 (by decide)).trans w_28) h_gl k_gl ((h 29 (by decide)).trans w_29) ((h 30 (by decide)).trans w_30) h_tl k_tl ((h 31 (by decide)).trans w_31) ((h 32 (by decide)).trans w_32) h_ml k_ml ((h 33 (by decide)).trans w_33) ((h 34 (by decide)).trans w_34) h_ul k_ul ((h 18 (by decide)).trans w_18) ((h 19 (by decide)).trans w_19) ((h 20 (by decide)).trans w_20) ((h 21 (by decide)).trans w_21) ((h 22 (by decide)).trans w_22) ((h 23 (by decide)).trans w_23) hsb ((h 24 (by decide)).trans w_24) ((h 25 (by decide)).trans w_25) ((h 26 (by decide)).trans w_26)
theorem CW_set59 {w : Wo} {c : Cel} {xs : List Nat} {rs : List Nat} {rv : Int32} {ln : Nat} {pm : Int32} {lo : Int32} {ow : List Nat} {us : List Nat} {nb : List Nat} {op : List Nat} {up : List Nat} {kn : List Nat} (cw : CW (xs, rs, rv, ln, pm, lo, ow, us, nb, op, up, kn) w) : CW (xs, rs, rv, ln, pm, lo, ow, us, nb, op, up, kn) (wset w 59 c) := CW_keep cw (fun k hk => ws_ne (by omega) rfl)
set_option maxHeartbeats 4000000 in
set_option maxRecDepth 100000 in
theorem hL_put9 {w : Wo} {xs rs : List Nat} {rv : Int32} {ln : Nat} {pm lo : Int32} {ow us nb op up kn : List Nat} (cw : CW (xs, rs, rv, ln, pm, lo, ow, us, nb, op, up, kn) w) (ps : PSok (xs, rs, rv, ln, pm, lo, ow, us, nb, op, up, kn)) {p1 p2 : Int32} {fl : Nat → Int64} (w_59 : w 59 = la 1 fl) : Htr mL_put hhL_put [.ref 0, .int p1, .int p2, .ref 59] w (PI fun r w' => (r = (putO xs p1 p2).1 ∧ CW ((putO xs p1 p2).2.2, rs, rv, ln, pm, lo, ow, us, nb, op, up, kn) w') ∧ fr9 w w' ∧ ∃ f', w' 59 = la 1 f' ∧ (r = 0 → f' 0 = ((putO xs p1 p2).2.1).toInt64)) := by
  refine Htr_intro okL_put rfl (Nat.le_of_ble_eq_true rfl) (L := [some (.ref 0), some (.int p1), some (.int p2), some (.ref 59), none]) rfl (fun g ct C T_ TB => ?_)
  refine r_aload_n C dL_put_0 rfl ?_
  refine r_iconst C dL_put_1 (v := 0) (by decide) ?_
  refine r_aload_n C dL_put_2 rfl ?_
  refine r_iload_n C dL_put_3 rfl ?_
  refine r_iload_n C dL_put_4 rfl ?_
  refine r_callXi C T_ (As := [.int p1, .int p2]) (rest := [.int 0, .ref 59]) dL_put_5 (cX5_put9 cw ps) okX5_put mlRL_7 imX5_put seX5_put ⟨by decide, by decide⟩ rfl rfl (Nat.le_of_ble_eq_true rfl) (CW_0 cw) rfl rfl (Nat.le_of_ble_eq_true rfl) (by decide) (by decide) (fun E w9 h9 => ?_) (fun r9 w9 h9 => ?_)
  · obtain ⟨rfl, h9⟩ := h9
    rcases h9 with ⟨rfl, h9⟩ | ⟨rfl, h9⟩
    · skip
      refine r_catch C T_ TB [] ⟨0, 10, 13, 13⟩ [⟨0, 10, 17, 15⟩] rfl (fun z hz => nomatch hz) rfl (by decide) clRL_13 (List.mem_of_getElem? (i := 0) rfl) dL_put_13 (by decide) (L' := [some (.ref 0), some (.int p1), some (.int p2), some (.ref 59), none]) rfl ?_
      refine r_iconst C dL_put_15 (v := 1) (by decide) ?_
      exact r_ireturnX C T_ (Nat.le_of_ble_eq_true rfl) (Nat.le_of_ble_eq_true rfl) rfl rfl dL_put_16 (⟨_, rfl, ⟨h9.symm, by rw [putO_x (by rw [h9]; decide)]; exact cw⟩, fun _ _ _ => rfl, fl, w_59, fun z => absurd z (by decide)⟩)
    · skip
      refine r_catch C T_ TB [⟨0, 10, 13, 13⟩] ⟨0, 10, 17, 15⟩ [] rfl (fun z hz => by rw [List.mem_singleton.mp hz]; exact ⟨by decide, _, clRL_13, List.mem_of_getElem? (i := 0) rfl⟩) rfl (by decide) clRL_15 (List.mem_of_getElem? (i := 1) rfl) dL_put_17 (by decide) (L' := [some (.ref 0), some (.int p1), some (.int p2), some (.ref 59), none]) rfl ?_
      refine r_iconst C dL_put_19 (v := 2) (by decide) ?_
      exact r_ireturnX C T_ (Nat.le_of_ble_eq_true rfl) (Nat.le_of_ble_eq_true rfl) rfl rfl dL_put_20 (⟨_, rfl, ⟨h9.symm, by rw [putO_x (by rw [h9]; decide)]; exact cw⟩, fun _ _ _ => rfl, fl, w_59, fun z => absurd z (by decide)⟩)
  · obtain ⟨h0, hc, hf, rfl⟩ := h9
    refine r_i2l C dL_put_8 ?_
    refine r_last C dL_put_9 (Nat.le_of_ble_eq_true rfl) ((hf 59 (by decide)).trans w_59) (j := 0) rfl (by decide) (by decide) ?_
    refine r_goto C 21 dL_put_10 (by decide) ?_
    refine r_iconst C dL_put_21 (v := 0) (by decide) ?_
    exact r_ireturnX C T_ (Nat.le_of_ble_eq_true rfl) (Nat.le_of_ble_eq_true rfl) rfl rfl dL_put_22 (⟨_, rfl, ⟨h0.symm, CW_set59 hc⟩, fun k h1 h2 => ws_ne h2 (hf k h1), _, ws_eq, fun _ => rfl⟩)
set_option maxHeartbeats 4000000 in
set_option maxRecDepth 100000 in
theorem hL_cut9 {w : Wo} {xs rs : List Nat} {rv : Int32} {ln : Nat} {pm lo : Int32} {ow us nb op up kn : List Nat} (cw : CW (xs, rs, rv, ln, pm, lo, ow, us, nb, op, up, kn) w) (ps : PSok (xs, rs, rv, ln, pm, lo, ow, us, nb, op, up, kn)) {p1 : Int32} {fl : Nat → Int64} (w_59 : w 59 = la 1 fl) : Htr mL_cut hhL_cut [.ref 0, .int p1, .ref 59] w (PI fun r w' => (r = (cutO xs p1).1 ∧ CW ((cutO xs p1).2.2, rs, rv, ln, pm, lo, ow, us, nb, op, up, kn) w') ∧ fr9 w w' ∧ ∃ f', w' 59 = la 1 f' ∧ (r = 0 → f' 0 = ((cutO xs p1).2.1).toInt64)) := by
  refine Htr_intro okL_cut rfl (Nat.le_of_ble_eq_true rfl) (L := [some (.ref 0), some (.int p1), some (.ref 59), none]) rfl (fun g ct C T_ TB => ?_)
  refine r_aload_n C dL_cut_0 rfl ?_
  refine r_iconst C dL_cut_1 (v := 0) (by decide) ?_
  refine r_aload_n C dL_cut_2 rfl ?_
  refine r_iload_n C dL_cut_3 rfl ?_
  refine r_callXi C T_ (As := [.int p1]) (rest := [.int 0, .ref 59]) dL_cut_4 (cX5_cut9 cw ps) okX5_cut mlRL_17 imX5_cut seX5_cut ⟨by decide, by decide⟩ rfl rfl (Nat.le_of_ble_eq_true rfl) (CW_0 cw) rfl rfl (Nat.le_of_ble_eq_true rfl) (by decide) (by decide) (fun E w9 h9 => ?_) (fun r9 w9 h9 => ?_)
  · obtain ⟨rfl, h9⟩ := h9
    obtain ⟨rfl, h9⟩ := h9
    refine r_catch_n C T_ TB [] ⟨0, 9, 12, 15⟩ [] rfl (fun z hz => nomatch hz) rfl (by decide) clRL_15 (List.mem_of_getElem? (i := 1) rfl) dL_cut_12 (by decide) (L' := [some (.ref 0), some (.int p1), some (.ref 59), none]) rfl ?_
    refine r_iconst C dL_cut_13 (v := 1) (by decide) ?_
    exact r_ireturnX C T_ (Nat.le_of_ble_eq_true rfl) (Nat.le_of_ble_eq_true rfl) rfl rfl dL_cut_14 (⟨_, rfl, ⟨h9.symm, by rw [cutO_x (by rw [h9]; decide)]; exact cw⟩, fun _ _ _ => rfl, fl, w_59, fun z => absurd z (by decide)⟩)
  · obtain ⟨h0, hc, hf, rfl⟩ := h9
    refine r_i2l C dL_cut_7 ?_
    refine r_last C dL_cut_8 (Nat.le_of_ble_eq_true rfl) ((hf 59 (by decide)).trans w_59) (j := 0) rfl (by decide) (by decide) ?_
    refine r_goto C 15 dL_cut_9 (by decide) ?_
    refine r_iconst C dL_cut_15 (v := 0) (by decide) ?_
    exact r_ireturnX C T_ (Nat.le_of_ble_eq_true rfl) (Nat.le_of_ble_eq_true rfl) rfl rfl dL_cut_16 (⟨_, rfl, ⟨h0.symm, CW_set59 hc⟩, fun k h1 h2 => ws_ne h2 (hf k h1), _, ws_eq, fun _ => rfl⟩)
set_option maxHeartbeats 4000000 in
set_option maxRecDepth 100000 in
theorem hL_handler9 {w : Wo} {xs rs : List Nat} {rv : Int32} {ln : Nat} {pm lo : Int32} {ow us nb op up kn : List Nat} (cw : CW (xs, rs, rv, ln, pm, lo, ow, us, nb, op, up, kn) w) (ps : PSok (xs, rs, rv, ln, pm, lo, ow, us, nb, op, up, kn)) {p1 p2 p3 p4 : Int32} (h4 : p4 = 0 ∨ p4 = 1) : Htr mL_handler hhL_handler [.ref 0, .int p1, .int p2, .int p3, .int p4] w (PI fun r w' => ((hanS p1 p2 ∧ r = 0 ∧ CW (xs, rs, p1, p2.toNatClampNeg, p3, p4, ow, us, nb, op, up, []) w') ∨ (¬ hanS p1 p2 ∧ r = 1 ∧ CW (xs, rs, rv, ln, pm, lo, ow, us, nb, op, up, kn) w')) ∧ fr w w') := by
  refine Htr_intro okL_handler rfl (Nat.le_of_ble_eq_true rfl) (L := [some (.ref 0), some (.int p1), some (.int p2), some (.int p3), some (.int p4), none]) rfl (fun g ct C T_ TB => ?_)
  refine r_aload_n C dL_handler_0 rfl ?_
  refine r_iload_n C dL_handler_1 rfl ?_
  refine r_iload_n C dL_handler_2 rfl ?_
  refine r_iload_n C dL_handler_3 rfl ?_
  refine r_iload C dL_handler_4 rfl ?_
  refine r_callXv C T_ (As := [.int p1, .int p2, .int p3, .int p4]) (rest := []) dL_handler_6 (cX5_handler9 cw ps h4) okX5_handler mlRL_21 imX5_handler seX5_handler ⟨by decide, by decide⟩ rfl rfl (Nat.le_of_ble_eq_true rfl) (CW_0 cw) rfl rfl (Nat.le_of_ble_eq_true rfl) (by decide) (by decide) (fun E w9 h9 => ?_) (fun w9 h9 => ?_)
  · obtain ⟨rfl, h9⟩ := h9
    obtain ⟨rfl, h9⟩ := h9
    refine r_catch C T_ TB [] ⟨0, 9, 12, 15⟩ [] rfl (fun z hz => nomatch hz) rfl (by decide) clRL_15 (List.mem_of_getElem? (i := 1) rfl) dL_handler_12 (by decide) (L' := [some (.ref 0), some (.int p1), some (.int p2), some (.int p3), some (.int p4), none]) rfl ?_
    refine r_iconst C dL_handler_14 (v := 1) (by decide) ?_
    exact r_ireturnX C T_ (Nat.le_of_ble_eq_true rfl) (Nat.le_of_ble_eq_true rfl) rfl rfl dL_handler_15 (⟨_, rfl, Or.inr ⟨h9, rfl, cw⟩, fr_rf _⟩)
  · obtain ⟨h0, hc, hf⟩ := h9
    refine r_goto C 16 dL_handler_9 (by decide) ?_
    refine r_iconst C dL_handler_16 (v := 0) (by decide) ?_
    exact r_ireturnX C T_ (Nat.le_of_ble_eq_true rfl) (Nat.le_of_ble_eq_true rfl) rfl rfl dL_handler_17 (⟨_, rfl, Or.inl ⟨h0, rfl, hc⟩, hf⟩)
set_option maxHeartbeats 4000000 in
set_option maxRecDepth 100000 in
theorem hL_take9 {w : Wo} {xs rs : List Nat} {rv : Int32} {ln : Nat} {pm lo : Int32} {ow us nb op up kn : List Nat} (cw : CW (xs, rs, rv, ln, pm, lo, ow, us, nb, op, up, kn) w) (ps : PSok (xs, rs, rv, ln, pm, lo, ow, us, nb, op, up, kn)) {p1 : Int32} {fl : Nat → Int64} (w_59 : w 59 = la 1 fl) : Htr mL_take hhL_take [.ref 0, .int p1, .ref 59] w (PI fun r w' => ((¬ tkIn p1 ∧ r = 1 ∧ CW (xs, rs, rv, ln, pm, lo, ow, us, nb, op, up, kn) w') ∨ (tkIn p1 ∧ ¬ tkOk p1 xs ∧ r = 2 ∧ CW (xs, rs, rv, ln, pm, lo, ow, us, nb, op, up, kn) w') ∨ (tkIn p1 ∧ tkOk p1 xs ∧ r = 0 ∧ CW (tkS p1 (xs, rs, rv, ln, pm, lo, ow, us, nb, op, up, kn)) w')) ∧ fr9 w w' ∧ ∃ f', w' 59 = la 1 f' ∧ (r = 0 → f' 0 = (nI xs.length).toInt64)) := by
  refine Htr_intro okL_take rfl (Nat.le_of_ble_eq_true rfl) (L := [some (.ref 0), some (.int p1), some (.ref 59), none]) rfl (fun g ct C T_ TB => ?_)
  refine r_aload_n C dL_take_0 rfl ?_
  refine r_iconst C dL_take_1 (v := 0) (by decide) ?_
  refine r_aload_n C dL_take_2 rfl ?_
  refine r_iload_n C dL_take_3 rfl ?_
  refine r_callXi C T_ (As := [.int p1]) (rest := [.int 0, .ref 59]) dL_take_4 (cX5_take9 cw ps) okX5_take mlRL_25 imX5_take seX5_take ⟨by decide, by decide⟩ rfl rfl (Nat.le_of_ble_eq_true rfl) (CW_0 cw) rfl rfl (Nat.le_of_ble_eq_true rfl) (by decide) (by decide) (fun E w9 h9 => ?_) (fun r9 w9 h9 => ?_)
  · obtain ⟨rfl, h9⟩ := h9
    rcases h9 with ⟨rfl, h9⟩ | ⟨rfl, h9⟩
    · skip
      refine r_catch_n C T_ TB [] ⟨0, 9, 12, 15⟩ [⟨0, 9, 15, 28⟩] rfl (fun z hz => nomatch hz) rfl (by decide) clRL_15 (List.mem_of_getElem? (i := 1) rfl) dL_take_12 (by decide) (L' := [some (.ref 0), some (.int p1), some (.ref 59), none]) rfl ?_
      refine r_iconst C dL_take_13 (v := 1) (by decide) ?_
      exact r_ireturnX C T_ (Nat.le_of_ble_eq_true rfl) (Nat.le_of_ble_eq_true rfl) rfl rfl dL_take_14 (⟨_, rfl, Or.inl ⟨h9, rfl, cw⟩, fun _ _ _ => rfl, fl, w_59, fun z => absurd z (by decide)⟩)
    · skip
      refine r_catch_n C T_ TB [⟨0, 9, 12, 15⟩] ⟨0, 9, 15, 28⟩ [] rfl (fun z hz => by rw [List.mem_singleton.mp hz]; exact ⟨by decide, _, clRL_15, List.mem_of_getElem? (i := 1) rfl⟩) rfl (by decide) clRL_28 (List.mem_of_getElem? (i := 2) rfl) dL_take_15 (by decide) (L' := [some (.ref 0), some (.int p1), some (.ref 59), none]) rfl ?_
      refine r_iconst C dL_take_16 (v := 2) (by decide) ?_
      exact r_ireturnX C T_ (Nat.le_of_ble_eq_true rfl) (Nat.le_of_ble_eq_true rfl) rfl rfl dL_take_17 (⟨_, rfl, Or.inr (Or.inl ⟨h9.1, h9.2, rfl, cw⟩), fun _ _ _ => rfl, fl, w_59, fun z => absurd z (by decide)⟩)
  · obtain ⟨h0, h1, hc, hf, rfl⟩ := h9
    refine r_i2l C dL_take_7 ?_
    refine r_last C dL_take_8 (Nat.le_of_ble_eq_true rfl) ((hf 59 (by decide)).trans w_59) (j := 0) rfl (by decide) (by decide) ?_
    refine r_goto C 18 dL_take_9 (by decide) ?_
    refine r_iconst C dL_take_18 (v := 0) (by decide) ?_
    exact r_ireturnX C T_ (Nat.le_of_ble_eq_true rfl) (Nat.le_of_ble_eq_true rfl) rfl rfl dL_take_19 (⟨_, rfl, Or.inr (Or.inr ⟨h0, h1, rfl, by generalize tkS _ _ = S9 at hc ⊢; exact CW_set59 hc⟩), fun k h1 h2 => ws_ne h2 (hf k h1), _, ws_eq, fun _ => rfl⟩)
set_option maxHeartbeats 4000000 in
set_option maxRecDepth 100000 in
theorem hL_enter9 {w : Wo} {xs rs : List Nat} {rv : Int32} {ln : Nat} {pm lo : Int32} {ow us nb op up kn : List Nat} (cw : CW (xs, rs, rv, ln, pm, lo, ow, us, nb, op, up, kn) w) (ps : PSok (xs, rs, rv, ln, pm, lo, ow, us, nb, op, up, kn)) {p1 : Int32} : Htr mL_enter hhL_enter [.ref 0, .int p1] w (PI fun r w' => ((p1 = 0 ∧ r = 0 ∧ CW (xs, rs, rv, ln, pm, lo, strms (ownKey rv ln op) (turnsOf rv) (padd up), us, nb, op, up, []) w') ∨ (p1 = 1 ∧ r = 0 ∧ CW (xs, rs, rv, ln, pm, lo, ow, entOf rv nb (keyOf rv ln pm lo ow nb up), nb, op, up, []) w') ∨ (¬ p1 = 0 ∧ ¬ p1 = 1 ∧ r = 1 ∧ CW (xs, rs, rv, ln, pm, lo, ow, us, nb, op, up, kn) w')) ∧ fr w w') := by
  refine Htr_intro okL_enter rfl (Nat.le_of_ble_eq_true rfl) (L := [some (.ref 0), some (.int p1), none]) rfl (fun g ct C T_ TB => ?_)
  refine r_aload_n C dL_enter_0 rfl ?_
  refine r_iload_n C dL_enter_1 rfl ?_
  refine r_callXv C T_ (As := [.int p1]) (rest := []) dL_enter_2 (cX5_enter9 cw ps) okX5_enter mlRL_30 imX5_enter seX5_enter ⟨by decide, by decide⟩ rfl rfl (Nat.le_of_ble_eq_true rfl) (CW_0 cw) rfl rfl (Nat.le_of_ble_eq_true rfl) (by decide) (by decide) (fun E w9 h9 => ?_) (fun w9 h9 => ?_)
  · obtain ⟨rfl, h9⟩ := h9
    obtain ⟨rfl, h9⟩ := h9
    refine r_catch_n C T_ TB [] ⟨0, 5, 8, 15⟩ [] rfl (fun z hz => nomatch hz) rfl (by decide) clRL_15 (List.mem_of_getElem? (i := 1) rfl) dL_enter_8 (by decide) (L' := [some (.ref 0), some (.int p1), none]) rfl ?_
    refine r_iconst C dL_enter_9 (v := 1) (by decide) ?_
    exact r_ireturnX C T_ (Nat.le_of_ble_eq_true rfl) (Nat.le_of_ble_eq_true rfl) rfl rfl dL_enter_10 (⟨_, rfl, Or.inr (Or.inr ⟨h9.1, h9.2, rfl, cw⟩), fr_rf _⟩)
  · obtain ⟨hc, hf⟩ := h9
    refine r_goto C 11 dL_enter_5 (by decide) ?_
    refine r_iconst C dL_enter_11 (v := 0) (by decide) ?_
    exact r_ireturnX C T_ (Nat.le_of_ble_eq_true rfl) (Nat.le_of_ble_eq_true rfl) rfl rfl dL_enter_12 (⟨_, rfl, hc.elim (fun z => Or.inl ⟨z.1, rfl, z.2⟩) (fun z => Or.inr (Or.inl ⟨z.1, rfl, z.2⟩)), hf⟩)
set_option maxHeartbeats 4000000 in
set_option maxRecDepth 100000 in
theorem hL_undo9 {w : Wo} {xs rs : List Nat} {rv : Int32} {ln : Nat} {pm lo : Int32} {ow us nb op up kn : List Nat} (cw : CW (xs, rs, rv, ln, pm, lo, ow, us, nb, op, up, kn) w) (ps : PSok (xs, rs, rv, ln, pm, lo, ow, us, nb, op, up, kn)) {nu ge me : Int32} {fl : Nat → Int64} (w_59 : w 59 = la 1 fl) : Htr mL_undo hhL_undo [.ref 0, .int nu, .int ge, .int me, .ref 59] w (PI fun r w' => ((¬ sndO nu ge me ∧ r = 1 ∧ CW (xs, rs, rv, ln, pm, lo, ow, us, nb, op, up, kn) w') ∨ (sndO nu ge me ∧ kn = [] ∧ r = 2 ∧ CW (xs, rs, rv, ln, pm, lo, ow, us, nb, op, up, kn) w') ∨ (sndO nu ge me ∧ ¬ kn = [] ∧ r = 0 ∧ CW (xs, (unR me (objKey ln kn nu ge (me = 2)) xs rs).2, rv, ln, pm, lo, ow, us, nb, op, up, kn) w')) ∧ fr9 w w' ∧ ∃ f', w' 59 = la 1 f' ∧ (r = 0 → f' 0 = ((unR me (objKey ln kn nu ge (me = 2)) xs rs).1).toInt64)) := by
  refine Htr_intro okL_undo rfl (Nat.le_of_ble_eq_true rfl) (L := [some (.ref 0), some (.int nu), some (.int ge), some (.int me), some (.ref 59), none]) rfl (fun g ct C T_ TB => ?_)
  refine r_aload C dL_undo_0 rfl ?_
  refine r_iconst C dL_undo_2 (v := 0) (by decide) ?_
  refine r_aload_n C dL_undo_3 rfl ?_
  refine r_iload_n C dL_undo_4 rfl ?_
  refine r_iload_n C dL_undo_5 rfl ?_
  refine r_iload_n C dL_undo_6 rfl ?_
  refine r_callXi C T_ (As := [.int nu, .int ge, .int me]) (rest := [.int 0, .ref 59]) dL_undo_7 (cX5_undo9 cw ps) okX5_undo mlRL_34 imX5_undo seX5_undo ⟨by decide, by decide⟩ rfl rfl (Nat.le_of_ble_eq_true rfl) (CW_0 cw) rfl rfl (Nat.le_of_ble_eq_true rfl) (by decide) (by decide) (fun E w9 h9 => ?_) (fun r9 w9 h9 => ?_)
  · obtain ⟨rfl, h9⟩ := h9
    rcases h9 with ⟨rfl, h9⟩ | ⟨rfl, h9⟩
    · skip
      refine r_catch C T_ TB [] ⟨0, 12, 15, 15⟩ [⟨0, 12, 19, 28⟩] rfl (fun z hz => nomatch hz) rfl (by decide) clRL_15 (List.mem_of_getElem? (i := 1) rfl) dL_undo_15 (by decide) (L' := [some (.ref 0), some (.int nu), some (.int ge), some (.int me), some (.ref 59), none]) rfl ?_
      refine r_iconst C dL_undo_17 (v := 1) (by decide) ?_
      exact r_ireturnX C T_ (Nat.le_of_ble_eq_true rfl) (Nat.le_of_ble_eq_true rfl) rfl rfl dL_undo_18 (⟨_, rfl, Or.inl ⟨h9, rfl, cw⟩, fun _ _ _ => rfl, fl, w_59, fun z => absurd z (by decide)⟩)
    · skip
      refine r_catch C T_ TB [⟨0, 12, 15, 15⟩] ⟨0, 12, 19, 28⟩ [] rfl (fun z hz => by rw [List.mem_singleton.mp hz]; exact ⟨by decide, _, clRL_15, List.mem_of_getElem? (i := 1) rfl⟩) rfl (by decide) clRL_28 (List.mem_of_getElem? (i := 2) rfl) dL_undo_19 (by decide) (L' := [some (.ref 0), some (.int nu), some (.int ge), some (.int me), some (.ref 59), none]) rfl ?_
      refine r_iconst C dL_undo_21 (v := 2) (by decide) ?_
      exact r_ireturnX C T_ (Nat.le_of_ble_eq_true rfl) (Nat.le_of_ble_eq_true rfl) rfl rfl dL_undo_22 (⟨_, rfl, Or.inr (Or.inl ⟨h9.1, h9.2, rfl, cw⟩), fun _ _ _ => rfl, fl, w_59, fun z => absurd z (by decide)⟩)
  · obtain ⟨h0, h1, hc, hf, rfl⟩ := h9
    refine r_i2l C dL_undo_10 ?_
    refine r_last C dL_undo_11 (Nat.le_of_ble_eq_true rfl) ((hf 59 (by decide)).trans w_59) (j := 0) rfl (by decide) (by decide) ?_
    refine r_goto C 23 dL_undo_12 (by decide) ?_
    refine r_iconst C dL_undo_23 (v := 0) (by decide) ?_
    exact r_ireturnX C T_ (Nat.le_of_ble_eq_true rfl) (Nat.le_of_ble_eq_true rfl) rfl rfl dL_undo_24 (⟨_, rfl, Or.inr (Or.inr ⟨h0, h1, rfl, CW_set59 hc⟩), fun k h1 h2 => ws_ne h2 (hf k h1), _, ws_eq, fun _ => rfl⟩)
set_option maxHeartbeats 4000000 in
set_option maxRecDepth 100000 in
theorem hL_seal9 {w : Wo} {xs rs : List Nat} {rv : Int32} {ln : Nat} {pm lo : Int32} {ow us nb op up kn : List Nat} (cw : CW (xs, rs, rv, ln, pm, lo, ow, us, nb, op, up, kn) w) (ps : PSok (xs, rs, rv, ln, pm, lo, ow, us, nb, op, up, kn)) {nu ge me one two : Int32} {fl : Nat → Int64} (w_59 : w 59 = la 1 fl) : Htr mL_seal hhL_seal [.ref 0, .int nu, .int ge, .int me, .int one, .int two, .ref 59] w (PI fun r w' => ((¬ sndO nu ge me ∧ r = 1 ∧ CW (xs, rs, rv, ln, pm, lo, ow, us, nb, op, up, kn) w') ∨ (sndO nu ge me ∧ (kn = [] ∨ ¬ fitR me xs) ∧ r = 2 ∧ CW (xs, rs, rv, ln, pm, lo, ow, us, nb, op, up, kn) w') ∨ (sndO nu ge me ∧ ¬ kn = [] ∧ fitR me xs ∧ r = 0 ∧ CW (xs, (seR me (objKey ln kn nu ge (me = 2)) xs one two).2, rv, ln, pm, lo, ow, us, nb, op, up, kn) w')) ∧ fr9 w w' ∧ ∃ f', w' 59 = la 1 f' ∧ (r = 0 → f' 0 = ((seR me (objKey ln kn nu ge (me = 2)) xs one two).1).toInt64)) := by
  refine Htr_intro okL_seal rfl (Nat.le_of_ble_eq_true rfl) (L := [some (.ref 0), some (.int nu), some (.int ge), some (.int me), some (.int one), some (.int two), some (.ref 59), none]) rfl (fun g ct C T_ TB => ?_)
  refine r_aload C dL_seal_0 rfl ?_
  refine r_iconst C dL_seal_2 (v := 0) (by decide) ?_
  refine r_aload_n C dL_seal_3 rfl ?_
  refine r_iload_n C dL_seal_4 rfl ?_
  refine r_iload_n C dL_seal_5 rfl ?_
  refine r_iload_n C dL_seal_6 rfl ?_
  refine r_iload C dL_seal_7 rfl ?_
  refine r_iload C dL_seal_9 rfl ?_
  refine r_callXi C T_ (As := [.int nu, .int ge, .int me, .int one, .int two]) (rest := [.int 0, .ref 59]) dL_seal_11 (cX5_seal9 cw ps) okX5_seal mlRL_38 imX5_seal seX5_seal ⟨by decide, by decide⟩ rfl rfl (Nat.le_of_ble_eq_true rfl) (CW_0 cw) rfl rfl (Nat.le_of_ble_eq_true rfl) (by decide) (by decide) (fun E w9 h9 => ?_) (fun r9 w9 h9 => ?_)
  · obtain ⟨rfl, h9⟩ := h9
    rcases h9 with ⟨rfl, h9⟩ | ⟨rfl, h9⟩
    · skip
      refine r_catch C T_ TB [] ⟨0, 16, 19, 15⟩ [⟨0, 16, 23, 28⟩] rfl (fun z hz => nomatch hz) rfl (by decide) clRL_15 (List.mem_of_getElem? (i := 1) rfl) dL_seal_19 (by decide) (L' := [some (.ref 0), some (.int nu), some (.int ge), some (.int me), some (.int one), some (.int two), some (.ref 59), none]) rfl ?_
      refine r_iconst C dL_seal_21 (v := 1) (by decide) ?_
      exact r_ireturnX C T_ (Nat.le_of_ble_eq_true rfl) (Nat.le_of_ble_eq_true rfl) rfl rfl dL_seal_22 (⟨_, rfl, Or.inl ⟨h9, rfl, cw⟩, fun _ _ _ => rfl, fl, w_59, fun z => absurd z (by decide)⟩)
    · skip
      refine r_catch C T_ TB [⟨0, 16, 19, 15⟩] ⟨0, 16, 23, 28⟩ [] rfl (fun z hz => by rw [List.mem_singleton.mp hz]; exact ⟨by decide, _, clRL_15, List.mem_of_getElem? (i := 1) rfl⟩) rfl (by decide) clRL_28 (List.mem_of_getElem? (i := 2) rfl) dL_seal_23 (by decide) (L' := [some (.ref 0), some (.int nu), some (.int ge), some (.int me), some (.int one), some (.int two), some (.ref 59), none]) rfl ?_
      refine r_iconst C dL_seal_25 (v := 2) (by decide) ?_
      exact r_ireturnX C T_ (Nat.le_of_ble_eq_true rfl) (Nat.le_of_ble_eq_true rfl) rfl rfl dL_seal_26 (⟨_, rfl, Or.inr (Or.inl ⟨h9.1, h9.2, rfl, cw⟩), fun _ _ _ => rfl, fl, w_59, fun z => absurd z (by decide)⟩)
  · obtain ⟨h0, h1, h2, hc, hf, rfl⟩ := h9
    refine r_i2l C dL_seal_14 ?_
    refine r_last C dL_seal_15 (Nat.le_of_ble_eq_true rfl) ((hf 59 (by decide)).trans w_59) (j := 0) rfl (by decide) (by decide) ?_
    refine r_goto C 27 dL_seal_16 (by decide) ?_
    refine r_iconst C dL_seal_27 (v := 0) (by decide) ?_
    exact r_ireturnX C T_ (Nat.le_of_ble_eq_true rfl) (Nat.le_of_ble_eq_true rfl) rfl rfl dL_seal_28 (⟨_, rfl, Or.inr (Or.inr ⟨h0, h1, h2, rfl, CW_set59 hc⟩), fun k h1 h2 => ws_ne h2 (hf k h1), _, ws_eq, fun _ => rfl⟩)
