theorem byt_nil : byt [] := fun x h => by cases h
theorem byt_set {xs : List Nat} (h : byt xs) {j b : Nat} (hb : b < 256) : byt (xs.set j b) := fun x hx => (List.mem_or_eq_of_mem_set hx).elim (h x) (fun e => e ▸ hb)
theorem byt_fedd {xs : List Nat} (h : byt xs) (p1 p2 p3 p4 p5 : Int32) : byt (fedd xs p1 p2 p3 p4 p5) := by
  unfold fedd
  split
  · exact byt_app (byt_app (byt_app (byt_app (byt_app h (byt_hif _)) (byt_hif _)) (byt_hif _)) (byt_hif _)) (byt_hif _)
  · exact h
theorem byt_putO {xs : List Nat} (h : byt xs) (i b : Int32) : byt (putO xs i b).2.2 := by
  unfold putO
  split
  · exact h
  · split
    · exact h
    · rename_i h1 h2
      obtain ⟨y, hy, rfl⟩ := nI_of2 (n := 255) (by decide) (fun z => h2 (Or.inl z)) (Int32.not_lt.mp (fun z => h2 (Or.inr z)))
      refine byt_set h ?_
      rw [nI_clamp (by omega)]
      omega
theorem byt_cutO {xs : List Nat} (h : byt xs) (m : Int32) : byt (cutO xs m).2.2 := by
  unfold cutO
  split
  · exact h
  · show byt (cutTo xs m)
    unfold cutTo
    split
    · exact h
    · exact byt_take h _
theorem byt_unR {xs rs K : List Nat} (me : Int32) (hK : byt K) (h : byt xs) (hr : byt rs) : byt (unR me K xs rs).2 := by
  unfold unR
  split
  · unfold undB
    split
    · exact hr
    · split
      · exact hr
      · intro x hx
        obtain ⟨m, -, rfl⟩ := List.mem_map.mp hx
        exact b16_unB (fun k _ => kx_lt hK k) h _ _ (Nat.mod_lt _ (by decide))
  · show byt (if me = 1 then strm K 0 xs else xs)
    split
    · exact byt_strm _ _ h
    · exact h
theorem byt_seR {xs K : List Nat} (me : Int32) (hK : byt K) (h : byt xs) (one two : Int32) : byt (seR me K xs one two).2 := by
  unfold seR
  split
  · intro x hx
    obtain ⟨m, -, rfl⟩ := List.mem_map.mp hx
    exact slF_lt (fun k _ => kx_lt hK k) (fun j => byt_getD (byt_selZ h one two) j) _ _
  · show byt (if me = 1 then strm K 0 xs else xs)
    split
    · exact byt_strm _ _ h
    · exact h
theorem hanS_rv {p1 p2 : Int32} (h : hanS p1 p2) : p1 = 2 ∨ p1 = 3 ∨ p1 = 4 := by
  obtain ⟨h1, h2, -⟩ := h
  obtain ⟨y, hy, rfl⟩ := nI_of2 (n := 4) (x := p1) (by decide) (fun z => h1 (by
    have e0 : p1.toInt < 0 := Int32.lt_iff_toInt_lt.mp z
    refine Int32.lt_iff_toInt_lt.mpr ?_
    show p1.toInt < 2
    omega)) (Int32.not_lt.mp h2)
  have h3 : ¬ y < 2 := fun z => h1 (nI_lt z (by decide))
  have h4 : y = 2 ∨ y = 3 ∨ y = 4 := by omega
  rcases h4 with rfl | rfl | rfl
  · exact Or.inl rfl
  · exact Or.inr (Or.inl rfl)
  · exact Or.inr (Or.inr rfl)
theorem hanS_ln {p1 p2 : Int32} (h : hanS p1 p2) : 5 ≤ p2.toNatClampNeg ∧ p2.toNatClampNeg ≤ 16 := by
  obtain ⟨-, -, h1, h2, -⟩ := h
  obtain ⟨y, hy, rfl⟩ := nI_of2 (n := 16) (x := p2) (by decide) (fun z => h1 (by
    have e0 : p2.toInt < 0 := Int32.lt_iff_toInt_lt.mp z
    refine Int32.lt_iff_toInt_lt.mpr ?_
    show p2.toInt < 5
    omega)) (Int32.not_lt.mp h2)
  have h3 : ¬ y < 5 := fun z => h1 (nI_lt z (by decide))
  rw [nI_clamp (by omega)]
  omega
theorem PS_xs {xs rs : List Nat} {rv : Int32} {ln : Nat} {pm lo : Int32} {ow us nb op up kn : List Nat} (ps : PSok (xs, rs, rv, ln, pm, lo, ow, us, nb, op, up, kn)) {ys : List Nat} (hy : byt ys) : PSok (ys, rs, rv, ln, pm, lo, ow, us, nb, op, up, kn) := by
  obtain ⟨bx, br, bo, bu, bn, bp, bq, bk9, lo9, lu9, hkn, hrv, hln, hlo⟩ := ps
  exact ⟨hy, br, bo, bu, bn, bp, bq, bk9, lo9, lu9, hkn, hrv, hln, hlo⟩
theorem PS_rs {xs rs : List Nat} {rv : Int32} {ln : Nat} {pm lo : Int32} {ow us nb op up kn : List Nat} (ps : PSok (xs, rs, rv, ln, pm, lo, ow, us, nb, op, up, kn)) {ys : List Nat} (hy : byt ys) : PSok (xs, ys, rv, ln, pm, lo, ow, us, nb, op, up, kn) := by
  obtain ⟨bx, br, bo, bu, bn, bp, bq, bk9, lo9, lu9, hkn, hrv, hln, hlo⟩ := ps
  exact ⟨bx, hy, bo, bu, bn, bp, bq, bk9, lo9, lu9, hkn, hrv, hln, hlo⟩
theorem PS_keep {xs rs : List Nat} {rv : Int32} {ln : Nat} {pm lo : Int32} {ow us nb op up kn : List Nat} (ps : PSok (xs, rs, rv, ln, pm, lo, ow, us, nb, op, up, kn))  : PSok (rs, rs, rv, ln, pm, lo, ow, us, nb, op, up, kn) := by
  obtain ⟨bx, br, bo, bu, bn, bp, bq, bk9, lo9, lu9, hkn, hrv, hln, hlo⟩ := ps
  exact ⟨br, br, bo, bu, bn, bp, bq, bk9, lo9, lu9, hkn, hrv, hln, hlo⟩
theorem PS_han {xs rs : List Nat} {rv : Int32} {ln : Nat} {pm lo : Int32} {ow us nb op up kn : List Nat} (ps : PSok (xs, rs, rv, ln, pm, lo, ow, us, nb, op, up, kn)) {p1 p2 p3 p4 : Int32} (h : hanS p1 p2) (h4 : p4 = 0 ∨ p4 = 1) : PSok (xs, rs, p1, p2.toNatClampNeg, p3, p4, ow, us, nb, op, up, []) := by
  obtain ⟨bx, br, bo, bu, bn, bp, bq, bk9, lo9, lu9, hkn, hrv, hln, hlo⟩ := ps
  exact ⟨bx, br, bo, bu, bn, bp, bq, byt_nil, lo9, lu9, Or.inl rfl, hanS_rv h, hanS_ln h, h4⟩
theorem PS_nokn {xs rs : List Nat} {rv : Int32} {ln : Nat} {pm lo : Int32} {ow us nb op up kn : List Nat} (ps : PSok (xs, rs, rv, ln, pm, lo, ow, us, nb, op, up, kn))  : PSok (xs, rs, rv, ln, pm, lo, ow, us, nb, op, up, []) := by
  obtain ⟨bx, br, bo, bu, bn, bp, bq, bk9, lo9, lu9, hkn, hrv, hln, hlo⟩ := ps
  exact ⟨bx, br, bo, bu, bn, bp, bq, byt_nil, lo9, lu9, Or.inl rfl, hrv, hln, hlo⟩
theorem PS_opn {xs rs : List Nat} {rv : Int32} {ln : Nat} {pm lo : Int32} {ow us nb op up kn : List Nat} (ps : PSok (xs, rs, rv, ln, pm, lo, ow, us, nb, op, up, kn))  : PSok (xs, rs, rv, ln, pm, lo, ow, us, nb, op, up, (opn rv ln pm lo ow us nb xs kn).2) := by
  obtain ⟨bx, br, bo, bu, bn, bp, bq, bk9, lo9, lu9, hkn, hrv, hln, hlo⟩ := ps
  have hb : byt (opn rv ln pm lo ow us nb xs kn).2 := by
    unfold opn
    split
    · exact byt_keyOf _ _ _ _ _ _ _
    · split
      · exact byt_keyOf _ _ _ _ _ _ _
      · exact bk9
  have hk : (opn rv ln pm lo ow us nb xs kn).2 = [] ∨ (opn rv ln pm lo ow us nb xs kn).2.length = ln := by
    unfold opn
    split
    · exact Or.inr (keyOf_len rv hln.2 pm lo ow nb _)
    · split
      · exact Or.inr (keyOf_len rv hln.2 pm lo ow nb _)
      · exact hkn
  exact ⟨bx, br, bo, bu, bn, bp, bq, hb, lo9, lu9, hk, hrv, hln, hlo⟩
theorem PS_tk {xs rs : List Nat} {rv : Int32} {ln : Nat} {pm lo : Int32} {ow us nb op up kn : List Nat} (ps : PSok (xs, rs, rv, ln, pm, lo, ow, us, nb, op, up, kn)) {p : Int32} (h : tkOk p xs) : PSok (tkS p (xs, rs, rv, ln, pm, lo, ow, us, nb, op, up, kn)) := by
  obtain ⟨bx, br, bo, bu, bn, bp, bq, bk9, lo9, lu9, hkn, hrv, hln, hlo⟩ := ps
  unfold tkOk at h
  show PSok (if p = 0 then (xs, rs, rv, ln, pm, lo, xs, us, nb, op, up, []) else if p = 1 then (xs, rs, rv, ln, pm, lo, ow, xs, nb, op, up, []) else if p = 2 then (xs, rs, rv, ln, pm, lo, ow, us, xs, op, up, []) else if p = 3 then (xs, rs, rv, ln, pm, lo, ow, us, nb, xs, up, kn) else (xs, rs, rv, ln, pm, lo, ow, us, nb, op, xs, kn))
  split
  · rename_i e
    rw [if_pos (Or.inl e)] at h
    exact ⟨bx, br, bx, bu, bn, bp, bq, byt_nil, h, lu9, Or.inl rfl, hrv, hln, hlo⟩
  · split
    · rename_i e
      rw [if_pos (Or.inr e)] at h
      exact ⟨bx, br, bo, bx, bn, bp, bq, byt_nil, lo9, h, Or.inl rfl, hrv, hln, hlo⟩
    · split
      · exact ⟨bx, br, bo, bu, bx, bp, bq, byt_nil, lo9, lu9, Or.inl rfl, hrv, hln, hlo⟩
      · split
        · exact ⟨bx, br, bo, bu, bn, bx, bq, bk9, lo9, lu9, hkn, hrv, hln, hlo⟩
        · exact ⟨bx, br, bo, bu, bn, bp, bx, bk9, lo9, lu9, hkn, hrv, hln, hlo⟩
theorem MW_keep {w w' : Wo} {fa : Int32} {xs : List Nat} {rs : List Nat} {rv : Int32} {ln : Nat} {pm : Int32} {lo : Int32} {ow : List Nat} {us : List Nat} {nb : List Nat} {op : List Nat} {up : List Nat} {kn : List Nat} (mw : MW fa (xs, rs, rv, ln, pm, lo, ow, us, nb, op, up, kn) w) (h : ∀ k, 35 ≤ k → k < 59 → w' k = w k) : MW fa (xs, rs, rv, ln, pm, lo, ow, us, nb, op, up, kn) w' :=
  MW_open mw (fun fx fr9 fo fus fn fop fup fk fh hl fm fd vA vB vC vD fsn ftn fpd ft fe fp fot K B SW BK ik w_35 w_36 h_xs k_xs w_37 h_rs k_rs w_38 h_ow k_ow w_39 h_us k_us w_40 h_nb k_nb w_41 h_op k_op w_42 h_up k_up w_43 h_kn k_kn w_50 h_hl k_hl w_44 w_45 w_46 w_47 hsn w_48 htn w_49 hpd w_51 w_52 w_53 w_54 w_55 w_56 w_57 w_58 hik => MW_mk ((h 35 (by decide) (by decide)).trans w_35) ((h 36 (by decide) (by decide)).trans w_36) h_xs k_xs ((h 37 (by decide) (by decide)).trans w_37) h_rs k_rs ((h 38 (by decide) (by decide)).trans w_38) h_ow k_ow ((h 39 (by decide) (by decide)).trans w_39) h_us k_us ((h 40 (by decide) (by decide)).trans w_40) h_nb k_nb ((h 41 (by decide) (by decide)).trans w_41) h_op k_op ((h 42 (by decide) (by decide)).trans w_42) h_up k_up ((h 43 (by decide) (by decide)).trans w_43) h_kn k_kn ((h 50 (by decide) (by decide)).trans w_50) h_hl k_hl ((h 44 (by decide) (by decide)).trans w_44) ((h 45 (by decide) (by decide)).trans w_45) ((h 46 (by decide) (by decide)).trans w_46) ((h 47 (by decide) (by decide)).trans w_47) hsn ((h 48 (by decide) (by decide)).trans w_48) htn ((h 49 (by decide) (by decide)).trans w_49) hpd ((h 51 (by decide) (by decide)).trans w_51) ((h 52 (by decide) (by decide)).trans w_52) ((h 53 (by decide) (by decide)).trans w_53) ((h 54 (by decide) (by decide)).trans w_54) ((h 55 (by decide) (by decide)).trans w_55) ((h 56 (by decide) (by decide)).trans w_56) ((h 57 (by decide) (by decide)).trans w_57) ((h 58 (by decide) (by decide)).trans w_58) hik)
theorem MW_35 {w : Wo} {fa : Int32} {xs : List Nat} {rs : List Nat} {rv : Int32} {ln : Nat} {pm : Int32} {lo : Int32} {ow : List Nat} {us : List Nat} {nb : List Nat} {op : List Nat} {up : List Nat} {kn : List Nat} (mw : MW fa (xs, rs, rv, ln, pm, lo, ow, us, nb, op, up, kn) w) : ∃ fs, w 35 = ob 6 fs := MW_open mw (fun fx fr9 fo fus fn fop fup fk fh hl fm fd vA vB vC vD fsn ftn fpd ft fe fp fot K B SW BK ik w_35 w_36 h_xs k_xs w_37 h_rs k_rs w_38 h_ow k_ow w_39 h_us k_us w_40 h_nb k_nb w_41 h_op k_op w_42 h_up k_up w_43 h_kn k_kn w_50 h_hl k_hl w_44 w_45 w_46 w_47 hsn w_48 htn w_49 hpd w_51 w_52 w_53 w_54 w_55 w_56 w_57 w_58 hik => ⟨_, w_35⟩)
