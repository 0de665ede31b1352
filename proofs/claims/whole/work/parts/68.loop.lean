/-! THE CLAIM OUT OF ONE WALK OF THE LAW'S BODY. Your part is whole_start (and what it stands on); all else here is the same for every law, but numbers. -/
def R_law : String := "SheetKeysLaw"
def lw_P (b : Addr) (xs : List Int32) (args : Array Value) (s : State) : Prop := args = #[.ref b] ∧ s.IntsAt b xs ∧ xs.length ≤ 384 ∧ (Jvm.Cond.and given_1 narrow_1).before args s = true
def lw_Q (_ : Array Value) (s : State) (o : Outcome) (t : State) : Prop := o = .returned (some (.int 1)) ∧ Framed s o t [] 600128 7301098
def lw_Z (below : List Frame) (a : Array Value) (s : State) : State → Prop := fun t => ∃ o, t.status = .running ∧ Ended t below o ∧ lw_Q a s o t
/-- the law's own end, with 1 on the stack, nothing written that was there before, its room as the claim has it -/
theorem lw_ret {p : Program} {l : Launch} {e : Env} {s : State} {m : MethodId} {below : List Frame} {meth : Method} {c : Code} {b : Nat} (hx : p.tables.exec = Jvm.exec) (hb : c.code = code) (hr : meth.sig.returnType = ret) (hlocks : meth.locks = false) {pc : Nat} {H : Heap} {ls : Array Slot} (hdg : decode code pc = .ok (.ireturn, 1)) : W p l e room_1 s m #[Value.ref b] below meth c H [] 600128 7301098 (lw_Z below #[Value.ref b] s) (F0 m pc ls [.int 1]) := by
  intro T hT X
  obtain ⟨fs, hret, hrun, hended, hW, hframe⟩ := X.leave (v := some (.int 1)) (hlocks := hlocks) (fun h => by rw [hr] at h; cases h)
  have hmeth' : T.vm.method? m = some meth := X.method'
  refine ⟨T.setFrames fs, ?_, .returned (some (.int 1)), hrun, hended, rfl, ⟨_, rfl⟩, hW, hframe⟩
  jvm_step X.here [X.here.top, hx, hb, hdg, hmeth', hr, ret, narrow_b1]
  (try refine ⟨rfl, ?_⟩); (try refine ⟨rfl, ?_⟩)
  first | (intro acts; rw [hret _ acts rfl rfl rfl]) | rw [hret _ _ rfl rfl rfl]
  exact Steps.refl _
/-- what holds at the law's entry: the machine, the code, the tables' words (any of lw_tbl by 'hts w (by decide +kernel)'), the script of L ints xs at the cell b, what the Statement gives of the start (any of its parts by flat_of_before) -/
def lw_At (p : Program) (s : State) (m : MethodId) (meth : Method) (c : Code) (b L : Nat) (xs : Nat → Int32) : Prop :=
  p.tables.exec = Jvm.exec ∧ c.code = code ∧ meth.sig.returnType = ret ∧ c.maxLocals = 7 ∧ s.vm.findClass R_law = some m.cls ∧ (∀ w ∈ lw_tbl, w.before #[Value.ref b] s = true) ∧ va_X b L xs s s.heap ∧ b < s.heap.size ∧ meth.locks = false ∧ (Jvm.Cond.and given_1 narrow_1).before #[Value.ref b] s = true
/-- the law's end -/
def Le (b : Nat) : Ct → Prop
  | (_, _, _, s, _, args, below, _, _, A, Q) => args = #[Value.ref b] ∧ Q = lw_Z below #[Value.ref b] s ∧ ∀ z : Nat, A z → s.heap.size ≤ z
theorem law_end {g : Ge} {ct : Ct} {k n b : Nat} {L : Lo} {w : Wo} (C : Cx g mL_law ct) (E : Le b ct) (hk : k ≤ 600128) (hn : n ≤ 7301098) : Az g mL_law ct k n 833 L [.int 1] w := by
  obtain ⟨p, l, e, s, m, args, below, meth, c, A, Q⟩ := ct
  obtain ⟨hx, hb, hml, hown, hts, hK, hZ, hA, hr, hlk⟩ := C
  obtain ⟨rfl, rfl, hA0⟩ := E
  intro H locs ls hP hD hS hL
  exact va_forget (fun z hz => hA0 _ (hS.2.2 z hz)) (W.widen hk hn (lw_ret hx hb hr hlk dL_law_833))
theorem law_le {L i : Nat} (hL : L ≤ 384) (hi : i ≤ 64) (c : ¬ nI L - 6 < nI (6 * i)) : 6 * i + 6 ≤ L := by
  by_cases h6 : 6 ≤ L
  · by_cases h : 6 * i + 6 ≤ L
    · exact h
    · refine absurd ?_ c
      have e : nI L - 6 = nI (L - 6) := pk_sub (a := L) (b := 6) h6
      rw [e]
      exact nI_lt (by omega) (by omega)
  · refine absurd ?_ c
    have h0 : nI L - 6 < 0 := by
      have h5 : L = 0 ∨ L = 1 ∨ L = 2 ∨ L = 3 ∨ L = 4 ∨ L = 5 := by omega
      rcases h5 with rfl | rfl | rfl | rfl | rfl | rfl <;> decide
    exact Int32.lt_of_lt_of_le h0 (nI_pos' (by omega))
set_option maxHeartbeats 4000000 in
set_option maxRecDepth 100000 in
theorem law_loop {g : Ge} {ct : Ct} {b L9 : Nat} {xv : Nat → Int32} (C : Cx g mL_law ct) (B : Lx b L9 xv g ct) (E : Le b ct) (h384 : L9 ≤ 384) : ∀ (d i k n : Nat) (S : SK) (fa : Int32) (w : Wo), 64 - i < d → i ≤ 64 → k ≤ 1000 + i → n ≤ 100000 + 6 * i → Inv S fa w → Az g mL_law ct k n 23 (LwI i) [] w := by
  intro d
  induction d with
  | zero => intro i k n S fa w h; exact absurd h (Nat.not_lt_zero _)
  | succ d ih =>
    intro i k n S fa w hd hi hk hn inv
    refine r_iload C dL_law_23 rfl ?_
    refine r_aload_n C dL_law_25 rfl ?_
    refine r_slen C B dL_law_26 ?_
    refine r_bipush C dL_law_27 (v := 6) (by decide) ?_
    refine r_isub C dL_law_29 ?_
    refine r_icmp_gt C 832 dL_law_30 (by decide) (fun c => ?_) (fun c => ?_)
    · refine r_iconst C dL_law_832 (v := 1) (by decide) ?_
      exact law_end C E (by omega) (by omega)
    · have h6 := law_le h384 hi c
      refine r_aload_n C dL_law_33 rfl ?_
      refine r_iload C dL_law_34 rfl ?_
      refine r_sld C B dL_law_36 (j := 6 * i) (by omega) (by omega) ?_
      refine r_bipush C dL_law_37 (v := 15) (by decide) ?_
      refine r_iand C dL_law_39 ?_
      have kk : Kx9 g ct k n i := fun S' fa' w' k' n' inv' hk' hn' => by
        refine r_iinc C dL_law_826 (v := nI (6 * (i + 1))) (L' := LwI (i + 1)) rfl (nI_add (6 * i) 6) (by decide) rfl ?_
        refine r_goto C 23 dL_law_829 (by decide) ?_
        exact ih (i + 1) k' n' S' fa' w' (by omega) (by omega) (by omega) (by omega) inv'
      obtain ⟨j, hj, ej⟩ := pk_andE (xv (6 * i)) (m := 15) 4 (by decide)
      refine r_top ej ?_
      clear ej
      obtain ⟨xs, rs, rv, ln, pm, lo, ow, us, nb, op, up, kn⟩ := S
      obtain ⟨cw, mw, ps, fl, w59⟩ := inv
      have hj : j < 16 := hj
      have hj : j = 0 ∨ j = 1 ∨ j = 2 ∨ j = 3 ∨ j = 4 ∨ j = 5 ∨ j = 6 ∨ j = 7 ∨ j = 8 ∨ j = 9 ∨ j = 10 ∨ j = 11 ∨ j = 12 ∨ j = 13 ∨ j = 14 ∨ j = 15 := by omega
      rcases hj with rfl | rfl | rfl | rfl | rfl | rfl | rfl | rfl | rfl | rfl | rfl | rfl | rfl | rfl | rfl | rfl
      · refine r_tabIn C 116 dL_law_40 (by decide) (by decide) (off := 76) (by decide) (by decide) ?_
        exact law_feed C B h6 h384 (by omega) (by omega) cw mw ps w59 kk
      · refine r_tabIn C 189 dL_law_40 (by decide) (by decide) (off := 149) (by decide) (by decide) ?_
        exact law_put C B h6 h384 (by omega) (by omega) cw mw ps w59 kk
      · refine r_tabIn C 257 dL_law_40 (by decide) (by decide) (off := 217) (by decide) (by decide) ?_
        exact law_cut C B h6 h384 (by omega) (by omega) cw mw ps w59 kk
      · refine r_tabIn C 313 dL_law_40 (by decide) (by decide) (off := 273) (by decide) (by decide) ?_
        by_cases hb : xv (6 * i + 4) = 0
        · exact law_handler0 C B h6 h384 (by omega) (by omega) cw mw ps w59 hb kk
        · exact law_handler1 C B h6 h384 (by omega) (by omega) cw mw ps w59 hb kk
      · refine r_tabIn C 401 dL_law_40 (by decide) (by decide) (off := 361) (by decide) (by decide) ?_
        exact law_take C B h6 h384 (by omega) (by omega) cw mw ps w59 kk
      · refine r_tabIn C 457 dL_law_40 (by decide) (by decide) (off := 417) (by decide) (by decide) ?_
        exact law_enter C B h6 h384 (by omega) (by omega) cw mw ps w59 kk
      · refine r_tabIn C 493 dL_law_40 (by decide) (by decide) (off := 453) (by decide) (by decide) ?_
        exact law_open C B h6 h384 (by omega) (by omega) cw mw ps w59 kk
      · refine r_tabIn C 506 dL_law_40 (by decide) (by decide) (off := 466) (by decide) (by decide) ?_
        exact law_key C B h6 h384 (by omega) (by omega) cw mw ps w59 kk
      · refine r_tabIn C 531 dL_law_40 (by decide) (by decide) (off := 491) (by decide) (by decide) ?_
        exact law_digest C B h6 h384 (by omega) (by omega) cw mw ps w59 kk
      · refine r_tabIn C 542 dL_law_40 (by decide) (by decide) (off := 502) (by decide) (by decide) ?_
        exact law_undo C B h6 h384 (by omega) (by omega) cw mw ps w59 kk
      · refine r_tabIn C 622 dL_law_40 (by decide) (by decide) (off := 582) (by decide) (by decide) ?_
        exact law_seal C B h6 h384 (by omega) (by omega) cw mw ps w59 kk
      · refine r_tabIn C 726 dL_law_40 (by decide) (by decide) (off := 686) (by decide) (by decide) ?_
        exact law_count C B h6 h384 (by omega) (by omega) cw mw ps w59 kk
      · refine r_tabIn C 751 dL_law_40 (by decide) (by decide) (off := 711) (by decide) (by decide) ?_
        exact law_at C B h6 h384 (by omega) (by omega) cw mw ps w59 kk
      · refine r_tabIn C 776 dL_law_40 (by decide) (by decide) (off := 736) (by decide) (by decide) ?_
        exact law_entry C B h6 h384 (by omega) (by omega) cw mw ps w59 kk
      · refine r_tabIn C 813 dL_law_40 (by decide) (by decide) (off := 773) (by decide) (by decide) ?_
        exact law_keep C B h6 h384 (by omega) (by omega) cw mw ps w59 kk
      · refine r_tabOut C 826 dL_law_40 (by decide) (by decide) ?_
        exact kk _ _ _ _ _ ⟨cw, mw, ps, fl, w59⟩ (by omega) (by omega)
