/-! THROWS over the layer: a method that returns or throws (Xtr), one that catches all (Htr). -/
def nms : List String := ["java/lang/RuntimeException", "java/lang/Exception"]
def nbD : List MethodName := [⟨"java/lang/RuntimeException", "<init>", "(Ljava/lang/String;)V"⟩, ⟨"java/lang/Exception", "<init>", "(Ljava/lang/String;)V"⟩, ⟨"java/lang/Throwable", "<init>", "(Ljava/lang/String;)V"⟩]
def nbC : List String := ["java/lang/IndexOutOfBoundsException", "java/lang/IllegalArgumentException", "java/lang/IllegalStateException"]
def nbN : List (String × String) := [("java/lang/IllegalArgumentException", "java/lang/IndexOutOfBoundsException"), ("java/lang/IllegalStateException", "java/lang/IllegalArgumentException")]
def nbS : List (Nat × String) := [(37, "the row has no such byte"), (44, "a byte is 0 .. 255"), (51, "fewer than no bytes cannot be left"), (56, "there is no such revision"), (58, "the revision has no such length"), (83, "only 0 .. 4 can be told"), (87, "the row has not so many bytes"), (94, "only the entries 0 and 1 can be made"), (124, "there is no such number, generation or method"), (126, "the key is unknown"), (140, "the result would have too many bytes")]
/-- what a throw needs of the machine: all of it rests on the tables -/
def Bx (U : State) : Prop := (∀ x ∈ nbD, va_Nw (.declares x) U) ∧ (∀ c ∈ nbC, va_Nw (.castable c c) U) ∧ (∀ c ∈ nbN, va_Nc c.1 c.2 U) ∧ (∀ z ∈ nbS, ∃ sa, vk_R RX5 z.1 z.2 sa U)
theorem Bx.warm {s U : State} (hW : s.WarmedH U.vm) (h : Bx s) : Bx U := ⟨fun x hx => va_Nw.warmD hW (h.1 x hx), fun c hc => va_Nw.warmC hW (h.2.1 c hc), fun c hc => va_Nc.moved hW.alike (h.2.2.1 c hc), fun z hz => (h.2.2.2 z hz).imp fun _ hs => vk_R.warm hW hs⟩
def Xx (A : Nat → Prop) (U : State) : Prop := vx_Zq Bundle.tN "UNASSIGNED_STACK" Bundle.steD A U U.heap ∧ vx_Zq Bundle.tN "SUPPRESSED_SENTINEL" Bundle.listD A U U.heap ∧ Bx U
def nbw (C : String) : List Cond := [.declares ⟨"java/lang/RuntimeException", "<init>", "(Ljava/lang/String;)V"⟩, .declares ⟨"java/lang/Exception", "<init>", "(Ljava/lang/String;)V"⟩, .declares ⟨"java/lang/Throwable", "<init>", "(Ljava/lang/String;)V"⟩, .castable C C]
theorem nbw_ok {args : Array Value} {s : State} {C : String} (hB : Bx s) (hC : C ∈ nbC) : ∀ w ∈ nbw C, w.before args s = true :=
  vx_c (va_Nw.use rfl (hB.1 _ (List.mem_of_getElem? (i := 0) rfl))) (vx_c (va_Nw.use rfl (hB.1 _ (List.mem_of_getElem? (i := 1) rfl))) (vx_c (va_Nw.use rfl (hB.1 _ (List.mem_of_getElem? (i := 2) rfl))) (vx_c (va_Nw.use rfl (hB.2.1 _ hC)) vx_n)))
/-- the exception cls, made by the entries ik, ic of SheetKeys' pool -/
def ExOk (ik ic : Nat) (cls : String) : Prop := Cond.classLink RX5 ik cls ∈ tb_ ∧ Cond.initialized cls ∈ tb_ ∧ (∀ (args : Array Value) (s : State), (∀ w ∈ tb_, w.before args s = true) → Bx s → ∀ w ∈ vx_atS RX5 ic cls nms, w.before args s = true) ∧ (∀ w ∈ Cond.classLink RX5 ik cls :: Cond.initialized cls :: vx_atS RX5 ic cls nms, vx_ot w = true) ∧ Bundle.fit cls = true
theorem xgI : ∀ w ∈ (vx_atS RX5 39 "java/lang/IndexOutOfBoundsException" nms).filter goodWord, w ∈ lw_tbl := by decide +kernel
theorem xnI : ∀ w ∈ (vx_atS RX5 39 "java/lang/IndexOutOfBoundsException" nms).filter (fun w => !goodWord w), w ∈ nbw "java/lang/IndexOutOfBoundsException" := by decide +kernel
theorem xoI : ∀ w ∈ Cond.classLink RX5 35 "java/lang/IndexOutOfBoundsException" :: Cond.initialized "java/lang/IndexOutOfBoundsException" :: vx_atS RX5 39 "java/lang/IndexOutOfBoundsException" nms, vx_ot w = true := by decide +kernel
theorem exxI : ExOk 35 39 "java/lang/IndexOutOfBoundsException" := ⟨mem_tb 389 (by decide +kernel) rfl, mem_tb 62 (by decide +kernel) rfl, fun _ _ hts hB => vx_hat (fun w hw => hts w (List.mem_filter.mpr ⟨xgI w hw, (List.mem_filter.mp hw).2⟩)) xnI (nbw_ok hB (List.mem_of_getElem? (i := 0) rfl)), xoI, by decide +kernel⟩
theorem xgA : ∀ w ∈ (vx_atS RX5 46 "java/lang/IllegalArgumentException" nms).filter goodWord, w ∈ lw_tbl := by decide +kernel
theorem xnA : ∀ w ∈ (vx_atS RX5 46 "java/lang/IllegalArgumentException" nms).filter (fun w => !goodWord w), w ∈ nbw "java/lang/IllegalArgumentException" := by decide +kernel
theorem xoA : ∀ w ∈ Cond.classLink RX5 42 "java/lang/IllegalArgumentException" :: Cond.initialized "java/lang/IllegalArgumentException" :: vx_atS RX5 46 "java/lang/IllegalArgumentException" nms, vx_ot w = true := by decide +kernel
theorem exxA : ExOk 42 46 "java/lang/IllegalArgumentException" := ⟨mem_tb 457 (by decide +kernel) rfl, mem_tb 63 (by decide +kernel) rfl, fun _ _ hts hB => vx_hat (fun w hw => hts w (List.mem_filter.mpr ⟨xgA w hw, (List.mem_filter.mp hw).2⟩)) xnA (nbw_ok hB (List.mem_of_getElem? (i := 1) rfl)), xoA, by decide +kernel⟩
theorem xgS : ∀ w ∈ (vx_atS RX5 89 "java/lang/IllegalStateException" nms).filter goodWord, w ∈ lw_tbl := by decide +kernel
theorem xnS : ∀ w ∈ (vx_atS RX5 89 "java/lang/IllegalStateException" nms).filter (fun w => !goodWord w), w ∈ nbw "java/lang/IllegalStateException" := by decide +kernel
theorem xoS : ∀ w ∈ Cond.classLink RX5 85 "java/lang/IllegalStateException" :: Cond.initialized "java/lang/IllegalStateException" :: vx_atS RX5 89 "java/lang/IllegalStateException" nms, vx_ot w = true := by decide +kernel
theorem exxS : ExOk 85 89 "java/lang/IllegalStateException" := ⟨mem_tb 505 (by decide +kernel) rfl, mem_tb 64 (by decide +kernel) rfl, fun _ _ hts hB => vx_hat (fun w hw => hts w (List.mem_filter.mpr ⟨xgS w hw, (List.mem_filter.mp hw).2⟩)) xnS (nbw_ok hB (List.mem_of_getElem? (i := 2) rfl)), xoS, by decide +kernel⟩
def PPx (g : Ge) (w : Wo) (sz : Nat) (U : State) : Prop := PP g w sz U ∧ Xx (va_A (wl g w) sz) U
def XX (g : Ge) (w : Wo) (sz : Nat) (xp : String → Wo → Prop) : String → State → State → Prop := fun E st t => (∃ w' : Wo, xp E w' ∧ va_P g.2.1 vwCl (wl g w') t.heap) ∧ va_F (va_A (wl g w) sz) st t
theorem PPx_blind (g : Ge) (as : List Value) (w : Wo) (sz : Nat) : FrameBlind (va_Pc as (PPx g w sz)) := fun a U gg mk h => by
  obtain ⟨h0, h1, h2, h3, h4⟩ := h
  obtain ⟨e0, e1⟩ := PP_blind g as w sz a U gg mk ⟨h0, h1⟩
  exact ⟨e0, e1, vx_Zq.moved (u := U) (U := U.calling gg mk a) (Vm.Alike.refl U.vm) h2, vx_Zq.moved (u := U) (U := U.calling gg mk a) (Vm.Alike.refl U.vm) h3, Bx.warm (s := U) (U := U.calling gg mk a) (State.WarmedH.refl U) h4⟩
/-- method q, called with as in the world w, returns (post) or throws (xp); at most one object is made -/
def Xtr (q : Mi) (as : List Value) (w : Wo) (post : Option Value → Wo → Prop) (xp : String → Wo → Prop) : Prop := ∀ (l : Launch) (g : Ge) (sz : Nat), l.stackTraces = false → vx_Met l q.1 (wsq q) q.2.2.2.2.2 (va_Pc (as.map (cv g)) (PPx g w sz)) (QQ g w sz post) (XX g w sz xp) 1 6 (va_A (wl g w) sz)
def wsh (q : Mi) (hh : List (Nat × Nat × Nat × Nat)) : List Cond := .codeWith q.1 q.2.1 q.2.2.1 q.2.2.2.1 hh :: tb_
/-- .. a method with a table of its own, that catches all -/
def Htr (q : Mi) (hh : List (Nat × Nat × Nat × Nat)) (as : List Value) (w : Wo) (post : Option Value → Wo → Prop) : Prop := ∀ (l : Launch) (g : Ge) (sz : Nat), l.stackTraces = false → vx_Met l q.1 (wsh q hh) q.2.2.2.2.2 (va_Pc (as.map (cv g)) (PPx g w sz)) (QQ g w sz post) (XX g w sz (fun _ _ => False)) 1 6 (va_A (wl g w) sz)
def RtX (g : Ge) (w0 : Wo) (post : Option Value → Wo → Prop) (xp : String → Wo → Prop) : Ct → Prop
  | (_, l, _, s, _, args, below, _, _, A, Q) => A = va_A (wl g w0) s.heap.size ∧ Q = vx_MQ below (QQ g w0 s.heap.size post) (XX g w0 s.heap.size xp) args s 1 6 A ∧ l.stackTraces = false ∧ Xx A s
def NoT : Ct → Prop
  | (_, _, _, _, _, _, _, _, c, _, _) => ∀ x ∈ c.exceptionTable.toList, False
def TbT (hh : List (Nat × Nat × Nat × Nat)) : Ct → Prop
  | (_, _, _, _, _, _, _, _, c, _, _) => c.exceptionTable.toList = tableOf hh
def MiOkX (q : Mi) : Prop := plainName q.1.cls = true ∧ Cond.code q.1 q.2.1 q.2.2.1 q.2.2.2.1 ∈ tb_ ∧ Cond.initialized q.1.cls ∈ tb_ ∧ (q.1.cls ≠ "java/lang/invoke/MethodHandle" ∧ q.1.cls ≠ "java/lang/invoke/VarHandle" ∧ (parseMethodDescriptor q.1.desc).map (fun d => d.parameters.length) = some q.2.2.2.2.1) ∧ q.2.2.2.2.2.cells = 1 ∧ q.2.2.2.2.2.slots = 6
def MiOkH (q : Mi) (hh : List (Nat × Nat × Nat × Nat)) : Prop := plainName q.1.cls = true ∧ Cond.codeWith q.1 q.2.1 q.2.2.1 q.2.2.2.1 hh ∈ tb_ ∧ Cond.initialized q.1.cls ∈ tb_ ∧ (q.1.cls ≠ "java/lang/invoke/MethodHandle" ∧ q.1.cls ≠ "java/lang/invoke/VarHandle" ∧ (parseMethodDescriptor q.1.desc).map (fun d => d.parameters.length) = some q.2.2.2.2.1) ∧ q.2.2.2.2.2.cells = 1 ∧ q.2.2.2.2.2.slots = 6
theorem tb_goodX (q : Mi) (h : MiOkX q) : GoodIn tb_ (wsq q) := by
  intro z hz
  rcases List.mem_cons.mp hz with rfl | hz
  · exact ⟨h.2.1, good_of_word (List.mem_filter.mp h.2.1).2⟩
  · exact ⟨hz, good_of_word (List.mem_filter.mp hz).2⟩
theorem tb_goodH (q : Mi) (hh : List (Nat × Nat × Nat × Nat)) (h : MiOkH q hh) : GoodIn tb_ (wsh q hh) := by
  intro z hz
  rcases List.mem_cons.mp hz with rfl | hz
  · exact ⟨h.2.1, good_of_word (List.mem_filter.mp h.2.1).2⟩
  · exact ⟨hz, good_of_word (List.mem_filter.mp hz).2⟩
theorem Xtr_intro {q : Mi} {as : List Value} {w : Wo} {post : Option Value → Wo → Prop} {xp : String → Wo → Prop} (ok : MiOkX q) (hc : cat1 as = true) (hn : as.length ≤ q.2.2.1) {L : Lo} (hL : lent as q.2.2.1 = L)
    (body : ∀ (g : Ge) (ct : Ct), Cx g q ct → RtX g w post xp ct → NoT ct → Az g q ct 0 0 0 L [] w) : Xtr q as w post xp := by
  intro l g sz hl
  refine vx_ofW (cc := q.2.1) (maxL := q.2.2.1) (ret := q.2.2.2.1) ok.1 rfl ?_
  intro p e s m args below meth c s₁ B hml ht hv
  obtain ⟨rfl, ⟨hsz, hP, hK, hD, hZ⟩, hX⟩ := hv
  subst hsz
  subst hL
  have hts0 := atoms_spec (ws := wsq q) B.pre
  have hb := body g (p, l, e, s, m, (as.map (cv g)).toArray, below, meth, c, va_A (wl g w) s.heap.size, vx_MQ below (QQ g w s.heap.size post) (XX g w s.heap.size xp) (as.map (cv g)).toArray s 1 6 (va_A (wl g w) s.heap.size))
    ⟨B.exec, B.bytes, hml, findClass_of_methodNamed B.named, fun z hz => hts0 z (List.mem_cons_of_mem _ hz), hK, hZ, fun z hz => Or.inr hz, B.returns, B.notSynchronized⟩ ⟨rfl, rfl, hl, hX⟩ ht
  rw [lg_entry_eq]
  exact hb s.heap [] _ hP hD.self va_S.rf (lh_entry g as q.2.2.1 (fun v hv => by have := List.all_eq_true.mp hc v hv; simpa using this) hn)
theorem Htr_intro {q : Mi} {hh : List (Nat × Nat × Nat × Nat)} {as : List Value} {w : Wo} {post : Option Value → Wo → Prop} (ok : MiOkH q hh) (hc : cat1 as = true) (hn : as.length ≤ q.2.2.1) {L : Lo} (hL : lent as q.2.2.1 = L)
    (body : ∀ (g : Ge) (ct : Ct), Cx g q ct → RtX g w post (fun _ _ => False) ct → TbT hh ct → Az g q ct 0 0 0 L [] w) : Htr q hh as w post := by
  intro l g sz hl
  refine vx_ofWH (cc := q.2.1) (maxL := q.2.2.1) (ret := q.2.2.2.1) (hh := hh) ok.1 rfl ?_
  intro p e s m args below meth c s₁ B hml hv
  obtain ⟨rfl, ⟨hsz, hP, hK, hD, hZ⟩, hX⟩ := hv
  subst hsz
  subst hL
  have hts0 := atoms_spec (ws := wsh q hh) B.pre
  have hb := body g (p, l, e, s, m, (as.map (cv g)).toArray, below, meth, c, va_A (wl g w) s.heap.size, vx_MQ below (QQ g w s.heap.size post) (XX g w s.heap.size (fun _ _ => False)) (as.map (cv g)).toArray s 1 6 (va_A (wl g w) s.heap.size))
    ⟨B.exec, B.bytes, hml, findClass_of_methodNamed B.named, fun z hz => hts0 z (List.mem_cons_of_mem _ hz), hK, hZ, fun z hz => Or.inr hz, B.returns, B.notSynchronized⟩ ⟨rfl, rfl, hl, hX⟩ (vx_table (x := q.1) B (hts0 _ List.mem_cons_self))
  rw [lg_entry_eq]
  exact hb s.heap [] _ hP hD.self va_S.rf (lh_entry g as q.2.2.1 (fun v hv => by have := List.all_eq_true.mp hc v hv; simpa using this) hn)
section RowsX
variable {g : Ge} {q : Mi} {ct : Ct} {k n pc : Nat} {L : Lo} {st : List Value} {w w0 : Wo} {post : Option Value → Wo → Prop} {xp : String → Wo → Prop}
theorem r_ireturnX (C : Cx g q ct) (T : RtX g w0 post xp ct) {x : Int32} {ty : FieldType} (hk : k ≤ 1) (hn6 : n ≤ 6) (hr9 : q.2.2.2.1 = some ty) (hn : narrow ty (.int x) = .int x) (hd : decode q.2.1 pc = .ok (.ireturn, 1)) (hp : post (some (.int x)) w) : Az g q ct k n pc L [.int x] w := by
  obtain ⟨p, l, e, s, m, args, below, meth, c, A, Q⟩ := ct
  obtain ⟨hx, hb, hml, hown, hts, hK, hZ, hA, hr, hlk⟩ := C
  intro H locs ls hP hD hS hL
  obtain ⟨rfl, rfl, hl, hX⟩ := T
  exact W.widen hk hn6 (vx_ret (W.zret hx hb (hr.trans hr9) hn (fun t ht hW => ⟨⟨some (.int x), w, rfl, hp, by rw [ht]; exact hP⟩, hS.F ht⟩) hS.2.2 hd hlk))
theorem r_returnX (C : Cx g q ct) (T : RtX g w0 post xp ct) (hk : k ≤ 1) (hn6 : n ≤ 6) (hr9 : q.2.2.2.1 = none) (hd : decode q.2.1 pc = .ok (.return_, 1)) (hp : post none w) : Az g q ct k n pc L [] w := by
  obtain ⟨p, l, e, s, m, args, below, meth, c, A, Q⟩ := ct
  obtain ⟨hx, hb, hml, hown, hts, hK, hZ, hA, hr, hlk⟩ := C
  intro H locs ls hP hD hS hL
  obtain ⟨rfl, rfl, hl, hX⟩ := T
  exact W.widen hk hn6 (vx_ret (W.vret hx hb (hr.trans hr9) (fun t ht hW => ⟨⟨none, w, rfl, hp, by rw [ht]; exact hP⟩, hS.F ht⟩) hS.2.2 hd hlk))
/-- throw new cls(text) -/
theorem r_throwS (C : Cx g q ct) (T : RtX g w0 post xp ct) (NT : NoT ct) {ik is ic : Nat} {cls text : String} (d0 : decode q.2.1 pc = .ok (.new ik, 3)) (d3 : decode q.2.1 (pc + 3) = .ok (.dup, 1)) (d4 : decode q.2.1 (pc + 4) = .ok (.ldc is, 2)) (d6 : decode q.2.1 (pc + 6) = .ok (.invokespecial ic, 3)) (d9 : decode q.2.1 (pc + 9) = .ok (.athrow, 1)) (E : ExOk ik ic cls) (hq : q.1.cls = RX5) (hstr : (is, text) ∈ nbS) (hfr : 5 < q.2.2.2.2.2.frames) (hlo : 82 ≤ q.2.2.2.2.2.locals) (hc1 : 1 ≤ q.2.2.2.2.2.cells) (hs6 : 6 ≤ q.2.2.2.2.2.slots) (hp : xp cls w) : Az g q ct 0 0 pc L [] w := by
  obtain ⟨p, l, e, s, m, args, below, meth, c, A, Q⟩ := ct
  obtain ⟨hx, hb, hml, hown, hts, hK, hZ, hA, hr, hlk⟩ := C
  intro H locs ls hP hD hS hL
  obtain ⟨rfl, rfl, hl, hU, hN, hB⟩ := T
  obtain ⟨sa, hst⟩ := hB.2.2.2 _ hstr
  rw [hq] at hown
  exact vx_throwS (own := RX5) (cls := cls) (text := text) (names := nms) (ik := ik) (is := is) (ic := ic) (sa := sa) (rest := []) hx hb hl hown E.2.2.2.2 (by decide +kernel) (hts _ E.1) (hts _ E.2.1) hst (E.2.2.1 args s hts hB) E.2.2.2.1 hU hN hS (hL.1.1.trans hml.symm) d0 d3 d4 d6 d9 (fun x hx9 => (NT x hx9).elim) hfr (by show 0 + _ ≤ _; exact hlo) (by omega) (by omega) hlk
    (fun t ha hz hk9 => ⟨⟨w, hp, hP.kept (fun j z hj => hk9 z.1 (vx_lt hP hj))⟩, Nat.le_trans hS.1 hz, fun z h1 h2 => (hk9 z (Nat.lt_of_lt_of_le h1 hS.1)).trans (hS.2.1 z h1 h2)⟩) hS.2.2 (by omega) (by omega)
/-- the machine with E thrown at pc -/
def AzX (g : Ge) (q : Mi) : Ct → Nat → Nat → Nat → Lo → List Value → Wo → String → Prop
  | (p, l, e, s, m, args, below, meth, c, A, Q), k, n, pc, L, st, w, E => ∀ (H : Heap) (locs : List Loc) (ls : Array Slot) (q9 : Addr) (ce9 : Cell), va_P g.2.1 vwCl (wl g w) H → va_D A (wl g w) → va_S A s.heap H locs → lh g ls q.2.2.1 L → H[q9]? = some ce9 → ce9.vm = .none → s.vm.findClass E = some ce9.cls → vx_W p l e q.2.2.2.2.2 s m args below meth c H locs k n Q (F0 m pc ls (st.map (cv g))) q9
theorem lh_none {ls ls' : Array Slot} {nL i : Nat} {u : Value} (h : lh g ls nL L)
    (h' : lv_has ls' nL ((i, u) :: (lcv g 0 L).filter (fun z => !(z.1 == i) && !(z.1 + 1 == i && z.2.category == 2)))) : lh g ls' nL (L.set i none) := by
  refine ⟨⟨h'.1, h'.2.1, fun z hz => h'.2.2 z ?_⟩, fun j v hj => ?_⟩
  · obtain ⟨j, v, h1, h2⟩ := (mem_lcv g _ 0 z).mp hz
    by_cases e : j = i
    · subst e
      rw [List.getElem?_set] at h1
      simp at h1
    · rw [List.getElem?_set_ne (Ne.symm e)] at h1
      refine List.mem_cons_of_mem _ (List.mem_filter.mpr ⟨(mem_lcv g L 0 z).mpr ⟨j, v, h1, h2⟩, ?_⟩)
      have hu := h.2 j v h1
      rw [h2]
      simp [cv_cat, hu, e]
  · by_cases e : j = i
    · subst e
      rw [List.getElem?_set] at hj
      simp at hj
    · rw [List.getElem?_set_ne (Ne.symm e)] at hj
      exact h.2 j v hj
theorem r_catch_n (C : Cx g q ct) (T : RtX g w0 post xp ct) {hh : List (Nat × Nat × Nat × Nat)} (TB : TbT hh ct) {E : String} (pre : List ExceptionTableEntry) (x : ExceptionTableEntry) (suf : List ExceptionTableEntry) (hsp : tableOf hh = pre ++ x :: suf) (hpass : ∀ z ∈ pre, z.catchType ≠ 0 ∧ ∃ nm, Cond.classLink q.1.cls z.catchType nm ∈ tb_ ∧ (E, nm) ∈ nbN) (hcv : covers x pc = true) (h0 : x.catchType ≠ 0) (hlk9 : Cond.classLink q.1.cls x.catchType E ∈ tb_) (hE : E ∈ nbC) {j : Fin 4} {L' : Lo} (hd : decode q.2.1 x.handlerPc = .ok (.astore_n j, 1)) (hj : (j : Nat) < q.2.2.1) (hl : L.set (j : Nat) none = L') (kk : Az g q ct k n (x.handlerPc + 1) L' [] w) : AzX g q ct k n pc L st w E := by
  subst hl
  obtain ⟨p, l, e, s, m, args, below, meth, c, A, Q⟩ := ct
  obtain ⟨hx, hb, hml, hown, hts, hK, hZ, hA, hr, hlk⟩ := C
  intro H locs ls q9 ce9 hP hD hS hL hce hcv9 hcl
  obtain ⟨-, -, hl, hU, hN, hB⟩ := T
  exact vx_catch (own := q.1.cls) (name := E) hown pre x suf (TB.trans hsp) (fun z hz => Or.inr ((hpass z hz).imp id (fun ⟨nm, h1, h2⟩ => ⟨nm, hts _ h1, hB.2.2.1 _ h2⟩))) hcv h0 (hts _ hlk9) (va_Nw.use rfl (hB.2.1 E hE)) hce hcv9 hcl (lv_astore_n hx hb hd rfl hL.1 hj rfl (fun ls' hl' => kk H locs ls' hP hD hS (lh_none hL hl')))
theorem r_catch (C : Cx g q ct) (T : RtX g w0 post xp ct) {hh : List (Nat × Nat × Nat × Nat)} (TB : TbT hh ct) {E : String} (pre : List ExceptionTableEntry) (x : ExceptionTableEntry) (suf : List ExceptionTableEntry) (hsp : tableOf hh = pre ++ x :: suf) (hpass : ∀ z ∈ pre, z.catchType ≠ 0 ∧ ∃ nm, Cond.classLink q.1.cls z.catchType nm ∈ tb_ ∧ (E, nm) ∈ nbN) (hcv : covers x pc = true) (h0 : x.catchType ≠ 0) (hlk9 : Cond.classLink q.1.cls x.catchType E ∈ tb_) (hE : E ∈ nbC) {j : Nat} {L' : Lo} (hd : decode q.2.1 x.handlerPc = .ok (.astore j, 2)) (hj : j < q.2.2.1) (hl : L.set j none = L') (kk : Az g q ct k n (x.handlerPc + 2) L' [] w) : AzX g q ct k n pc L st w E := by
  subst hl
  obtain ⟨p, l, e, s, m, args, below, meth, c, A, Q⟩ := ct
  obtain ⟨hx, hb, hml, hown, hts, hK, hZ, hA, hr, hlk⟩ := C
  intro H locs ls q9 ce9 hP hD hS hL hce hcv9 hcl
  obtain ⟨-, -, hl, hU, hN, hB⟩ := T
  exact vx_catch (own := q.1.cls) (name := E) hown pre x suf (TB.trans hsp) (fun z hz => Or.inr ((hpass z hz).imp id (fun ⟨nm, h1, h2⟩ => ⟨nm, hts _ h1, hB.2.2.1 _ h2⟩))) hcv h0 (hts _ hlk9) (va_Nw.use rfl (hB.2.1 E hE)) hce hcv9 hcl (lv_astore hx hb hd hL.1 hj rfl (fun ls' hl' => kk H locs ls' hP hD hS (lh_none hL hl')))
theorem Xx_in {A : Nat → Prop} {s U : State} {H : Heap} {locs : List Loc} (hX : Xx A s) (hD : va_D A (wl g w)) (hS : va_S A s.heap H locs) (hA : ∀ z : Nat, s.heap.size ≤ z → A z) (hU : U.heap = H) (hW : s.WarmedH U.vm) : Xx (va_A (wl g w) H.size) U := by
  obtain ⟨h1, h2, h3⟩ := hX
  unfold Xx
  rw [hU]
  exact ⟨((h1.moved hW.alike).kept hS.2.1).narrow (A_free hD hS hA), ((h2.moved hW.alike).kept hS.2.1).narrow (A_free hD hS hA), h3.warm hW⟩
theorem callQX {p : Program} {l : Launch} {e : Env} {R : Room} {s : State} {m : MethodId} {args : Array Value} {below : List Frame} {meth : Method} {c : Code} {H : Heap} {locs : List Loc} {cells slots mc ms : Nat} {Q : State → Prop} {ls : Array Slot} {st0 rest : List Value} {A0 : Nat → Prop} {H0 : Heap} {a : Array Value}
    (hr : vx_Run p l e R s m args below meth c H locs cells slots mc ms (F0 m pc ls st0) rest (QQ g w H.size post a) (XX g w H.size xp) (va_A (wl g w) H.size)) (hS : va_S A0 H0 H locs) (hf : ∀ z, va_A (wl g w) H.size z → A0 z)
    (kx : ∀ (E : String) (w' : Wo) (H1 : Heap) (locs1 : List Loc) (q9 : Addr) (ce9 : Cell), xp E w' → va_P g.2.1 vwCl (wl g w') H1 → va_S A0 H0 H1 locs1 → H1[q9]? = some ce9 → ce9.vm = .none → s.vm.findClass E = some ce9.cls → vx_W p l e R s m args below meth c H1 locs1 (cells + mc) (slots + ms) Q (F0 m pc ls rest) q9)
    (kk : ∀ (r : Option Value) (w' : Wo) (H1 : Heap) (locs1 : List Loc), post r w' → va_P g.2.1 vwCl (wl g w') H1 → va_S A0 H0 H1 locs1 → W p l e R s m args below meth c H1 locs1 (cells + mc) (slots + ms) Q (F0 m (pc + 3) ls ((r.map (cv g)).toList ++ rest))) : W p l e R s m args below meth c H locs cells slots Q (F0 m pc ls st0) := by
  intro T hT X
  rcases hr T hT X with ⟨v, st₀, t, T', Lc, h0, X', hL, e1, e2, ⟨⟨r, w', hv, hp, hb⟩, hF⟩, stp⟩ | ⟨q9, st₀, t, T', Lc, E, ce9, h0, X', hL, e1, e2, ⟨⟨w', hp, hb⟩, hF⟩, hce, hcv, hcl, stp⟩
  · cases hv
    obtain ⟨k1, k2, k3⟩ := vx_keep h0 e1 hS (fun z _ h => hf z h) hf hL hF
    obtain ⟨t2, a1, b1⟩ := kk r w' T'.heap (locs ++ Lc) hp (by rw [e1]; exact hb) k3 T' rfl X'
    exact ⟨t2, stp t2 a1, b1⟩
  · obtain ⟨k1, k2, k3⟩ := vx_keep h0 e1 hS (fun z _ h => hf z h) hf hL hF
    obtain ⟨t2, a1, b1⟩ := kx E w' T'.heap (locs ++ Lc) q9 ce9 hp (by rw [e1]; exact hb) k3 (by rw [e1]; exact hce) hcv hcl T' rfl X'
    exact ⟨t2, stp.trans a1, b1⟩
theorem r_callX (C : Cx g q ct) (T : RtX g w0 post xp ct) {z : Mi} {i a ci : Nat} {fs : List Value} {As rest st : List Value} {cq : vw_C} {po : Option Value → Wo → Prop} {xq : String → Wo → Prop} (hd : decode q.2.1 pc = .ok (.invokevirtual i, 3)) (hM : Xtr z (.ref a :: As) w po xq) (ok : MiOkX z) (hl : Cond.methodLink q.1.cls i z.1 ∈ tb_) (hi9 : Cond.instanceMethod z.1 ∈ tb_) (hs9 : Cond.selects z.1.cls z.1 z.1 ∈ tb_) (hrm : RmOk q z) (hst : st = As.reverse ++ .ref a :: rest) (hn : As.length = z.2.2.2.2.1) (ha : a < NW) (hwa : w a = ob ci fs) (hc : vwCl[ci]? = some cq) (hcq : cq.1 = z.1.cls) (hW : (rest.map fun v => v.category).sum ≤ 8) (hkc : k + 1 ≤ q.2.2.2.2.2.cells) (hkn : n + 6 ≤ q.2.2.2.2.2.slots)
    (kx : ∀ (E : String) (w' : Wo), xq E w' → AzX g q ct (k + 1) (n + 6) pc L rest w' E)
    (kk : ∀ (r : Option Value) (w' : Wo), po r w' → Az g q ct (k + 1) (n + 6) (pc + 3) L (r.toList ++ rest) w') : Az g q ct k n pc L st w := by
  subst hst
  obtain ⟨p, l, e, s, m, args, below, meth, c, A, Q⟩ := ct
  obtain ⟨hx, hb, hml, hown, hts, hK, hZ, hA, hr, hlk⟩ := C
  intro H locs ls hP hD hS hL
  obtain ⟨-, -, hl0, hX⟩ := T
  refine callQX (g := g) (w := w) (post := po) (xp := xq) (vx_runV (C := z.1.cls) (b := g.1 a) (As := As.map (cv g)) (rest := rest.map (cv g)) ⟨hx, hb, hml, hown, hts⟩ (hM l g H.size hl0)
    ⟨callB_of (n := z.2.2.2.2.1) hts (tb_goodX z ok) rfl ok.2.2.2.2.1 ok.2.2.2.2.2 (hts _ ok.2.2.1) (hts _ hl) ok.2.2.2.1 hrm, hts _ hi9, hts _ hs9⟩
    ⟨PPx_blind g _ w H.size, by rw [← hcq]; exact va_recv hK hP hc (q0 := a) (fs := fs.map (cv g)) (ci := ci) (by rw [wl_get g w ha, hwa]; rfl), fun U hU hW9 => ⟨rfl, ⟨by rw [hU], by rw [hU]; exact hP, va_K.moved hW9.alike hK, hD.weaken (fun _ _ _ _ => trivial), Zx_in hZ hD hS hA hU hW9.alike⟩, Xx_in hX hD hS hA hU hW9⟩⟩
    rfl (by rw [List.length_map]; exact hn) hL.1.1 (by simp [List.map_append, List.map_reverse, cv]) (lv_room (by rw [st_sum]; exact hW)) hd ⟨hkc, hkn⟩) hS (A_free hD hS hA)
    (fun E w' H1 locs1 q9 ce9 hp hP1 hS1 hce hcv hcl => ?_) (fun r w' H1 locs1 hp hP1 hS1 => ?_)
  · exact kx E w' hp H1 locs1 ls q9 ce9 hP1 (wl_D hD) hS1 hL hce hcv hcl
  · have := kk r w' hp H1 locs1 ls hP1 (wl_D hD) hS1 hL
    rw [List.map_append] at this
    cases r <;> exact this
theorem r_callXi (C : Cx g q ct) (T : RtX g w0 post xp ct) {z : Mi} {i a ci : Nat} {fs : List Value} {As rest st : List Value} {cq : vw_C} {po : Int32 → Wo → Prop} {xq : String → Wo → Prop} (hd : decode q.2.1 pc = .ok (.invokevirtual i, 3)) (hM : Xtr z (.ref a :: As) w (PI po) xq) (ok : MiOkX z) (hl : Cond.methodLink q.1.cls i z.1 ∈ tb_) (hi9 : Cond.instanceMethod z.1 ∈ tb_) (hs9 : Cond.selects z.1.cls z.1 z.1 ∈ tb_) (hrm : RmOk q z) (hst : st = As.reverse ++ .ref a :: rest) (hn : As.length = z.2.2.2.2.1) (ha : a < NW) (hwa : w a = ob ci fs) (hc : vwCl[ci]? = some cq) (hcq : cq.1 = z.1.cls) (hW : (rest.map fun v => v.category).sum ≤ 8) (hkc : k + 1 ≤ q.2.2.2.2.2.cells) (hkn : n + 6 ≤ q.2.2.2.2.2.slots)
    (kx : ∀ (E : String) (w' : Wo), xq E w' → AzX g q ct (k + 1) (n + 6) pc L rest w' E)
    (kk : ∀ (x : Int32) (w' : Wo), po x w' → Az g q ct (k + 1) (n + 6) (pc + 3) L (.int x :: rest) w') : Az g q ct k n pc L st w :=
  r_callX C T hd hM ok hl hi9 hs9 hrm hst hn ha hwa hc hcq hW hkc hkn kx (fun r w' h => by obtain ⟨x, rfl, h9⟩ := h; exact kk x w' h9)
theorem r_callXv (C : Cx g q ct) (T : RtX g w0 post xp ct) {z : Mi} {i a ci : Nat} {fs : List Value} {As rest st : List Value} {cq : vw_C} {po : Wo → Prop} {xq : String → Wo → Prop} (hd : decode q.2.1 pc = .ok (.invokevirtual i, 3)) (hM : Xtr z (.ref a :: As) w (PV po) xq) (ok : MiOkX z) (hl : Cond.methodLink q.1.cls i z.1 ∈ tb_) (hi9 : Cond.instanceMethod z.1 ∈ tb_) (hs9 : Cond.selects z.1.cls z.1 z.1 ∈ tb_) (hrm : RmOk q z) (hst : st = As.reverse ++ .ref a :: rest) (hn : As.length = z.2.2.2.2.1) (ha : a < NW) (hwa : w a = ob ci fs) (hc : vwCl[ci]? = some cq) (hcq : cq.1 = z.1.cls) (hW : (rest.map fun v => v.category).sum ≤ 8) (hkc : k + 1 ≤ q.2.2.2.2.2.cells) (hkn : n + 6 ≤ q.2.2.2.2.2.slots)
    (kx : ∀ (E : String) (w' : Wo), xq E w' → AzX g q ct (k + 1) (n + 6) pc L rest w' E)
    (kk : ∀ (w' : Wo), po w' → Az g q ct (k + 1) (n + 6) (pc + 3) L rest w') : Az g q ct k n pc L st w :=
  r_callX C T hd hM ok hl hi9 hs9 hrm hst hn ha hwa hc hcq hW hkc hkn kx (fun r w' h => by obtain ⟨rfl, h9⟩ := h; exact kk w' h9)
/-- a call of a method that catches all (the caller: the law) -/
theorem r_callH (C : Cx g q ct) (hl0 : ∀ p l e s m args below meth c A Q, ct = (p, l, e, s, m, args, below, meth, c, A, Q) → l.stackTraces = false ∧ Xx A s) {z : Mi} {hh : List (Nat × Nat × Nat × Nat)} {i : Nat} {As rest st : List Value} {po : Int32 → Wo → Prop} (hd : decode q.2.1 pc = .ok (.invokestatic i, 3)) (hM : Htr z hh As w (PI po)) (ok : MiOkH z hh) (hl : Cond.methodLink q.1.cls i z.1 ∈ tb_) (hs9 : Cond.static z.1 ∈ tb_) (hrm : RmOk q z) (hst : st = As.reverse ++ rest) (hn : As.length = z.2.2.2.2.1) (hW : (rest.map fun v => v.category).sum ≤ 8) (hkc : k + 1 ≤ q.2.2.2.2.2.cells) (hkn : n + 6 ≤ q.2.2.2.2.2.slots)
    (kk : ∀ (x : Int32) (w' : Wo), po x w' → Az g q ct (k + 1) (n + 6) (pc + 3) L (.int x :: rest) w') : Az g q ct k n pc L st w := by
  subst hst
  obtain ⟨p, l, e, s, m, args, below, meth, c, A, Q⟩ := ct
  obtain ⟨hx, hb, hml, hown, hts, hK, hZ, hA, hr, hlk⟩ := C
  intro H locs ls hP hD hS hL
  obtain ⟨hlt, hX⟩ := hl0 _ _ _ _ _ _ _ _ _ _ _ rfl
  have hG := tb_goodH z hh ok
  refine callQX (g := g) (w := w) (post := PI po) (xp := fun _ _ => False) (vx_runSX (hh := hh) (As := As.map (cv g)) (rest := rest.map (cv g)) ⟨hx, hb, hml, hown, hts⟩ (hM l g H.size hlt)
    ⟨⟨ok.2.2.2.2.1, ok.2.2.2.2.2, hrm.1, hrm.2, pay_in hts hG, List.mem_cons_self⟩, hts _ ok.2.1, hts _ ok.2.2.1, ⟨ok.2.2.2.1.1, ok.2.2.2.1.2.1⟩, fun sig h9 => by have h2 := ok.2.2.2.1.2.2; rw [h9] at h2; exact (Option.some.inj h2).symm, hts _ hl, hts _ hs9⟩
    ⟨PPx_blind g _ w H.size, fun U hU hW9 => ⟨rfl, ⟨by rw [hU], by rw [hU]; exact hP, va_K.moved hW9.alike hK, hD.weaken (fun _ _ _ _ => trivial), Zx_in hZ hD hS hA hU hW9.alike⟩, Xx_in hX hD hS hA hU hW9⟩⟩
    rfl (by rw [List.length_map]; exact hn) hL.1.1 (by simp [List.map_append, List.map_reverse]) (lv_room (by rw [st_sum]; exact hW)) hd ⟨hkc, hkn⟩) hS (A_free hD hS hA)
    (fun E w' H1 locs1 q9 ce9 hp hP1 hS1 hce hcv hcl => hp.elim) (fun r w' H1 locs1 hp hP1 hS1 => ?_)
  obtain ⟨x, rfl, h9⟩ := hp
  exact kk x w' h9 H1 locs1 ls hP1 (wl_D hD) hS1 hL
-- longs
theorem r_i2l (C : Cx g q ct) {x : Int32} (hd : decode q.2.1 pc = .ok (.i2l, 1)) (kk : Az g q ct k n (pc + 1) L (.long x.toInt64 :: st) w) : Az g q ct k n pc L (.int x :: st) w := by
  obtain ⟨p, l, e, s, m, args, below, meth, c, A, Q⟩ := ct
  obtain ⟨hx, hb, hml, hown, hts, hK, hZ, hA, hr, hlk⟩ := C
  intro H locs ls hP hD hS hL
  exact lv_i2l hx hb hd rfl (kk H locs ls hP hD hS hL)
theorem r_lcmp (C : Cx g q ct) {x y : Int64} (hd : decode q.2.1 pc = .ok (.lcmp, 1)) (kk : Az g q ct k n (pc + 1) L (.int (lg_cmp x y) :: st) w) : Az g q ct k n pc L (.long y :: .long x :: st) w := by
  obtain ⟨p, l, e, s, m, args, below, meth, c, A, Q⟩ := ct
  obtain ⟨hx, hb, hml, hown, hts, hK, hZ, hA, hr, hlk⟩ := C
  intro H locs ls hP hD hS hL
  exact W.lcmp hx hb hd (kk H locs ls hP hD hS hL)
theorem r_last (C : Cx g q ct) {a N j : Nat} {f : Nat → Int64} {i : Int32} {x : Int64} (hd : decode q.2.1 pc = .ok (.lastore, 1)) (ha : a < NW) (hw : w a = la N f) (hi : i = nI j) (hj : j < N) (hN : N < 2 ^ 31) (kk : Az g q ct k n (pc + 1) L st (wset w a (la N (vp_updL f j x)))) : Az g q ct k n pc L (.long x :: .int i :: .ref a :: st) w := by
  subst hi
  obtain ⟨p, l, e, s, m, args, below, meth, c, A, Q⟩ := ct
  obtain ⟨hx, hb, hml, hown, hts, hK, hZ, hA, hr, hlk⟩ := C
  intro H locs ls hP hD hS hL
  refine va_last hx hb hK hP hD hS a 1 (by rw [wl_get g w ha, hw]; rfl) rfl (vp_in_nI hj hN) hd (fun H1 locs1 hP1 hD1 hS1 => ?_)
  rw [nI_clamp (Nat.lt_trans hj hN)] at hP1 hD1
  have e9 : (wl g w).set a (g.1 a, .inl (g.2.2.2, N, .inr (.inl (vp_updL f j x)))) = wl g (wset w a (la N (vp_updL f j x))) := wl_set g w (la N (vp_updL f j x)) ha
  rw [e9] at hP1 hD1
  exact kk H1 locs1 ls hP1 hD1 hS1 hL
theorem r_lald (C : Cx g q ct) {a N j : Nat} {f : Nat → Int64} {i : Int32} (hd : decode q.2.1 pc = .ok (.laload, 1)) (ha : a < NW) (hw : w a = la N f) (hi : i = nI j) (hj : j < N) (hN : N < 2 ^ 31) (kk : Az g q ct k n (pc + 1) L (.long (f j) :: st) w) : Az g q ct k n pc L (.int i :: .ref a :: st) w := by
  subst hi
  obtain ⟨p, l, e, s, m, args, below, meth, c, A, Q⟩ := ct
  obtain ⟨hx, hb, hml, hown, hts, hK, hZ, hA, hr, hlk⟩ := C
  intro H locs ls hP hD hS hL
  refine va_lald hx hb hK hP a 1 (by rw [wl_get g w ha, hw]; rfl) rfl (vp_in_nI hj hN) hd ?_
  rw [nI_clamp (Nat.lt_trans hj hN)]
  exact kk H locs ls hP hD hS hL
theorem r_astore0_n (C : Cx g q ct) {j : Fin 4} {L' : Lo} (hd : decode q.2.1 pc = .ok (.astore_n j, 1)) (hj : (j : Nat) < q.2.2.1) (hl : L.set (j : Nat) (some .null) = L') (kk : Az g q ct k n (pc + 1) L' st w) : Az g q ct k n pc L (.null :: st) w := by
  subst hl
  obtain ⟨p, l, e, s, m, args, below, meth, c, A, Q⟩ := ct
  obtain ⟨hx, hb, hml, hown, hts, hK, hZ, hA, hr, hlk⟩ := C
  intro H locs ls hP hD hS hL
  exact lv_astore_nN hx hb hd rfl hL.1 hj rfl (fun ls' hl' => kk H locs ls' hP hD hS (lh_store hL rfl hl'))
theorem r_aload0_n (C : Cx g q ct) {j : Fin 4} (hd : decode q.2.1 pc = .ok (.aload_n j, 1)) (hl : L[(j : Nat)]? = some (some .null)) (kk : Az g q ct k n (pc + 1) L (.null :: st) w) : Az g q ct k n pc L st w := by
  obtain ⟨p, l, e, s, m, args, below, meth, c, A, Q⟩ := ct
  obtain ⟨hx, hb, hml, hown, hts, hK, hZ, hA, hr, hlk⟩ := C
  intro H locs ls hP hD hS hL
  exact lv_aload_nN hx hb hd rfl (lh_at hL hl) (kk H locs ls hP hD hS hL)
theorem r_callSr0 (C : Cx g q ct) {z : Mi} {i a ci : Nat} {fs : List Value} {As rest st : List Value} {cq : vw_C} {po : Wo → Prop} (hd : decode q.2.1 pc = .ok (.invokevirtual i, 3)) (hM : Ctr z (.ref a :: As) w (fun r w' => r = some .null ∧ po w')) (ok : MiOk z) (hl : Cond.methodLink q.1.cls i z.1 ∈ tb_) (hi9 : Cond.instanceMethod z.1 ∈ tb_) (hs9 : Cond.selects z.1.cls z.1 z.1 ∈ tb_) (hrm : RmOk q z) (hst : st = As.reverse ++ .ref a :: rest) (hn : As.length = z.2.2.2.2.1) (ha : a < NW) (hwa : w a = ob ci fs) (hc : vwCl[ci]? = some cq) (hcq : cq.1 = z.1.cls) (hW : (rest.map fun v => v.category).sum ≤ 8) (hkc : k ≤ q.2.2.2.2.2.cells) (hkn : n ≤ q.2.2.2.2.2.slots)
    (kk : ∀ (w' : Wo), po w' → Az g q ct k n (pc + 3) L (.null :: rest) w') : Az g q ct k n pc L st w := by
  refine r_callV C hM ok hl hi9 hs9 hrm hd hst hn ha hwa hc hcq hW hkc hkn (fun r w' h => ?_)
  obtain ⟨rfl, h9⟩ := h
  exact kk w' h9
end RowsX
