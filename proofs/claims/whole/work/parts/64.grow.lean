/-! THE LAYER OF CONSTRUCTORS: as the layer, but only the first N9 cells are there yet; cell number k lies at address g.1 0 + k -/
def wln (g : Ge) (w : Wo) (N9 : Nat) : va_W := (List.range N9).map (fun k => (g.1 k, ce g (w k)))
theorem wln_get (g : Ge) (w : Wo) {a N9 : Nat} (h : a < N9) : (wln g w N9)[a]? = some (g.1 a, ce g (w a)) := by
  unfold wln
  rw [List.getElem?_map, List.getElem?_range h]
  rfl
theorem wln_len (g : Ge) (w : Wo) (N9 : Nat) : (wln g w N9).length = N9 := by simp [wln]
theorem wln_set (g : Ge) (w : Wo) {a N9 : Nat} (c : Cel) (h : a < N9) : (wln g w N9).set a (g.1 a, ce g c) = wln g (wset w a c) N9 := by
  apply List.ext_getElem?
  intro i
  by_cases hi : i < N9
  · by_cases e : i = a
    · subst e
      rw [List.getElem?_set_self (by rw [wln_len]; exact hi), wln_get g _ hi, ws_eq]
    · rw [List.getElem?_set_ne (Ne.symm e), wln_get g _ hi, wln_get g _ hi, ws_ne e rfl]
  · rw [List.getElem?_eq_none (by rw [List.length_set, wln_len]; omega), List.getElem?_eq_none (by rw [wln_len]; omega)]
theorem wln_push (g : Ge) (w : Wo) (N9 : Nat) (c : Cel) : wln g w N9 ++ [(g.1 N9, ce g c)] = wln g (wset w N9 c) (N9 + 1) := by
  apply List.ext_getElem?
  intro i
  by_cases hi : i < N9
  · rw [List.getElem?_append_left (by rw [wln_len]; exact hi), wln_get g _ hi, wln_get g _ (Nat.lt_succ_of_lt hi), ws_ne (Nat.ne_of_lt hi) rfl]
  · by_cases e : i = N9
    · subst e
      rw [List.getElem?_append_right (by rw [wln_len]; omega), wln_len, Nat.sub_self, wln_get g _ (Nat.lt_succ_self _), ws_eq]
      rfl
    · rw [List.getElem?_eq_none (by rw [List.length_append, wln_len]; simp; omega), List.getElem?_eq_none (by rw [wln_len]; omega)]
/-- the constructors that only a nest mate may call, and where -/
def nbM : List (String × Nat × MethodName) := [(RX1, 51, yX2_init), (RX1, 58, yX4_init)]
def Bn (U : State) : Prop := ∀ x ∈ nbM, va_Nw (.methodLinkNest x.1 x.2.1 x.2.2 "SheetKeys") U
theorem Bn.warm {s U : State} (hW : s.WarmedH U.vm) (h : Bn s) : Bn U := fun x hx => va_Nw.warmM hW (h x hx)
theorem Bn.same {s U : State} (hW : s.vm = U.vm) (h : Bn s) : Bn U := fun x hx => va_Nw.same rfl hW (h x hx)
def Bz (g : Ge) (q : Mi) : Ct → Nat → Nat → Nat → Nat → Lo → List Value → Wo → Prop
  | (p, l, e, s, m, args, below, meth, c, A, Q), N9, k, n, pc, L, st, w => ∀ (H : Heap) (locs : List Loc) (ls : Array Slot), va_P g.2.1 vwCl (wln g w N9) H → va_D A (wln g w N9) → va_S A s.heap H locs → lh g ls q.2.2.1 L → W p l e q.2.2.2.2.2 s m args below meth c H locs k n Q (F0 m pc ls (st.map (cv g)))
/-- where the cells lie: one behind the other; N0 of them at the method's start -/
def Gx (g : Ge) (N0 : Nat) : Ct → Prop
  | (_, _, _, s, _, _, _, _, _, A, _) => (∀ k, k < 60 → g.1 k = g.1 0 + k) ∧ s.heap.size = g.1 0 + N0 ∧ (∀ z : Nat, A z → g.1 0 ≤ z) ∧ Bn s
section Grow
variable {g : Ge} {q : Mi} {ct : Ct} {N0 N9 k n pc : Nat} {L : Lo} {st : List Value} {w : Wo}
theorem b_forget (L' : Lo) (h : wk L L') (kk : Bz g q ct N9 k n pc L' st w) : Bz g q ct N9 k n pc L st w := by
  obtain ⟨p, l, e, s, m, args, below, meth, c, A, Q⟩ := ct
  intro H locs ls hP hD hS hL
  exact kk H locs ls hP hD hS (lh_wk hL h)
theorem b_eq {L' : Lo} {st' : List Value} {w' : Wo} (h1 : L = L') (h2 : st = st') (h3 : w = w') (kk : Bz g q ct N9 k n pc L' st' w') : Bz g q ct N9 k n pc L st w := by
  subst h1; subst h2; subst h3
  exact kk
theorem b_top {x y : Int32} (h : x = y) (kk : Bz g q ct N9 k n pc L (.int y :: st) w) : Bz g q ct N9 k n pc L (.int x :: st) w := by
  subst h
  exact kk
theorem b_iconst (C : Cx g q ct) {i : Int} {v : Int32} (hd : decode q.2.1 pc = .ok (.iconst i, 1)) (hv : Int32.ofInt i = v) (kk : Bz g q ct N9 k n (pc + 1) L (.int v :: st) w) : Bz g q ct N9 k n pc L (st) w := by
  obtain ⟨p, l, e, s, m, args, below, meth, c, A, Q⟩ := ct
  obtain ⟨hx, hb, hml, hown, hts, hK, hZ, hA, hr, hlk⟩ := C
  intro H locs ls hP hD hS hL
  exact lv_iconst hx hb hd hv (kk H locs ls hP hD hS hL)
theorem b_bipush (C : Cx g q ct) {i : Int} {v : Int32} (hd : decode q.2.1 pc = .ok (.bipush i, 2)) (hv : (Int8.ofInt i).toInt32 = v) (kk : Bz g q ct N9 k n (pc + 2) L (.int v :: st) w) : Bz g q ct N9 k n pc L (st) w := by
  obtain ⟨p, l, e, s, m, args, below, meth, c, A, Q⟩ := ct
  obtain ⟨hx, hb, hml, hown, hts, hK, hZ, hA, hr, hlk⟩ := C
  intro H locs ls hP hD hS hL
  exact lv_bipush hx hb hd hv (kk H locs ls hP hD hS hL)
theorem b_sipush (C : Cx g q ct) {i : Int} {v : Int32} (hd : decode q.2.1 pc = .ok (.sipush i, 3)) (hv : (Int16.ofInt i).toInt32 = v) (kk : Bz g q ct N9 k n (pc + 3) L (.int v :: st) w) : Bz g q ct N9 k n pc L (st) w := by
  obtain ⟨p, l, e, s, m, args, below, meth, c, A, Q⟩ := ct
  obtain ⟨hx, hb, hml, hown, hts, hK, hZ, hA, hr, hlk⟩ := C
  intro H locs ls hP hD hS hL
  exact lv_sipush hx hb hd hv (kk H locs ls hP hD hS hL)
theorem b_ldc (C : Cx g q ct) {i : Nat} {v : Int32} (hd : decode q.2.1 pc = .ok (.ldc i, 2)) (hc : Cond.constant q.1.cls i v ∈ tb_) (kk : Bz g q ct N9 k n (pc + 2) L (.int v :: st) w) : Bz g q ct N9 k n pc L (st) w := by
  obtain ⟨p, l, e, s, m, args, below, meth, c, A, Q⟩ := ct
  obtain ⟨hx, hb, hml, hown, hts, hK, hZ, hA, hr, hlk⟩ := C
  intro H locs ls hP hD hS hL
  exact lv_ldc hx hb hown (hts _ hc) hd (kk H locs ls hP hD hS hL)
theorem b_iload_n (C : Cx g q ct) {j : Fin 4} {x : Int32} (hd : decode q.2.1 pc = .ok (.iload_n j, 1)) (hl : L[(j : Nat)]? = some (some (.int x))) (kk : Bz g q ct N9 k n (pc + 1) L (.int x :: st) w) : Bz g q ct N9 k n pc L (st) w := by
  obtain ⟨p, l, e, s, m, args, below, meth, c, A, Q⟩ := ct
  obtain ⟨hx, hb, hml, hown, hts, hK, hZ, hA, hr, hlk⟩ := C
  intro H locs ls hP hD hS hL
  exact lv_iload_n hx hb hd rfl (lh_at hL hl) (kk H locs ls hP hD hS hL)
theorem b_iload (C : Cx g q ct) {j : Nat} {x : Int32} (hd : decode q.2.1 pc = .ok (.iload j, 2)) (hl : L[j]? = some (some (.int x))) (kk : Bz g q ct N9 k n (pc + 2) L (.int x :: st) w) : Bz g q ct N9 k n pc L (st) w := by
  obtain ⟨p, l, e, s, m, args, below, meth, c, A, Q⟩ := ct
  obtain ⟨hx, hb, hml, hown, hts, hK, hZ, hA, hr, hlk⟩ := C
  intro H locs ls hP hD hS hL
  exact lv_iload hx hb hd (lh_at hL hl) (kk H locs ls hP hD hS hL)
theorem b_aload_n (C : Cx g q ct) {j : Fin 4} {x : Nat} (hd : decode q.2.1 pc = .ok (.aload_n j, 1)) (hl : L[(j : Nat)]? = some (some (.ref x))) (kk : Bz g q ct N9 k n (pc + 1) L (.ref x :: st) w) : Bz g q ct N9 k n pc L (st) w := by
  obtain ⟨p, l, e, s, m, args, below, meth, c, A, Q⟩ := ct
  obtain ⟨hx, hb, hml, hown, hts, hK, hZ, hA, hr, hlk⟩ := C
  intro H locs ls hP hD hS hL
  exact lv_aload_n hx hb hd rfl (lh_at hL hl) (kk H locs ls hP hD hS hL)
theorem b_aload (C : Cx g q ct) {j : Nat} {x : Nat} (hd : decode q.2.1 pc = .ok (.aload j, 2)) (hl : L[j]? = some (some (.ref x))) (kk : Bz g q ct N9 k n (pc + 2) L (.ref x :: st) w) : Bz g q ct N9 k n pc L (st) w := by
  obtain ⟨p, l, e, s, m, args, below, meth, c, A, Q⟩ := ct
  obtain ⟨hx, hb, hml, hown, hts, hK, hZ, hA, hr, hlk⟩ := C
  intro H locs ls hP hD hS hL
  exact lv_aload hx hb hd (lh_at hL hl) (kk H locs ls hP hD hS hL)
theorem b_istore_n (C : Cx g q ct) {j : Fin 4} {x : Int32} {L' : Lo} (hd : decode q.2.1 pc = .ok (.istore_n j, 1)) (hj : (j : Nat) < q.2.2.1) (hl : L.set (j : Nat) (some (.int x)) = L') (kk : Bz g q ct N9 k n (pc + 1) L' st w) : Bz g q ct N9 k n pc L (.int x :: st) w := by
  subst hl
  obtain ⟨p, l, e, s, m, args, below, meth, c, A, Q⟩ := ct
  obtain ⟨hx, hb, hml, hown, hts, hK, hZ, hA, hr, hlk⟩ := C
  intro H locs ls hP hD hS hL
  exact lv_istore_n hx hb hd rfl hL.1 hj rfl (fun ls' hl' => kk H locs ls' hP hD hS (lh_store hL rfl hl'))
theorem b_istore (C : Cx g q ct) {j : Nat} {x : Int32} {L' : Lo} (hd : decode q.2.1 pc = .ok (.istore j, 2)) (hj : j < q.2.2.1) (hl : L.set j (some (.int x)) = L') (kk : Bz g q ct N9 k n (pc + 2) L' st w) : Bz g q ct N9 k n pc L (.int x :: st) w := by
  subst hl
  obtain ⟨p, l, e, s, m, args, below, meth, c, A, Q⟩ := ct
  obtain ⟨hx, hb, hml, hown, hts, hK, hZ, hA, hr, hlk⟩ := C
  intro H locs ls hP hD hS hL
  exact lv_istore hx hb hd hL.1 hj rfl (fun ls' hl' => kk H locs ls' hP hD hS (lh_store hL rfl hl'))
theorem b_astore_n (C : Cx g q ct) {j : Fin 4} {x : Nat} {L' : Lo} (hd : decode q.2.1 pc = .ok (.astore_n j, 1)) (hj : (j : Nat) < q.2.2.1) (hl : L.set (j : Nat) (some (.ref x)) = L') (kk : Bz g q ct N9 k n (pc + 1) L' st w) : Bz g q ct N9 k n pc L (.ref x :: st) w := by
  subst hl
  obtain ⟨p, l, e, s, m, args, below, meth, c, A, Q⟩ := ct
  obtain ⟨hx, hb, hml, hown, hts, hK, hZ, hA, hr, hlk⟩ := C
  intro H locs ls hP hD hS hL
  exact lv_astore_n hx hb hd rfl hL.1 hj rfl (fun ls' hl' => kk H locs ls' hP hD hS (lh_store hL rfl hl'))
theorem b_iinc (C : Cx g q ct) {j : Nat} {i : Int} {x v : Int32} {L' : Lo} (hd : decode q.2.1 pc = .ok (.iinc j i, 3)) (hi : L[j]? = some (some (.int x))) (hv : x + Int32.ofInt i = v) (hj : j < q.2.2.1) (hl : L.set j (some (.int v)) = L') (kk : Bz g q ct N9 k n (pc + 3) L' st w) : Bz g q ct N9 k n pc L st w := by
  subst hl
  obtain ⟨p, l, e, s, m, args, below, meth, c, A, Q⟩ := ct
  obtain ⟨hx, hb, hml, hown, hts, hK, hZ, hA, hr, hlk⟩ := C
  intro H locs ls hP hD hS hL
  obtain ⟨b, hb1⟩ := List.getElem?_of_mem ((mem_lcv g L 0 (0 + j, .int x)).mpr ⟨j, .int x, hi, rfl⟩)
  rw [Nat.zero_add] at hb1
  exact lv_iinc hx hb hd hL.1 hb1 hv hj rfl (fun ls' hl' => kk H locs ls' hP hD hS (lh_store hL rfl hl'))
theorem b_dup (C : Cx g q ct) {v : Value} (hd : decode q.2.1 pc = .ok (.dup, 1)) (hc : v.category = 1) (kk : Bz g q ct N9 k n (pc + 1) L (v :: v :: st) w) : Bz g q ct N9 k n pc L (v :: st) w := by
  obtain ⟨p, l, e, s, m, args, below, meth, c, A, Q⟩ := ct
  obtain ⟨hx, hb, hml, hown, hts, hK, hZ, hA, hr, hlk⟩ := C
  intro H locs ls hP hD hS hL
  exact lv_dup hx hb hd ((cv_cat g v).trans hc) (kk H locs ls hP hD hS hL)
theorem b_goto (C : Cx g q ct) {off : Int} (tgt : Nat) (hd : decode q.2.1 pc = .ok (.goto off, 3)) (ht : (pc : Int) + off = (tgt : Int)) (kk : Bz g q ct N9 k n tgt L st w) : Bz g q ct N9 k n pc L st w := by
  obtain ⟨p, l, e, s, m, args, below, meth, c, A, Q⟩ := ct
  obtain ⟨hx, hb, hml, hown, hts, hK, hZ, hA, hr, hlk⟩ := C
  intro H locs ls hP hD hS hL
  exact lv_goto hx hb hd ht (kk H locs ls hP hD hS hL)
theorem b_icmp_ge (C : Cx g q ct) {x y : Int32} {off : Int} (tgt : Nat) (hd : decode q.2.1 pc = .ok (.if_icmp .ge off, 3)) (ht : (pc : Int) + off = (tgt : Int)) (kt : y ≤ x → Bz g q ct N9 k n tgt L st w) (kf : ¬ (y ≤ x) → Bz g q ct N9 k n (pc + 3) L st w) : Bz g q ct N9 k n pc L (.int y :: .int x :: st) w := by
  obtain ⟨p, l, e, s, m, args, below, meth, c, A, Q⟩ := ct
  obtain ⟨hx, hb, hml, hown, hts, hK, hZ, hA, hr, hlk⟩ := C
  intro H locs ls hP hD hS hL
  exact lv_icmp_ge hx hb hd ht (fun h => kt h H locs ls hP hD hS hL) (fun h => kf h H locs ls hP hD hS hL)
theorem b_icmp_lt (C : Cx g q ct) {x y : Int32} {off : Int} (tgt : Nat) (hd : decode q.2.1 pc = .ok (.if_icmp .lt off, 3)) (ht : (pc : Int) + off = (tgt : Int)) (kt : x < y → Bz g q ct N9 k n tgt L st w) (kf : ¬ (x < y) → Bz g q ct N9 k n (pc + 3) L st w) : Bz g q ct N9 k n pc L (.int y :: .int x :: st) w := by
  obtain ⟨p, l, e, s, m, args, below, meth, c, A, Q⟩ := ct
  obtain ⟨hx, hb, hml, hown, hts, hK, hZ, hA, hr, hlk⟩ := C
  intro H locs ls hP hD hS hL
  exact lv_icmp_lt hx hb hd ht (fun h => kt h H locs ls hP hD hS hL) (fun h => kf h H locs ls hP hD hS hL)
theorem b_if_ge (C : Cx g q ct) {x : Int32} {off : Int} (tgt : Nat) (hd : decode q.2.1 pc = .ok (.ifCond .ge off, 3)) (ht : (pc : Int) + off = (tgt : Int)) (kt : 0 ≤ x → Bz g q ct N9 k n tgt L st w) (kf : ¬ (0 ≤ x) → Bz g q ct N9 k n (pc + 3) L st w) : Bz g q ct N9 k n pc L (.int x :: st) w := by
  obtain ⟨p, l, e, s, m, args, below, meth, c, A, Q⟩ := ct
  obtain ⟨hx, hb, hml, hown, hts, hK, hZ, hA, hr, hlk⟩ := C
  intro H locs ls hP hD hS hL
  exact lv_if_ge hx hb hd ht (fun h => kt h H locs ls hP hD hS hL) (fun h => kf h H locs ls hP hD hS hL)
theorem b_if_lt (C : Cx g q ct) {x : Int32} {off : Int} (tgt : Nat) (hd : decode q.2.1 pc = .ok (.ifCond .lt off, 3)) (ht : (pc : Int) + off = (tgt : Int)) (kt : x < 0 → Bz g q ct N9 k n tgt L st w) (kf : ¬ (x < 0) → Bz g q ct N9 k n (pc + 3) L st w) : Bz g q ct N9 k n pc L (.int x :: st) w := by
  obtain ⟨p, l, e, s, m, args, below, meth, c, A, Q⟩ := ct
  obtain ⟨hx, hb, hml, hown, hts, hK, hZ, hA, hr, hlk⟩ := C
  intro H locs ls hP hD hS hL
  exact lv_if_lt hx hb hd ht (fun h => kt h H locs ls hP hD hS hL) (fun h => kf h H locs ls hP hD hS hL)
theorem b_get (C : Cx g q ct) {i ci j a : Nat} {fs : List Value} {v : Value} (hd : decode q.2.1 pc = .ok (.getfield i, 3)) (F : Fl q.1.cls i ci j) (ha : a < N9) (hw : w a = ob ci fs) (hv : fs[j]? = some v) (kk : Bz g q ct N9 k n (pc + 3) L (v :: st) w) : Bz g q ct N9 k n pc L (.ref a :: st) w := by
  obtain ⟨p, l, e, s, m, args, below, meth, c, A, Q⟩ := ct
  obtain ⟨hx, hb, hml, hown, hts, hK, hZ, hA, hr, hlk⟩ := C
  intro H locs ls hP hD hS hL
  obtain ⟨C, T, N, h1, h2, h3, h4⟩ := F
  exact va_get (v := cv g v) (fs := fs.map (cv g)) (ci := ci) hx hb hts h3 hown hK hP a (by rw [wln_get g w ha, hw]; rfl) h1 j h2 (hts _ h4) (fun _ h9 => h9) (by rw [List.getElem?_map, hv]; rfl) hd (kk H locs ls hP hD hS hL)
theorem b_iald (C : Cx g q ct) {a N : Nat} {f : Nat → Int32} {i : Int32} (hd : decode q.2.1 pc = .ok (.iaload, 1)) (ha : a < N9) (hw : w a = ia N f) (hi : vp_in i N) (kk : Bz g q ct N9 k n (pc + 1) L (.int (f i.toNatClampNeg) :: st) w) : Bz g q ct N9 k n pc L (.int i :: .ref a :: st) w := by
  obtain ⟨p, l, e, s, m, args, below, meth, c, A, Q⟩ := ct
  obtain ⟨hx, hb, hml, hown, hts, hK, hZ, hA, hr, hlk⟩ := C
  intro H locs ls hP hD hS hL
  exact va_iald hx hb hK hP a 0 (by rw [wln_get g w ha, hw]; rfl) rfl hi hd (kk H locs ls hP hD hS hL)
theorem b_ialdN (C : Cx g q ct) {a N j : Nat} {f : Nat → Int32} {i : Int32} (hd : decode q.2.1 pc = .ok (.iaload, 1)) (ha : a < N9) (hw : w a = ia N f) (hi : i = nI j) (hj : j < N) (hN : N < 2 ^ 31) (kk : Bz g q ct N9 k n (pc + 1) L (.int (f j) :: st) w) : Bz g q ct N9 k n pc L (.int i :: .ref a :: st) w := by
  subst hi
  refine b_iald C hd ha hw (vp_in_nI hj hN) ?_
  rw [nI_clamp (Nat.lt_trans hj hN)]
  exact kk
theorem b_gets (C : Cx g q ct) {i j : Nat} {z : Zt} (hd : decode q.2.1 pc = .ok (.getstatic i, 3)) (hz : zts[j]? = some z) (hlk9 : Cond.fieldLink q.1.cls i z.1 z.2.1 "[I" ∈ tb_) (kk : Bz g q ct N9 k n (pc + 3) L (.ref (900 + j) :: st) w) : Bz g q ct N9 k n pc L st w := by
  obtain ⟨p, l, e, s, m, args, below, meth, c, A, Q⟩ := ct
  obtain ⟨hx, hb, hml, hown, hts, hK, hZ, hA, hr, hlk⟩ := C
  intro H locs ls hP hD hS hL
  exact va_gets hx hb (hZ j z hz).1 hS hown (hts _ hlk9) (fun _ h9 => h9) hd (kk H locs ls hP hD hS hL)
theorem b_tald (C : Cx g q ct) {j a t : Nat} {z : Zt} {i : Int32} (hd : decode q.2.1 pc = .ok (.iaload, 1)) (hz : zts[j]? = some z) (ha : a = 900 + j) (hi : i = nI t) (ht : t < z.2.2.1) (hN : z.2.2.1 < 2 ^ 31) (kk : Bz g q ct N9 k n (pc + 1) L (.int (z.2.2.2 t) :: st) w) : Bz g q ct N9 k n pc L (.int i :: .ref a :: st) w := by
  subst ha; subst hi
  obtain ⟨p, l, e, s, m, args, below, meth, c, A, Q⟩ := ct
  obtain ⟨hx, hb, hml, hown, hts, hK, hZ, hA, hr, hlk⟩ := C
  intro H locs ls hP hD hS hL
  exact va_ti hx hb (hZ j z hz).2 hS (vp_in_nI ht hN) (v := .int (z.2.2.2 t)) (by rw [nI_clamp (Nat.lt_trans ht hN)]) hd (kk H locs ls hP hD hS hL)
theorem b_null (C : Cx g q ct) (hd : decode q.2.1 pc = .ok (.aconst_null, 1)) (kk : Bz g q ct N9 k n (pc + 1) L (.null :: st) w) : Bz g q ct N9 k n pc L (st) w := by
  obtain ⟨p, l, e, s, m, args, below, meth, c, A, Q⟩ := ct
  obtain ⟨hx, hb, hml, hown, hts, hK, hZ, hA, hr, hlk⟩ := C
  intro H locs ls hP hD hS hL
  exact lv_null hx hb hd (kk H locs ls hP hD hS hL)
theorem b_ldcw (C : Cx g q ct) {i : Nat} {v : Int32} (hd : decode q.2.1 pc = .ok (.ldc_w i, 3)) (hc : Cond.constant q.1.cls i v ∈ tb_) (kk : Bz g q ct N9 k n (pc + 3) L (.int v :: st) w) : Bz g q ct N9 k n pc L (st) w := by
  obtain ⟨p, l, e, s, m, args, below, meth, c, A, Q⟩ := ct
  obtain ⟨hx, hb, hml, hown, hts, hK, hZ, hA, hr, hlk⟩ := C
  intro H locs ls hP hD hS hL
  exact lv_ldcw hx hb hown (hts _ hc) hd (kk H locs ls hP hD hS hL)
theorem b_put (C : Cx g q ct) {i ci j a : Nat} {fs fs' : List Value} {x : Int32} {ty : FieldType} (hd : decode q.2.1 pc = .ok (.putfield i, 3)) (F : Fp q.1.cls i ci j ty) (ha : a < N9) (hw : w a = ob ci fs) (hn : narrow ty (.int x) = .int x) (hfit : fits ty (.int x) = true) (hl : j < fs.length) (hf : fs.set j (.int x) = fs') (kk : Bz g q ct N9 k n (pc + 3) L st (wset w a (ob ci fs'))) : Bz g q ct N9 k n pc L (.int x :: .ref a :: st) w := by
  obtain ⟨p, l, e, s, m, args, below, meth, c, A, Q⟩ := ct
  obtain ⟨hx, hb, hml, hown, hts, hK, hZ, hA, hr, hlk⟩ := C
  intro H locs ls hP hD hS hL
  obtain ⟨C, T, N, ty0, h1, h2, h3, h4, h5, h6, h7, h8⟩ := F
  refine va_put (v := .int x) (fs := fs.map (cv g)) (ci := ci) hx hb hts h3 ty0 h7 h8 hown hK hP hD hS a (by rw [wln_get g w ha, hw]; rfl) h1 j h2 (hts _ h4) (fun _ h9 => h9) h5 h6 hn hfit (by rw [List.length_map]; exact hl) hd (fun H1 locs1 hP1 hD1 hS1 => ?_)
  have e : (wln g w N9).set a (g.1 a, .inr (ci, (fs.map (cv g)).set j (.int x))) = wln g (wset w a (ob ci fs')) N9 := by
    rw [← wln_set g w (ob ci fs') ha, ← hf]
    simp only [ob, ce, List.map_set]
    rfl
  rw [e] at hP1 hD1
  exact kk H1 locs1 ls hP1 hD1 hS1 hL
theorem b_iast (C : Cx g q ct) {a N : Nat} {f : Nat → Int32} {i x : Int32} (hd : decode q.2.1 pc = .ok (.iastore, 1)) (ha : a < N9) (hw : w a = ia N f) (hi : vp_in i N) (kk : Bz g q ct N9 k n (pc + 1) L st (wset w a (ia N (upd f i.toNatClampNeg x)))) : Bz g q ct N9 k n pc L (.int x :: .int i :: .ref a :: st) w := by
  obtain ⟨p, l, e, s, m, args, below, meth, c, A, Q⟩ := ct
  obtain ⟨hx, hb, hml, hown, hts, hK, hZ, hA, hr, hlk⟩ := C
  intro H locs ls hP hD hS hL
  refine va_iast hx hb hK hP hD hS a 0 (by rw [wln_get g w ha, hw]; rfl) rfl hi hd (fun H1 locs1 hP1 hD1 hS1 => ?_)
  have e : (wln g w N9).set a (g.1 a, .inl (g.2.2.1, N, .inl (upd f i.toNatClampNeg x))) = wln g (wset w a (ia N (upd f i.toNatClampNeg x))) N9 := wln_set g w (ia N (upd f i.toNatClampNeg x)) ha
  rw [e] at hP1 hD1
  exact kk H1 locs1 ls hP1 hD1 hS1 hL
theorem b_iastN (C : Cx g q ct) {a N j : Nat} {f : Nat → Int32} {i x : Int32} (hd : decode q.2.1 pc = .ok (.iastore, 1)) (ha : a < N9) (hw : w a = ia N f) (hi : i = nI j) (hj : j < N) (hN : N < 2 ^ 31) (kk : Bz g q ct N9 k n (pc + 1) L st (wset w a (ia N (upd f j x)))) : Bz g q ct N9 k n pc L (.int x :: .int i :: .ref a :: st) w := by
  subst hi
  refine b_iast C hd ha hw (vp_in_nI hj hN) ?_
  rw [nI_clamp (Nat.lt_trans hj hN)]
  exact kk
theorem b_iastF (C : Cx g q ct) {a N j x : Nat} {B : Nat → Nat} {i v : Int32} (hd : decode q.2.1 pc = .ok (.iastore, 1)) (ha : a < N9) (hw : w a = ia N (nf B)) (hi : i = nI j) (hv : v = nI x) (hj : j < N) (hN : N < 2 ^ 31) (kk : Bz g q ct N9 k n (pc + 1) L st (wset w a (ia N (nf (upn B j x))))) : Bz g q ct N9 k n pc L (.int v :: .int i :: .ref a :: st) w := by
  subst hv
  refine b_iastN C hd ha hw hi hj hN ?_
  rw [upd_nf]
  exact kk
/-- a field that holds a cell, written in a constructor of its class; fn: final -/
def Fr (own : String) (i ci j : Nat) (fn : Bool) : Prop := ∃ (C : String) (T : u_T) (N : Nat) (ty0 : Nat → FieldType) (ty : FieldType), vwCl[ci]? = some (C, T, N) ∧ j < N ∧ (∀ w ∈ u_ws C T N, w ∈ tb_) ∧ Cond.fieldLink own i (T j).1 (T j).2.1 (T j).2.2.1 ∈ tb_ ∧ (T j).2.2.2 = fn ∧ parseFieldDescriptor (T j).2.2.1 = some ty ∧ (∀ k, k < N → parseFieldDescriptor (T k).2.2.1 = some (ty0 k)) ∧ (∀ a, a < N → ∀ b, b < N → a ≠ b → (T a).2.1 ≠ (T b).2.1) ∧ (T j).1 = own ∧ (∀ x : Nat, narrow ty (.ref x) = .ref x) ∧ ∀ x : Nat, fits ty (.ref x) = true
def Nm : Ct → Prop
  | (_, _, _, _, _, _, _, meth, _, _, _) => meth.name = "<init>"
theorem b_putR (C : Cx g q ct) (I : Nm ct) {i ci j a b : Nat} {fs fs' : List Value} {fn : Bool} (hd : decode q.2.1 pc = .ok (.putfield i, 3)) (F : Fr q.1.cls i ci j fn) (ha : a < N9) (hw : w a = ob ci fs) (hl : j < fs.length) (hf : fs.set j (.ref b) = fs') (kk : Bz g q ct N9 k n (pc + 3) L st (wset w a (ob ci fs'))) : Bz g q ct N9 k n pc L (.ref b :: .ref a :: st) w := by
  obtain ⟨p, l, e, s, m, args, below, meth, c, A, Q⟩ := ct
  obtain ⟨hx, hb, hml, hown, hts, hK, hZ, hA, hr, hlk⟩ := C
  intro H locs ls hP hD hS hL
  obtain ⟨C, T, N, ty0, ty, h1, h2, h3, h4, h5, h6, h7, h8, h9, h10, h11⟩ := F
  have e : (wln g w N9).set a (g.1 a, .inr (ci, (fs.map (cv g)).set j (.ref (g.1 b)))) = wln g (wset w a (ob ci fs')) N9 := by
    rw [← wln_set g w (ob ci fs') ha, ← hf]
    simp only [ob, ce, List.map_set]
    rfl
  cases fn with
  | true =>
    refine va_putF (v := .ref (g.1 b)) (fs := fs.map (cv g)) (ci := ci) hx hb hts h3 ty0 h7 h8 hown hK hP hD hS a (by rw [wln_get g w ha, hw]; rfl) h1 j h2 (hts _ h4) (fun _ h9 => h9) h5 I h9 h6 (h10 _) (h11 _) (by rw [List.length_map]; exact hl) hd (fun H1 locs1 hP1 hD1 hS1 => ?_)
    rw [e] at hP1 hD1
    exact kk H1 locs1 ls hP1 hD1 hS1 hL
  | false =>
    refine va_put (v := .ref (g.1 b)) (fs := fs.map (cv g)) (ci := ci) hx hb hts h3 ty0 h7 h8 hown hK hP hD hS a (by rw [wln_get g w ha, hw]; rfl) h1 j h2 (hts _ h4) (fun _ h9 => h9) h5 h6 (h10 _) (h11 _) (by rw [List.length_map]; exact hl) hd (fun H1 locs1 hP1 hD1 hS1 => ?_)
    rw [e] at hP1 hD1
    exact kk H1 locs1 ls hP1 hD1 hS1 hL
/-- the next cell's address -/
theorem b_next {A : Nat → Prop} {x : Nat} {e : va_E} {H1 : Heap} (hg : ∀ k, k < 60 → g.1 k = g.1 0 + k) (hA : ∀ z : Nat, A z → g.1 0 ≤ z) (h60 : N9 < 60) (hP : va_P g.2.1 vwCl (wln g w N9 ++ [(x, e)]) H1) (hD : va_D A (wln g w N9 ++ [(x, e)])) (hs : H1.size ≤ g.1 0 + (N9 + 1)) : x = g.1 N9 := by
  have hx : (wln g w N9 ++ [(x, e)])[N9]? = some (x, e) := by rw [List.getElem?_append_right (by rw [wln_len]; omega), wln_len, Nat.sub_self]; rfl
  have h1 : x < H1.size := (hP N9 _ hx).lt
  have h2 : g.1 0 ≤ x := hA x (hD.2 N9 _ hx)
  rw [hg N9 h60]
  by_cases hlt : x < g.1 0 + N9
  · have hj : x - g.1 0 < N9 := by omega
    have h3 := hD.1 (x - g.1 0) N9 (g.1 (x - g.1 0), ce g (w (x - g.1 0))) (x, e) (by rw [List.getElem?_append_left (by rw [wln_len]; exact hj), wln_get g w hj]) hx (by show g.1 (x - g.1 0) = x; rw [hg _ (by omega)]; omega)
    omega
  · omega
/-- a class that may be made: by the entry i of the pool of class own; its fields' first values -/
def Nw (own : String) (i ci M : Nat) (fs : List Value) : Prop := ∃ (C : String) (T : u_T) (ty : Nat → FieldType), vwCl[ci]? = some (C, T, M) ∧ (∀ w ∈ u_ws C T M, w ∈ tb_) ∧ (∀ k, k < M → parseFieldDescriptor (T k).2.2.1 = some (ty k)) ∧ Cond.classLink own i C ∈ tb_ ∧ Cond.instantiable C M ∈ tb_ ∧ Cond.initialized C ∈ tb_ ∧ (∀ j, j < M → defaultValue (ty j) = vp_V fs j) ∧ ∀ g : Ge, fs.map (cv g) = fs
theorem b_new (C : Cx g q ct) (G : Gx g N0 ct) {i ci M : Nat} {fs : List Value} (hd : decode q.2.1 pc = .ok (.new i, 3)) (F : Nw q.1.cls i ci M fs) (hN : N0 + k = N9) (h60 : N9 < 60) (hcells : k + 1 ≤ q.2.2.2.2.2.cells) (hslots : n + M ≤ q.2.2.2.2.2.slots) {N1 k1 n1 : Nat} (e1 : N9 + 1 = N1) (e2 : k + 1 = k1) (e3 : n + M = n1) (kk : Bz g q ct N1 k1 n1 (pc + 3) L (.ref N9 :: st) (wset w N9 (ob ci fs))) : Bz g q ct N9 k n pc L st w := by
  subst e1; subst e2; subst e3
  obtain ⟨p, l, e, s, m, args, below, meth, c, A, Q⟩ := ct
  obtain ⟨hx, hb, hml, hown, hts, hK, hZ, hA, hr, hlk⟩ := C
  obtain ⟨hg, hs0, hA0, hBn⟩ := G
  intro H locs ls hP hD hS hL
  obtain ⟨C, T, ty, h1, h2, h3, h4, h5, h6, h7, h8⟩ := F
  refine va_new (fs := fs) hx hb hts h2 ty h3 hown (hts _ h4) (hts _ h5) (hts _ h6) hK hP hD hS hA h1 h7 hcells hslots hd (fun x H1 hP1 hD1 hS1 => ?_)
  intro T1 hT1 X1
  have hz := X1.heapSize
  rw [hT1] at hz
  have hxe := b_next hg hA0 h60 hP1 hD1 (by omega)
  subst hxe
  have e7 : wln g w N9 ++ [(g.1 N9, .inr (ci, fs))] = wln g (wset w N9 (ob ci fs)) (N9 + 1) := by
    rw [← wln_push]
    simp only [ob, ce, h8 g]
  rw [e7] at hP1 hD1
  exact kk H1 locs ls hP1 hD1 hS1 hL T1 hT1 X1
theorem b_newi (C : Cx g q ct) (G : Gx g N0 ct) {x : Int32} {M : Nat} (hd : decode q.2.1 pc = .ok (.newarray .int, 2)) (ha : Cond.arrayClass .int ∈ tb_) (hxe : x = nI M) (hM : M ≤ 100000) (hN : N0 + k = N9) (h60 : N9 < 60) (hcells : k + 1 ≤ q.2.2.2.2.2.cells) (hslots : n + M ≤ q.2.2.2.2.2.slots) {N1 k1 n1 : Nat} (e1 : N9 + 1 = N1) (e2 : k + 1 = k1) (e3 : n + M = n1) (kk : Bz g q ct N1 k1 n1 (pc + 2) L (.ref N9 :: st) (wset w N9 (ia M (fun _ => 0)))) : Bz g q ct N9 k n pc L (.int x :: st) w := by
  subst e1; subst e2; subst e3
  subst hxe
  obtain ⟨p, l, e, s, m, args, below, meth, c, A, Q⟩ := ct
  obtain ⟨hx, hb, hml, hown, hts, hK, hZ, hA, hr, hlk⟩ := C
  obtain ⟨hg, hs0, hA0, hBn⟩ := G
  intro H locs ls hP hD hS hL
  refine va_newa (ty := .int) (a0 := (M, .inl (fun _ => 0))) hx hb (atype := .int) (hts _ ha) rfl hK hP hD hS hA (fun _ => rfl) (nI_pos (by omega)) (nI_clamp (by omega)) (by show M * 4 ≤ 536870912; omega) hcells hslots hd (fun x cA H1 hK1 hP1 hD1 hS1 => ?_)
  intro T1 hT1 X1
  have hz := X1.heapSize
  rw [hT1] at hz
  have hxe := b_next hg hA0 h60 hP1 hD1 (by omega)
  subst hxe
  have hc : cA = g.2.2.1 := by
    have k1 : s.vm.findClass ("[" ++ FieldType.int.toString) = some cA := (hK1.2 2 (cA, .int) rfl).2
    have k2 : s.vm.findClass ("[" ++ FieldType.int.toString) = some g.2.2.1 := (hK.2 0 (g.2.2.1, .int) rfl).2
    exact Option.some.inj (k1.symm.trans k2)
  subst hc
  have e7 : wln g w N9 ++ [(g.1 N9, .inl (g.2.2.1, M, .inl (fun _ => 0)))] = wln g (wset w N9 (ia M (fun _ => 0))) (N9 + 1) := wln_push g w N9 (ia M (fun _ => 0))
  rw [e7] at hP1 hD1
  exact kk H1 locs ls hP1 hD1 hS1 hL T1 hT1 X1
theorem b_newl (C : Cx g q ct) (G : Gx g N0 ct) {x : Int32} {M : Nat} (hd : decode q.2.1 pc = .ok (.newarray .long, 2)) (ha : Cond.arrayClass .long ∈ tb_) (hxe : x = nI M) (hM : M ≤ 100000) (hN : N0 + k = N9) (h60 : N9 < 60) (hcells : k + 1 ≤ q.2.2.2.2.2.cells) (hslots : n + M ≤ q.2.2.2.2.2.slots) {N1 k1 n1 : Nat} (e1 : N9 + 1 = N1) (e2 : k + 1 = k1) (e3 : n + M = n1) (kk : Bz g q ct N1 k1 n1 (pc + 2) L (.ref N9 :: st) (wset w N9 (la M (fun _ => 0)))) : Bz g q ct N9 k n pc L (.int x :: st) w := by
  subst e1; subst e2; subst e3
  subst hxe
  obtain ⟨p, l, e, s, m, args, below, meth, c, A, Q⟩ := ct
  obtain ⟨hx, hb, hml, hown, hts, hK, hZ, hA, hr, hlk⟩ := C
  obtain ⟨hg, hs0, hA0, hBn⟩ := G
  intro H locs ls hP hD hS hL
  refine va_newa (ty := .long) (a0 := (M, .inr (.inl (fun _ => 0)))) hx hb (atype := .long) (hts _ ha) rfl hK hP hD hS hA (fun _ => rfl) (nI_pos (by omega)) (nI_clamp (by omega)) (by show M * 8 ≤ 536870912; omega) hcells hslots hd (fun x cA H1 hK1 hP1 hD1 hS1 => ?_)
  intro T1 hT1 X1
  have hz := X1.heapSize
  rw [hT1] at hz
  have hxe := b_next hg hA0 h60 hP1 hD1 (by omega)
  subst hxe
  have hc : cA = g.2.2.2 := by
    have k1 : s.vm.findClass ("[" ++ FieldType.long.toString) = some cA := (hK1.2 2 (cA, .long) rfl).2
    have k2 : s.vm.findClass ("[" ++ FieldType.long.toString) = some g.2.2.2 := (hK.2 1 (g.2.2.2, .long) rfl).2
    exact Option.some.inj (k1.symm.trans k2)
  subst hc
  have e7 : wln g w N9 ++ [(g.1 N9, .inl (g.2.2.2, M, .inr (.inl (fun _ => 0))))] = wln g (wset w N9 (la M (fun _ => 0))) (N9 + 1) := wln_push g w N9 (la M (fun _ => 0))
  rw [e7] at hP1 hD1
  exact kk H1 locs ls hP1 hD1 hS1 hL T1 hT1 X1
theorem b_objinit (C : Cx g q ct) {i a : Nat} (hd : decode q.2.1 pc = .ok (.invokespecial i, 3)) (h1 : Cond.methodLink q.1.cls i Lib.objectInit ∈ tb_) (h2 : Cond.instanceMethod Lib.objectInit ∈ tb_) (h3 : Cond.code Lib.objectInit ⟨#[0xb1]⟩ 1 none ∈ tb_) (hfr : 1 ≤ q.2.2.2.2.2.frames) (hlo : (st.map fun v => v.category).sum + 12 ≤ q.2.2.2.2.2.locals) (kk : Bz g q ct N9 k n (pc + 3) L st w) : Bz g q ct N9 k n pc L (.ref a :: st) w := by
  obtain ⟨p, l, e, s, m, args, below, meth, c, A, Q⟩ := ct
  obtain ⟨hx, hb, hml, hown, hts, hK, hZ, hA, hr, hlk⟩ := C
  intro H locs ls hP hD hS hL
  refine W.objInit hx hb hown (hts _ h1) (hts _ h2) (hts _ h3) rfl (by rw [hml]; exact hL.1.1) (a := g.1 a) (rest := st.map (cv g)) rfl hd hfr (by show 2 * 0 + _ + _ ≤ _; rw [st_sum]; omega) ?_
  exact kk H locs ls hP hD hS hL
/-- a constructor: called in a world of N cells, leaves a world of N' cells -/
def PN (g : Ge) (w : Wo) (N : Nat) (U : State) : Prop := U.heap.size = g.1 0 + N ∧ (∀ k, k < 60 → g.1 k = g.1 0 + k) ∧ va_P g.2.1 vwCl (wln g w N) U.heap ∧ Kx g U ∧ Zx g (fun z => g.1 0 ≤ z) U ∧ Bn U
def QN (g : Ge) (w' : Wo) (N' : Nat) : Array Value → State → Outcome → State → Prop := fun _ st oc t => (oc = .returned none ∧ va_P g.2.1 vwCl (wln g w' N') t.heap) ∧ va_F (fun z => g.1 0 ≤ z) st t
def Cns (q : Mi) (as : List Value) (w : Wo) (N : Nat) (w' : Wo) (N' : Nat) : Prop := ∀ (l : Launch) (g : Ge), Met l q.1 (wsq q) q.2.2.2.2.2 (va_Pc (as.map (cv g)) (PN g w N)) (QN g w' N') q.2.2.2.2.2.cells q.2.2.2.2.2.slots (fun z => g.1 0 ≤ z)
def Rn (g : Ge) (q : Mi) (w' : Wo) (N' : Nat) : Ct → Prop
  | (_, _, _, s, _, args, below, _, _, A, Q) => A = (fun z => g.1 0 ≤ z) ∧ Q = MQ below (QN g w' N') args s q.2.2.2.2.2.cells q.2.2.2.2.2.slots A
theorem PN_blind (g : Ge) (as : List Value) (w : Wo) (N : Nat) : FrameBlind (va_Pc as (PN g w N)) := fun a U gg mk h => by
  obtain ⟨h0, h1, h2, h3, h4, h5, h6⟩ := h
  exact ⟨h0, h1, h2, h3, va_K.moved (u := U) (U := U.calling gg mk a) (Vm.Alike.refl U.vm) h4, Zx_moved (u := U) (U := U.calling gg mk a) (Vm.Alike.refl U.vm) rfl h5, Bn.same (s := U) (U := U.calling gg mk a) rfl h6⟩
def MiOkN (q : Mi) : Prop := plainName q.1.cls = true ∧ Cond.code q.1 q.2.1 q.2.2.1 q.2.2.2.1 ∈ tb_ ∧ Cond.initialized q.1.cls ∈ tb_ ∧ (q.1.cls ≠ "java/lang/invoke/MethodHandle" ∧ q.1.cls ≠ "java/lang/invoke/VarHandle" ∧ (parseMethodDescriptor q.1.desc).map (fun d => d.parameters.length) = some q.2.2.2.2.1) ∧ q.1.name = "<init>" ∧ Cond.instanceMethod q.1 ∈ tb_ ∧ q.2.2.2.1 = none
theorem wln_D {g : Ge} {w : Wo} {N : Nat} (hg : ∀ k, k < 60 → g.1 k = g.1 0 + k) (hN : N ≤ 60) : va_D (fun z => g.1 0 ≤ z) (wln g w N) := by
  have key : ∀ (j : Nat) (x : Nat × va_E), (wln g w N)[j]? = some x → j < N ∧ x.1 = g.1 0 + j := by
    intro j x h
    have hj : j < N := by
      have := (List.getElem?_eq_some_iff.mp h).1
      rwa [wln_len] at this
    rw [wln_get g w hj] at h
    cases h
    exact ⟨hj, hg j (by omega)⟩
  refine ⟨fun i j x y h1 h2 h3 => ?_, fun j x h => ?_⟩
  · obtain ⟨a1, a2⟩ := key i x h1
    obtain ⟨b1, b2⟩ := key j y h2
    omega
  · obtain ⟨a1, a2⟩ := key j x h
    show g.1 0 ≤ x.1
    omega
theorem Cns_intro {q : Mi} {as : List Value} {w w' : Wo} {N N' : Nat} (ok : MiOkN q) (hN : N ≤ 60) (hc : cat1 as = true) (hn : as.length ≤ q.2.2.1) {L : Lo} (hL : lent as q.2.2.1 = L)
    (body : ∀ (g : Ge) (ct : Ct), Cx g q ct → Gx g N ct → Nm ct → Rn g q w' N' ct → Bz g q ct N 0 0 0 L [] w) : Cns q as w N w' N' := by
  intro l g
  refine Met.ofW (cc := q.2.1) (maxL := q.2.2.1) (ret := q.2.2.2.1) ok.1 rfl ?_
  intro p e s m args below meth c s₁ B hml hv
  obtain ⟨rfl, hsz, hg, hP, hK, hZ, hBn⟩ := hv
  subst hL
  have hts0 := atoms_spec (ws := wsq q) B.pre
  have hb := body g (p, l, e, s, m, (as.map (cv g)).toArray, below, meth, c, (fun z => g.1 0 ≤ z), MQ below (QN g w' N') (as.map (cv g)).toArray s q.2.2.2.2.2.cells q.2.2.2.2.2.slots (fun z => g.1 0 ≤ z))
    ⟨B.exec, B.bytes, hml, findClass_of_methodNamed B.named, fun z hz => hts0 z (List.mem_cons_of_mem _ hz), hK, hZ, fun z hz => by show g.1 0 ≤ z; omega, B.returns, B.notSynchronized⟩ ⟨hg, hsz, fun z hz => hz, hBn⟩ ((name_of_methodNamed B.named B.method).1.trans ok.2.2.2.2.1) ⟨rfl, rfl⟩
  rw [lg_entry_eq]
  exact hb s.heap [] _ hP (wln_D hg hN) va_S.rf (lh_entry g as q.2.2.1 (fun v hv => by have := List.all_eq_true.mp hc v hv; simpa using this) hn)
theorem b_return {w' : Wo} {N' : Nat} (C : Cx g q ct) (T : Rn g q w' N' ct) (hk : k = q.2.2.2.2.2.cells) (hn : n = q.2.2.2.2.2.slots) (hN : N9 = N') (hw : w = w') (hr9 : q.2.2.2.1 = none) (hd : decode q.2.1 pc = .ok (.return_, 1)) : Bz g q ct N9 k n pc L [] w := by
  subst hk; subst hn; subst hN; subst hw
  obtain ⟨p, l, e, s, m, args, below, meth, c, A, Q⟩ := ct
  obtain ⟨hx, hb, hml, hown, hts, hK, hZ, hA, hr, hlk⟩ := C
  intro H locs ls hP hD hS hL
  obtain ⟨rfl, rfl⟩ := T
  exact W.vret hx hb (hr.trans hr9) (fun t ht hW => ⟨⟨rfl, by rw [ht]; exact hP⟩, hS.F ht⟩) hS.2.2 hd hlk
theorem tb_goodN (q : Mi) (h : MiOkN q) : GoodIn tb_ (wsq q) := by
  intro z hz
  rcases List.mem_cons.mp hz with rfl | hz
  · exact ⟨h.2.1, good_of_word (List.mem_filter.mp h.2.1).2⟩
  · exact ⟨hz, good_of_word (List.mem_filter.mp hz).2⟩
theorem b_init (C : Cx g q ct) (G : Gx g N0 ct) {z : Mi} {i a N' : Nat} {As rest st : List Value} {w' : Wo} (hd : decode q.2.1 pc = .ok (.invokespecial i, 3)) (hM : Cns z (.ref a :: As) w N9 w' N') (ok : MiOkN z) (hl : Cond.methodLink q.1.cls i z.1 ∈ tb_ ∨ (q.1.cls, i, z.1) ∈ nbM) (hrm : RmOk q z) (hN : N0 + k = N9) (hN2 : N9 + z.2.2.2.2.2.cells = N') (h60 : N' ≤ 60) (h9 : 0 < N9) (hst : st = As.reverse ++ .ref a :: rest) (hn : As.length = z.2.2.2.2.1) (hW : (rest.map fun v => v.category).sum ≤ 8) (hkc : k + z.2.2.2.2.2.cells ≤ q.2.2.2.2.2.cells) (hkn : n + z.2.2.2.2.2.slots ≤ q.2.2.2.2.2.slots) {k1 n1 : Nat} (e2 : k + z.2.2.2.2.2.cells = k1) (e3 : n + z.2.2.2.2.2.slots = n1)
    (kk : Bz g q ct N' k1 n1 (pc + 3) L rest w') : Bz g q ct N9 k n pc L st w := by
  subst e2; subst e3
  subst hst
  obtain ⟨p, l, e, s, m, args, below, meth, c, A, Q⟩ := ct
  obtain ⟨hx, hb, hml, hown, hts, hK, hZ, hA, hr, hlk⟩ := C
  obtain ⟨hg, hs0, hA0, hBn⟩ := G
  intro H locs ls hP hD hS hL T1 hT1 X1
  have hAe : ∀ x : Nat, g.1 0 ≤ x → A x := fun x hx9 => by
    by_cases h : x < s.heap.size
    · have h1 : x - g.1 0 < N9 := by omega
      have h2 := hD.2 _ _ (wln_get g w h1)
      have h3 : g.1 (x - g.1 0) = x := by rw [hg _ (by omega)]; omega
      exact h3 ▸ h2
    · exact hA x (Nat.not_lt.mp h)
  have hz := X1.heapSize
  rw [hT1] at hz
  have hlow : g.1 (N9 - 1) < H.size := (hP (N9 - 1) _ (wln_get g w (by omega))).lt
  rw [hg _ (by omega)] at hlow
  have hsz : H.size = g.1 0 + N9 := by omega
  have hZ1 : ∀ U : State, U.heap = H → s.vm.Alike U.vm → Zx g (fun x => g.1 0 ≤ x) U := fun U hU hvm j x hx9 => by
    obtain ⟨h1, h2⟩ := hZ j x hx9
    rw [hU]
    exact ⟨((h1.moved hvm).kept hS.2.1).narrow hAe, ((h2.moved hvm).kept hS.2.1).narrow hAe⟩
  have hpre : PreS s H (va_Pc ((Value.ref a :: As).map (cv g)) (PN g w N9)) (.ref (g.1 a) :: As.map (cv g)) := ⟨PN_blind g _ w N9, fun U hU hW9 => ⟨rfl, by rw [hU]; exact hsz, hg, by rw [hU]; exact hP, va_K.moved hW9.alike hK, hZ1 U hU hW9.alike, hBn.warm hW9⟩⟩
  have hstk : (F0 m pc ls ((As.reverse ++ .ref a :: rest).map (cv g))).stack = (As.map (cv g)).reverse ++ .ref (g.1 a) :: rest.map (cv g) := by simp [F0, List.map_append, List.map_reverse, cv]
  have hrun : va_Run p l e q.2.2.2.2.2 s m args below meth c H locs k n z.2.2.2.2.2.cells z.2.2.2.2.2.slots (F0 m pc ls ((As.reverse ++ .ref a :: rest).map (cv g))) (rest.map (cv g)) (QN g w' N' (Value.ref (g.1 a) :: As.map (cv g)).toArray) (fun z => g.1 0 ≤ z) := by
    rcases hl with hl | hl
    · have h := callB_of (R := q.2.2.2.2.2) (n := z.2.2.2.2.1) hts (tb_goodN z ok) rfl rfl rfl (hts _ ok.2.2.1) (hts _ hl) ok.2.2.2.1 hrm
      rw [ok.2.2.2.2.2.2] at h
      exact va_runI (n := z.2.2.2.2.1) (index := i) ⟨hx, hb, hml, hown, hts⟩ (hM l g) ⟨h, ok.2.2.2.2.1, hts _ ok.2.2.2.2.2.1⟩ hpre rfl (by rw [List.length_map]; exact hn) hL.1.1 hstk (lv_room (by rw [st_sum]; exact hW)) hd ⟨hkc, hkn⟩
    · have h := va_cnB (R := q.2.2.2.2.2) (n := z.2.2.2.2.1) hts (tb_goodN z ok) rfl rfl rfl (hBn _ hl) (hts _ ok.2.2.1) ok.2.2.2.1 hrm
      rw [ok.2.2.2.2.2.2] at h
      exact va_runIN (n := z.2.2.2.2.1) (index := i) ⟨hx, hb, hml, hown, hts⟩ (hM l g) ⟨h, ok.2.2.2.2.1, hts _ ok.2.2.2.2.2.1⟩ hpre rfl (by rw [List.length_map]; exact hn) hL.1.1 hstk (lv_room (by rw [st_sum]; exact hW)) hd ⟨hkc, hkn⟩
  obtain ⟨v, st₀, t, T', Lc, h0, X', hLc, e1, e2, ⟨⟨hv, hp⟩, hzz, hk⟩, stp⟩ := hrun T1 hT1 X1
  cases hv
  rw [h0] at hzz hk
  obtain ⟨t2, a1, b1⟩ := kk T'.heap (locs ++ Lc) ls (by rw [e1]; exact hp) ((wln_D hg h60).weaken (fun _ x _ hx9 => hAe x.1 hx9))
    ⟨Nat.le_trans hS.1 (by rw [e1]; exact hzz), fun x h1 h2 => by rw [e1, hk x (Nat.lt_of_lt_of_le h1 hS.1) (fun y => h2 (hAe x y))]; exact hS.2.1 x h1 h2, fun x hq => by
      rcases List.mem_append.mp hq with h | h
      · exact hS.2.2 x h
      · exact hAe _ (hLc x h)⟩ hL T' rfl X'
  exact ⟨t2, stp t2 a1, b1⟩
end Grow
