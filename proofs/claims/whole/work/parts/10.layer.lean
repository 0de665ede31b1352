/-! THE LAYER. A world is a function from cell numbers to contents; a reference is a cell number; the addresses are a map ad of the launch's own. Az: the machine, at a program counter with locals L, operand stack st and world w, comes to the end that its context asks for. Every row below turns Az at an instruction into Az behind it. -/
def tb_ : List Cond := lw_tbl.filter goodWord
abbrev Cel : Type := (Nat × (Nat → Int32)) ⊕ (Nat × List Value) ⊕ (Nat × (Nat → Int64))
abbrev Wo : Type := Nat → Cel
abbrev Ge : Type := (Nat → Nat) × va_G × ClassId × ClassId
abbrev Mi : Type := MethodName × ByteArray × Nat × Option FieldType × Nat × Room
abbrev Ct : Type := Program × Launch × Env × State × MethodId × Array Value × List Frame × Method × Code × (Nat → Prop) × (State → Prop)
abbrev Lo : Type := List (Option Value)
abbrev ia (n : Nat) (f : Nat → Int32) : Cel := .inl (n, f)
abbrev ob (ci : Nat) (fs : List Value) : Cel := .inr (.inl (ci, fs))
abbrev la (n : Nat) (f : Nat → Int64) : Cel := .inr (.inr (n, f))
def NW : Nat := 60
def cv (g : Ge) : Value → Value
  | .ref k => .ref (g.1 k)
  | v => v
def ce (g : Ge) : Cel → va_E
  | .inl (n, f) => .inl (g.2.2.1, n, .inl f)
  | .inr (.inl (ci, fs)) => .inr (ci, fs.map (cv g))
  | .inr (.inr (n, f)) => .inl (g.2.2.2, n, .inr (.inl f))
def wl (g : Ge) (w : Wo) : va_W := (List.range NW).map (fun k => (g.1 k, ce g (w k)))
def wset (w : Wo) (a : Nat) (c : Cel) : Wo := fun j => if j = a then c else w j
theorem ws_eq {w : Wo} {a : Nat} {c : Cel} : wset w a c a = c := if_pos rfl
theorem ws_ne {w : Wo} {a j : Nat} {c v : Cel} (h : j ≠ a) (e : w j = v) : wset w a c j = v := (if_neg h).trans e
theorem ws_same {w : Wo} {a : Nat} {c d : Cel} : wset (wset w a c) a d = wset w a d := by
  funext j
  simp only [wset]
  split <;> rfl
theorem ws_comm {w : Wo} {a b : Nat} {c d : Cel} (h : a ≠ b) : wset (wset w b c) a d = wset (wset w a d) b c := by
  funext j
  simp only [wset]
  by_cases h1 : j = a
  · subst h1
    rw [if_pos rfl, if_neg h, if_pos rfl]
  · rw [if_neg h1]
    by_cases h2 : j = b
    · rw [if_pos h2, if_pos h2]
    · rw [if_neg h2, if_neg h2, if_neg h1]
theorem ws_self {w : Wo} {a : Nat} {c : Cel} (h : w a = c) : wset w a c = w := by
  funext j
  simp only [wset]
  split
  · next e => rw [e, h]
  · rfl
theorem wl_get (g : Ge) (w : Wo) {a : Nat} (h : a < NW) : (wl g w)[a]? = some (g.1 a, ce g (w a)) := by
  unfold wl
  rw [List.getElem?_map, List.getElem?_range h]
  rfl
theorem wl_len (g : Ge) (w : Wo) : (wl g w).length = NW := by simp [wl]
theorem wl_set (g : Ge) (w : Wo) {a : Nat} (c : Cel) (h : a < NW) : (wl g w).set a (g.1 a, ce g c) = wl g (wset w a c) := by
  apply List.ext_getElem?
  intro i
  by_cases hi : i < NW
  · by_cases e : i = a
    · subst e
      rw [List.getElem?_set_self (by rw [wl_len]; exact hi), wl_get g _ hi, ws_eq]
    · rw [List.getElem?_set_ne (Ne.symm e), wl_get g _ hi, wl_get g _ hi, ws_ne e rfl]
  · rw [List.getElem?_eq_none (by rw [List.length_set, wl_len]; omega), List.getElem?_eq_none (by rw [wl_len]; omega)]
/-- the addresses are what va_D speaks of -/
theorem wl_D {g : Ge} {w w' : Wo} {A : Nat → Prop} (h : va_D A (wl g w)) : va_D A (wl g w') := by
  have key : ∀ (k : Nat) (q : Nat × va_E), (wl g w')[k]? = some q → ∃ q0, (wl g w)[k]? = some q0 ∧ q0.1 = q.1 := by
    intro k q hq
    have hk : k < NW := by
      have := (List.getElem?_eq_some_iff.mp hq).1
      rwa [wl_len] at this
    rw [wl_get g w' hk] at hq
    cases hq
    exact ⟨_, wl_get g w hk, rfl⟩
  refine ⟨fun i j p q hp hq hpq => ?_, fun k q hq => ?_⟩
  · obtain ⟨p0, h1, h2⟩ := key i p hp
    obtain ⟨q0, h3, h4⟩ := key j q hq
    exact h.1 i j p0 q0 h1 h3 (h2.trans (hpq.trans h4.symm))
  · obtain ⟨q0, h1, h2⟩ := key k q hq
    rw [← h2]
    exact h.2 k q0 h1
theorem wl_A {g : Ge} {w w' : Wo} {sz q : Nat} (h : va_A (wl g w) sz q) : va_A (wl g w') sz q := by
  rcases h with ⟨k, e, hk⟩ | h
  · have hn : k < NW := by
      have := (List.getElem?_eq_some_iff.mp hk).1
      rwa [wl_len] at this
    rw [wl_get g w hn] at hk
    cases hk
    exact Or.inl ⟨k, _, wl_get g w' hn⟩
  · exact Or.inr h
-- locals
def lcv (g : Ge) : Nat → Lo → List (Nat × Value)
  | _, [] => []
  | i, none :: t => lcv g (i + 1) t
  | i, some v :: t => (i, cv g v) :: lcv g (i + 1) t
theorem mem_lcv (g : Ge) : ∀ (L : Lo) (i : Nat) (q : Nat × Value), q ∈ lcv g i L ↔ ∃ (k : Nat) (v : Value), L[k]? = some (some v) ∧ q = (i + k, cv g v)
  | [], i, q => by simp [lcv]
  | none :: t, i, q => by
    rw [lcv, mem_lcv g t (i + 1) q]
    constructor
    · rintro ⟨k, v, h1, h2⟩
      exact ⟨k + 1, v, by simpa using h1, by rw [h2]; congr 1; omega⟩
    · rintro ⟨k, v, h1, h2⟩
      cases k with
      | zero => simp at h1
      | succ k => exact ⟨k, v, by simpa using h1, by rw [h2]; congr 1; omega⟩
  | some u :: t, i, q => by
    rw [lcv, List.mem_cons, mem_lcv g t (i + 1) q]
    constructor
    · rintro (h | ⟨k, v, h1, h2⟩)
      · exact ⟨0, u, rfl, by rw [h]; rfl⟩
      · exact ⟨k + 1, v, by simpa using h1, by rw [h2]; congr 1; omega⟩
    · rintro ⟨k, v, h1, h2⟩
      cases k with
      | zero =>
        simp at h1
        subst h1
        exact Or.inl h2
      | succ k => exact Or.inr ⟨k, v, by simpa using h1, by rw [h2]; congr 1; omega⟩
def lh (g : Ge) (ls : Array Slot) (nL : Nat) (L : Lo) : Prop := lv_has ls nL (lcv g 0 L) ∧ ∀ (k : Nat) (v : Value), L[k]? = some (some v) → v.category = 1
theorem cv_cat (g : Ge) (v : Value) : (cv g v).category = v.category := by cases v <;> rfl
theorem lh_at {g : Ge} {ls : Array Slot} {nL : Nat} {L : Lo} (h : lh g ls nL L) {i : Nat} {v : Value} (hi : L[i]? = some (some v)) : ls[i]? = some (.val (cv g v)) := by
  have := h.1.2.2 (0 + i, cv g v) ((mem_lcv g L 0 _).mpr ⟨i, v, hi, rfl⟩)
  simpa using this
theorem lh_store {g : Ge} {ls ls' : Array Slot} {nL : Nat} {L : Lo} (h : lh g ls nL L) {i : Nat} {v : Value} (hc : v.category = 1)
    (h' : lv_has ls' nL ((i, cv g v) :: (lcv g 0 L).filter (fun q => !(q.1 == i) && !(q.1 + 1 == i && q.2.category == 2)))) : lh g ls' nL (L.set i (some v)) := by
  refine ⟨⟨h'.1, h'.2.1, fun q hq => h'.2.2 q ?_⟩, fun k u hk => ?_⟩
  · obtain ⟨k, u, h1, h2⟩ := (mem_lcv g _ 0 q).mp hq
    by_cases e : k = i
    · subst e
      rw [List.getElem?_set] at h1
      simp at h1
      obtain ⟨-, h1⟩ := h1
      subst h1
      rw [h2]
      simp
    · rw [List.getElem?_set_ne (Ne.symm e)] at h1
      refine List.mem_cons_of_mem _ (List.mem_filter.mpr ⟨(mem_lcv g L 0 q).mpr ⟨k, u, h1, h2⟩, ?_⟩)
      have hu := h.2 k u h1
      rw [h2]
      simp [cv_cat, hu, e]
  · by_cases e : k = i
    · subst e
      rw [List.getElem?_set] at hk
      simp at hk
      rw [← hk.2]
      exact hc
    · rw [List.getElem?_set_ne (Ne.symm e)] at hk
      exact h.2 k u hk
/-- forgetting locals -/
def wk : Lo → Lo → Prop
  | [], [] => True
  | a :: l, b :: l' => (b = none ∨ a = b) ∧ wk l l'
  | _, _ => False
theorem wk_at : ∀ {L L' : Lo}, wk L L' → ∀ {k : Nat} {v : Value}, L'[k]? = some (some v) → L[k]? = some (some v)
  | [], [], _, k, v, h => by simp at h
  | a :: l, b :: l', ⟨h1, h2⟩, k, v, h => by
    cases k with
    | zero =>
      simp at h
      subst h
      rcases h1 with h1 | h1
      · cases h1
      · rw [h1]; rfl
    | succ k => exact wk_at h2 (by simpa using h)
  | [], _ :: _, h, _, _, _ => h.elim
  | _ :: _, [], h, _, _, _ => h.elim
theorem lh_wk {g : Ge} {ls : Array Slot} {nL : Nat} {L L' : Lo} (h : lh g ls nL L) (k : wk L L') : lh g ls nL L' := by
  refine ⟨⟨h.1.1, h.1.2.1, fun q hq => h.1.2.2 q ?_⟩, fun j v hj => h.2 j v (wk_at k hj)⟩
  obtain ⟨j, v, h1, h2⟩ := (mem_lcv g L' 0 q).mp hq
  exact (mem_lcv g L 0 q).mpr ⟨j, v, wk_at k h1, h2⟩
-- static tables: 4 of them, cells 900 ..
abbrev Zt : Type := String × String × Nat × (Nat → Int32)


def Zx (g : Ge) (A : Nat → Prop) (U : State) : Prop := ∀ (j : Nat) (z : Zt), zts[j]? = some z → va_Z z.1 z.2.1 "[I" (.ref (g.1 (900 + j))) A U U.heap ∧ va_T .int (g.1 (900 + j)) z.2.2.1 (fun i => .int (z.2.2.2 i)) A U U.heap
def Kx (g : Ge) (U : State) : Prop := va_K g.2.1 vwCl [(g.2.2.1, .int), (g.2.2.2, .long)] U
/-- what a method's body stands in -/
def Cx (g : Ge) (q : Mi) : Ct → Prop
  | (p, _, _, s, m, args, _, meth, c, A, _) => p.tables.exec = Jvm.exec ∧ c.code = q.2.1 ∧ c.maxLocals = q.2.2.1 ∧ s.vm.findClass q.1.cls = some m.cls ∧ (∀ w ∈ tb_, w.before args s = true) ∧ Kx g s ∧ Zx g A s ∧ (∀ k : Nat, s.heap.size ≤ k → A k) ∧ meth.sig.returnType = q.2.2.2.1 ∧ meth.locks = false
def Az (g : Ge) (q : Mi) : Ct → Nat → Nat → Nat → Lo → List Value → Wo → Prop
  | (p, l, e, s, m, args, below, meth, c, A, Q), k, n, pc, L, st, w => ∀ (H : Heap) (locs : List Loc) (ls : Array Slot), va_P g.2.1 vwCl (wl g w) H → va_D A (wl g w) → va_S A s.heap H locs → lh g ls q.2.2.1 L → W p l e q.2.2.2.2.2 s m args below meth c H locs k n Q (F0 m pc ls (st.map (cv g)))
def wsq (q : Mi) : List Cond := .code q.1 q.2.1 q.2.2.1 q.2.2.2.1 :: tb_
section Rows
variable {g : Ge} {q : Mi} {ct : Ct} {k n pc : Nat} {L : Lo} {st : List Value} {w : Wo}
theorem r_forget (L' : Lo) (h : wk L L') (kk : Az g q ct k n pc L' st w) : Az g q ct k n pc L st w := by
  obtain ⟨p, l, e, s, m, args, below, meth, c, A, Q⟩ := ct
  intro H locs ls hP hD hS hL
  exact kk H locs ls hP hD hS (lh_wk hL h)
theorem r_eq {L' : Lo} {st' : List Value} {w' : Wo} (h1 : L = L') (h2 : st = st') (h3 : w = w') (kk : Az g q ct k n pc L' st' w') : Az g q ct k n pc L st w := by
  subst h1; subst h2; subst h3
  exact kk
theorem r_top {x y : Int32} (h : x = y) (kk : Az g q ct k n pc L (.int y :: st) w) : Az g q ct k n pc L (.int x :: st) w := by
  subst h
  exact kk

theorem r_iconst (C : Cx g q ct) {i : Int} {v : Int32} (hd : decode q.2.1 pc = .ok (.iconst i, 1)) (hv : Int32.ofInt i = v) (kk : Az g q ct k n (pc + 1) L (.int v :: st) w) : Az g q ct k n pc L (st) w := by
  obtain ⟨p, l, e, s, m, args, below, meth, c, A, Q⟩ := ct
  obtain ⟨hx, hb, hml, hown, hts, hK, hZ, hA, hr, hlk⟩ := C
  intro H locs ls hP hD hS hL
  exact lv_iconst hx hb hd hv (kk H locs ls hP hD hS hL)
theorem r_bipush (C : Cx g q ct) {i : Int} {v : Int32} (hd : decode q.2.1 pc = .ok (.bipush i, 2)) (hv : (Int8.ofInt i).toInt32 = v) (kk : Az g q ct k n (pc + 2) L (.int v :: st) w) : Az g q ct k n pc L (st) w := by
  obtain ⟨p, l, e, s, m, args, below, meth, c, A, Q⟩ := ct
  obtain ⟨hx, hb, hml, hown, hts, hK, hZ, hA, hr, hlk⟩ := C
  intro H locs ls hP hD hS hL
  exact lv_bipush hx hb hd hv (kk H locs ls hP hD hS hL)
theorem r_sipush (C : Cx g q ct) {i : Int} {v : Int32} (hd : decode q.2.1 pc = .ok (.sipush i, 3)) (hv : (Int16.ofInt i).toInt32 = v) (kk : Az g q ct k n (pc + 3) L (.int v :: st) w) : Az g q ct k n pc L (st) w := by
  obtain ⟨p, l, e, s, m, args, below, meth, c, A, Q⟩ := ct
  obtain ⟨hx, hb, hml, hown, hts, hK, hZ, hA, hr, hlk⟩ := C
  intro H locs ls hP hD hS hL
  exact lv_sipush hx hb hd hv (kk H locs ls hP hD hS hL)
theorem r_ldc (C : Cx g q ct) {i : Nat} {v : Int32} (hd : decode q.2.1 pc = .ok (.ldc i, 2)) (hc : Cond.constant q.1.cls i v ∈ tb_) (kk : Az g q ct k n (pc + 2) L (.int v :: st) w) : Az g q ct k n pc L (st) w := by
  obtain ⟨p, l, e, s, m, args, below, meth, c, A, Q⟩ := ct
  obtain ⟨hx, hb, hml, hown, hts, hK, hZ, hA, hr, hlk⟩ := C
  intro H locs ls hP hD hS hL
  exact lv_ldc hx hb hown (hts _ hc) hd (kk H locs ls hP hD hS hL)
theorem r_iload_n (C : Cx g q ct) {j : Fin 4} {x : Int32} (hd : decode q.2.1 pc = .ok (.iload_n j, 1)) (hl : L[(j : Nat)]? = some (some (.int x))) (kk : Az g q ct k n (pc + 1) L (.int x :: st) w) : Az g q ct k n pc L (st) w := by
  obtain ⟨p, l, e, s, m, args, below, meth, c, A, Q⟩ := ct
  obtain ⟨hx, hb, hml, hown, hts, hK, hZ, hA, hr, hlk⟩ := C
  intro H locs ls hP hD hS hL
  exact lv_iload_n hx hb hd rfl (lh_at hL hl) (kk H locs ls hP hD hS hL)
theorem r_iload (C : Cx g q ct) {j : Nat} {x : Int32} (hd : decode q.2.1 pc = .ok (.iload j, 2)) (hl : L[j]? = some (some (.int x))) (kk : Az g q ct k n (pc + 2) L (.int x :: st) w) : Az g q ct k n pc L (st) w := by
  obtain ⟨p, l, e, s, m, args, below, meth, c, A, Q⟩ := ct
  obtain ⟨hx, hb, hml, hown, hts, hK, hZ, hA, hr, hlk⟩ := C
  intro H locs ls hP hD hS hL
  exact lv_iload hx hb hd (lh_at hL hl) (kk H locs ls hP hD hS hL)
theorem r_aload_n (C : Cx g q ct) {j : Fin 4} {x : Nat} (hd : decode q.2.1 pc = .ok (.aload_n j, 1)) (hl : L[(j : Nat)]? = some (some (.ref x))) (kk : Az g q ct k n (pc + 1) L (.ref x :: st) w) : Az g q ct k n pc L (st) w := by
  obtain ⟨p, l, e, s, m, args, below, meth, c, A, Q⟩ := ct
  obtain ⟨hx, hb, hml, hown, hts, hK, hZ, hA, hr, hlk⟩ := C
  intro H locs ls hP hD hS hL
  exact lv_aload_n hx hb hd rfl (lh_at hL hl) (kk H locs ls hP hD hS hL)
theorem r_aload (C : Cx g q ct) {j : Nat} {x : Nat} (hd : decode q.2.1 pc = .ok (.aload j, 2)) (hl : L[j]? = some (some (.ref x))) (kk : Az g q ct k n (pc + 2) L (.ref x :: st) w) : Az g q ct k n pc L (st) w := by
  obtain ⟨p, l, e, s, m, args, below, meth, c, A, Q⟩ := ct
  obtain ⟨hx, hb, hml, hown, hts, hK, hZ, hA, hr, hlk⟩ := C
  intro H locs ls hP hD hS hL
  exact lv_aload hx hb hd (lh_at hL hl) (kk H locs ls hP hD hS hL)
theorem r_istore_n (C : Cx g q ct) {j : Fin 4} {x : Int32} {L' : Lo} (hd : decode q.2.1 pc = .ok (.istore_n j, 1)) (hj : (j : Nat) < q.2.2.1) (hl : L.set (j : Nat) (some (.int x)) = L') (kk : Az g q ct k n (pc + 1) L' st w) : Az g q ct k n pc L (.int x :: st) w := by
  subst hl
  obtain ⟨p, l, e, s, m, args, below, meth, c, A, Q⟩ := ct
  obtain ⟨hx, hb, hml, hown, hts, hK, hZ, hA, hr, hlk⟩ := C
  intro H locs ls hP hD hS hL
  exact lv_istore_n hx hb hd rfl hL.1 hj rfl (fun ls' hl' => kk H locs ls' hP hD hS (lh_store hL rfl hl'))
theorem r_istore (C : Cx g q ct) {j : Nat} {x : Int32} {L' : Lo} (hd : decode q.2.1 pc = .ok (.istore j, 2)) (hj : j < q.2.2.1) (hl : L.set j (some (.int x)) = L') (kk : Az g q ct k n (pc + 2) L' st w) : Az g q ct k n pc L (.int x :: st) w := by
  subst hl
  obtain ⟨p, l, e, s, m, args, below, meth, c, A, Q⟩ := ct
  obtain ⟨hx, hb, hml, hown, hts, hK, hZ, hA, hr, hlk⟩ := C
  intro H locs ls hP hD hS hL
  exact lv_istore hx hb hd hL.1 hj rfl (fun ls' hl' => kk H locs ls' hP hD hS (lh_store hL rfl hl'))
theorem r_astore_n (C : Cx g q ct) {j : Fin 4} {x : Nat} {L' : Lo} (hd : decode q.2.1 pc = .ok (.astore_n j, 1)) (hj : (j : Nat) < q.2.2.1) (hl : L.set (j : Nat) (some (.ref x)) = L') (kk : Az g q ct k n (pc + 1) L' st w) : Az g q ct k n pc L (.ref x :: st) w := by
  subst hl
  obtain ⟨p, l, e, s, m, args, below, meth, c, A, Q⟩ := ct
  obtain ⟨hx, hb, hml, hown, hts, hK, hZ, hA, hr, hlk⟩ := C
  intro H locs ls hP hD hS hL
  exact lv_astore_n hx hb hd rfl hL.1 hj rfl (fun ls' hl' => kk H locs ls' hP hD hS (lh_store hL rfl hl'))
theorem r_astore (C : Cx g q ct) {j : Nat} {x : Nat} {L' : Lo} (hd : decode q.2.1 pc = .ok (.astore j, 2)) (hj : j < q.2.2.1) (hl : L.set j (some (.ref x)) = L') (kk : Az g q ct k n (pc + 2) L' st w) : Az g q ct k n pc L (.ref x :: st) w := by
  subst hl
  obtain ⟨p, l, e, s, m, args, below, meth, c, A, Q⟩ := ct
  obtain ⟨hx, hb, hml, hown, hts, hK, hZ, hA, hr, hlk⟩ := C
  intro H locs ls hP hD hS hL
  exact lv_astore hx hb hd hL.1 hj rfl (fun ls' hl' => kk H locs ls' hP hD hS (lh_store hL rfl hl'))
theorem r_iinc (C : Cx g q ct) {j : Nat} {i : Int} {x v : Int32} {L' : Lo} (hd : decode q.2.1 pc = .ok (.iinc j i, 3)) (hi : L[j]? = some (some (.int x))) (hv : x + Int32.ofInt i = v) (hj : j < q.2.2.1) (hl : L.set j (some (.int v)) = L') (kk : Az g q ct k n (pc + 3) L' st w) : Az g q ct k n pc L st w := by
  subst hl
  obtain ⟨p, l, e, s, m, args, below, meth, c, A, Q⟩ := ct
  obtain ⟨hx, hb, hml, hown, hts, hK, hZ, hA, hr, hlk⟩ := C
  intro H locs ls hP hD hS hL
  obtain ⟨b, hb1⟩ := List.getElem?_of_mem ((mem_lcv g L 0 (0 + j, .int x)).mpr ⟨j, .int x, hi, rfl⟩)
  rw [Nat.zero_add] at hb1
  exact lv_iinc hx hb hd hL.1 hb1 hv hj rfl (fun ls' hl' => kk H locs ls' hP hD hS (lh_store hL rfl hl'))
theorem r_iadd (C : Cx g q ct) {x y : Int32} (hd : decode q.2.1 pc = .ok (.iadd, 1)) (kk : Az g q ct k n (pc + 1) L (.int (x + y) :: st) w) : Az g q ct k n pc L (.int y :: .int x :: st) w := by
  obtain ⟨p, l, e, s, m, args, below, meth, c, A, Q⟩ := ct
  obtain ⟨hx, hb, hml, hown, hts, hK, hZ, hA, hr, hlk⟩ := C
  intro H locs ls hP hD hS hL
  exact lv_iadd hx hb hd (kk H locs ls hP hD hS hL)
theorem r_isub (C : Cx g q ct) {x y : Int32} (hd : decode q.2.1 pc = .ok (.isub, 1)) (kk : Az g q ct k n (pc + 1) L (.int (x - y) :: st) w) : Az g q ct k n pc L (.int y :: .int x :: st) w := by
  obtain ⟨p, l, e, s, m, args, below, meth, c, A, Q⟩ := ct
  obtain ⟨hx, hb, hml, hown, hts, hK, hZ, hA, hr, hlk⟩ := C
  intro H locs ls hP hD hS hL
  exact lv_isub hx hb hd (kk H locs ls hP hD hS hL)
theorem r_imul (C : Cx g q ct) {x y : Int32} (hd : decode q.2.1 pc = .ok (.imul, 1)) (kk : Az g q ct k n (pc + 1) L (.int (x * y) :: st) w) : Az g q ct k n pc L (.int y :: .int x :: st) w := by
  obtain ⟨p, l, e, s, m, args, below, meth, c, A, Q⟩ := ct
  obtain ⟨hx, hb, hml, hown, hts, hK, hZ, hA, hr, hlk⟩ := C
  intro H locs ls hP hD hS hL
  exact lv_imul hx hb hd (kk H locs ls hP hD hS hL)
theorem r_iand (C : Cx g q ct) {x y : Int32} (hd : decode q.2.1 pc = .ok (.iand, 1)) (kk : Az g q ct k n (pc + 1) L (.int (x &&& y) :: st) w) : Az g q ct k n pc L (.int y :: .int x :: st) w := by
  obtain ⟨p, l, e, s, m, args, below, meth, c, A, Q⟩ := ct
  obtain ⟨hx, hb, hml, hown, hts, hK, hZ, hA, hr, hlk⟩ := C
  intro H locs ls hP hD hS hL
  exact lv_iand hx hb hd (kk H locs ls hP hD hS hL)
theorem r_ior (C : Cx g q ct) {x y : Int32} (hd : decode q.2.1 pc = .ok (.ior, 1)) (kk : Az g q ct k n (pc + 1) L (.int (x ||| y) :: st) w) : Az g q ct k n pc L (.int y :: .int x :: st) w := by
  obtain ⟨p, l, e, s, m, args, below, meth, c, A, Q⟩ := ct
  obtain ⟨hx, hb, hml, hown, hts, hK, hZ, hA, hr, hlk⟩ := C
  intro H locs ls hP hD hS hL
  exact lv_ior hx hb hd (kk H locs ls hP hD hS hL)
theorem r_ixor (C : Cx g q ct) {x y : Int32} (hd : decode q.2.1 pc = .ok (.ixor, 1)) (kk : Az g q ct k n (pc + 1) L (.int (x ^^^ y) :: st) w) : Az g q ct k n pc L (.int y :: .int x :: st) w := by
  obtain ⟨p, l, e, s, m, args, below, meth, c, A, Q⟩ := ct
  obtain ⟨hx, hb, hml, hown, hts, hK, hZ, hA, hr, hlk⟩ := C
  intro H locs ls hP hD hS hL
  exact lv_ixor hx hb hd (kk H locs ls hP hD hS hL)
theorem r_ishl (C : Cx g q ct) {x y : Int32} (hd : decode q.2.1 pc = .ok (.ishl, 1)) (kk : Az g q ct k n (pc + 1) L (.int (x <<< (y &&& 31)) :: st) w) : Az g q ct k n pc L (.int y :: .int x :: st) w := by
  obtain ⟨p, l, e, s, m, args, below, meth, c, A, Q⟩ := ct
  obtain ⟨hx, hb, hml, hown, hts, hK, hZ, hA, hr, hlk⟩ := C
  intro H locs ls hP hD hS hL
  exact lv_ishl hx hb hd (kk H locs ls hP hD hS hL)
theorem r_ishr (C : Cx g q ct) {x y : Int32} (hd : decode q.2.1 pc = .ok (.ishr, 1)) (kk : Az g q ct k n (pc + 1) L (.int (x >>> (y &&& 31)) :: st) w) : Az g q ct k n pc L (.int y :: .int x :: st) w := by
  obtain ⟨p, l, e, s, m, args, below, meth, c, A, Q⟩ := ct
  obtain ⟨hx, hb, hml, hown, hts, hK, hZ, hA, hr, hlk⟩ := C
  intro H locs ls hP hD hS hL
  exact lv_ishr hx hb hd (kk H locs ls hP hD hS hL)
theorem r_iushr (C : Cx g q ct) {x y : Int32} (hd : decode q.2.1 pc = .ok (.iushr, 1)) (kk : Az g q ct k n (pc + 1) L (.int ((x.toUInt32 >>> (y.toUInt32 &&& Int32.toUInt32 31)).toInt32) :: st) w) : Az g q ct k n pc L (.int y :: .int x :: st) w := by
  obtain ⟨p, l, e, s, m, args, below, meth, c, A, Q⟩ := ct
  obtain ⟨hx, hb, hml, hown, hts, hK, hZ, hA, hr, hlk⟩ := C
  intro H locs ls hP hD hS hL
  exact lv_iushr hx hb hd rfl (kk H locs ls hP hD hS hL)
theorem r_idiv (C : Cx g q ct) {x y : Int32} (hd : decode q.2.1 pc = .ok (.idiv, 1)) (hne : ¬ y = 0) (kk : Az g q ct k n (pc + 1) L (.int (x / y) :: st) w) : Az g q ct k n pc L (.int y :: .int x :: st) w := by
  obtain ⟨p, l, e, s, m, args, below, meth, c, A, Q⟩ := ct
  obtain ⟨hx, hb, hml, hown, hts, hK, hZ, hA, hr, hlk⟩ := C
  intro H locs ls hP hD hS hL
  exact lv_idiv hx hb hd hne (kk H locs ls hP hD hS hL)
theorem r_irem (C : Cx g q ct) {x y : Int32} (hd : decode q.2.1 pc = .ok (.irem, 1)) (hne : ¬ y = 0) (kk : Az g q ct k n (pc + 1) L (.int (x - x / y * y) :: st) w) : Az g q ct k n pc L (.int y :: .int x :: st) w := by
  obtain ⟨p, l, e, s, m, args, below, meth, c, A, Q⟩ := ct
  obtain ⟨hx, hb, hml, hown, hts, hK, hZ, hA, hr, hlk⟩ := C
  intro H locs ls hP hD hS hL
  exact lv_irem hx hb hd hne (kk H locs ls hP hD hS hL)
theorem r_dup (C : Cx g q ct) {v : Value} (hd : decode q.2.1 pc = .ok (.dup, 1)) (hc : v.category = 1) (kk : Az g q ct k n (pc + 1) L (v :: v :: st) w) : Az g q ct k n pc L (v :: st) w := by
  obtain ⟨p, l, e, s, m, args, below, meth, c, A, Q⟩ := ct
  obtain ⟨hx, hb, hml, hown, hts, hK, hZ, hA, hr, hlk⟩ := C
  intro H locs ls hP hD hS hL
  exact lv_dup hx hb hd ((cv_cat g v).trans hc) (kk H locs ls hP hD hS hL)
theorem r_dup2 (C : Cx g q ct) {v u : Value} (hd : decode q.2.1 pc = .ok (.dup2, 1)) (hc : v.category = 1) (hc2 : u.category = 1) (kk : Az g q ct k n (pc + 1) L (v :: u :: v :: u :: st) w) : Az g q ct k n pc L (v :: u :: st) w := by
  obtain ⟨p, l, e, s, m, args, below, meth, c, A, Q⟩ := ct
  obtain ⟨hx, hb, hml, hown, hts, hK, hZ, hA, hr, hlk⟩ := C
  intro H locs ls hP hD hS hL
  exact lv_dup2_11 hx hb hd ((cv_cat g v).trans hc) ((cv_cat g u).trans hc2) (kk H locs ls hP hD hS hL)
theorem r_pop (C : Cx g q ct) {v : Value} (hd : decode q.2.1 pc = .ok (.pop, 1)) (hc : v.category = 1) (kk : Az g q ct k n (pc + 1) L (st) w) : Az g q ct k n pc L (v :: st) w := by
  obtain ⟨p, l, e, s, m, args, below, meth, c, A, Q⟩ := ct
  obtain ⟨hx, hb, hml, hown, hts, hK, hZ, hA, hr, hlk⟩ := C
  intro H locs ls hP hD hS hL
  exact lv_pop hx hb hd ((cv_cat g v).trans hc) (kk H locs ls hP hD hS hL)
theorem r_icmp_eq (C : Cx g q ct) {x y : Int32} {off : Int} (tgt : Nat) (hd : decode q.2.1 pc = .ok (.if_icmp .eq off, 3)) (ht : (pc : Int) + off = (tgt : Int)) (kt : x = y → Az g q ct k n tgt L st w) (kf : ¬ (x = y) → Az g q ct k n (pc + 3) L st w) : Az g q ct k n pc L (.int y :: .int x :: st) w := by
  obtain ⟨p, l, e, s, m, args, below, meth, c, A, Q⟩ := ct
  obtain ⟨hx, hb, hml, hown, hts, hK, hZ, hA, hr, hlk⟩ := C
  intro H locs ls hP hD hS hL
  exact lv_icmp_eq hx hb hd ht (fun h => kt h H locs ls hP hD hS hL) (fun h => kf h H locs ls hP hD hS hL)
theorem r_icmp_ne (C : Cx g q ct) {x y : Int32} {off : Int} (tgt : Nat) (hd : decode q.2.1 pc = .ok (.if_icmp .ne off, 3)) (ht : (pc : Int) + off = (tgt : Int)) (kt : ¬ x = y → Az g q ct k n tgt L st w) (kf : x = y → Az g q ct k n (pc + 3) L st w) : Az g q ct k n pc L (.int y :: .int x :: st) w := by
  obtain ⟨p, l, e, s, m, args, below, meth, c, A, Q⟩ := ct
  obtain ⟨hx, hb, hml, hown, hts, hK, hZ, hA, hr, hlk⟩ := C
  intro H locs ls hP hD hS hL
  exact lv_icmp_ne hx hb hd ht (fun h => kt h H locs ls hP hD hS hL) (fun h => kf h H locs ls hP hD hS hL)
theorem r_icmp_lt (C : Cx g q ct) {x y : Int32} {off : Int} (tgt : Nat) (hd : decode q.2.1 pc = .ok (.if_icmp .lt off, 3)) (ht : (pc : Int) + off = (tgt : Int)) (kt : x < y → Az g q ct k n tgt L st w) (kf : ¬ (x < y) → Az g q ct k n (pc + 3) L st w) : Az g q ct k n pc L (.int y :: .int x :: st) w := by
  obtain ⟨p, l, e, s, m, args, below, meth, c, A, Q⟩ := ct
  obtain ⟨hx, hb, hml, hown, hts, hK, hZ, hA, hr, hlk⟩ := C
  intro H locs ls hP hD hS hL
  exact lv_icmp_lt hx hb hd ht (fun h => kt h H locs ls hP hD hS hL) (fun h => kf h H locs ls hP hD hS hL)
theorem r_icmp_ge (C : Cx g q ct) {x y : Int32} {off : Int} (tgt : Nat) (hd : decode q.2.1 pc = .ok (.if_icmp .ge off, 3)) (ht : (pc : Int) + off = (tgt : Int)) (kt : y ≤ x → Az g q ct k n tgt L st w) (kf : ¬ (y ≤ x) → Az g q ct k n (pc + 3) L st w) : Az g q ct k n pc L (.int y :: .int x :: st) w := by
  obtain ⟨p, l, e, s, m, args, below, meth, c, A, Q⟩ := ct
  obtain ⟨hx, hb, hml, hown, hts, hK, hZ, hA, hr, hlk⟩ := C
  intro H locs ls hP hD hS hL
  exact lv_icmp_ge hx hb hd ht (fun h => kt h H locs ls hP hD hS hL) (fun h => kf h H locs ls hP hD hS hL)
theorem r_icmp_gt (C : Cx g q ct) {x y : Int32} {off : Int} (tgt : Nat) (hd : decode q.2.1 pc = .ok (.if_icmp .gt off, 3)) (ht : (pc : Int) + off = (tgt : Int)) (kt : y < x → Az g q ct k n tgt L st w) (kf : ¬ (y < x) → Az g q ct k n (pc + 3) L st w) : Az g q ct k n pc L (.int y :: .int x :: st) w := by
  obtain ⟨p, l, e, s, m, args, below, meth, c, A, Q⟩ := ct
  obtain ⟨hx, hb, hml, hown, hts, hK, hZ, hA, hr, hlk⟩ := C
  intro H locs ls hP hD hS hL
  exact lv_icmp_gt hx hb hd ht (fun h => kt h H locs ls hP hD hS hL) (fun h => kf h H locs ls hP hD hS hL)
theorem r_icmp_le (C : Cx g q ct) {x y : Int32} {off : Int} (tgt : Nat) (hd : decode q.2.1 pc = .ok (.if_icmp .le off, 3)) (ht : (pc : Int) + off = (tgt : Int)) (kt : x ≤ y → Az g q ct k n tgt L st w) (kf : ¬ (x ≤ y) → Az g q ct k n (pc + 3) L st w) : Az g q ct k n pc L (.int y :: .int x :: st) w := by
  obtain ⟨p, l, e, s, m, args, below, meth, c, A, Q⟩ := ct
  obtain ⟨hx, hb, hml, hown, hts, hK, hZ, hA, hr, hlk⟩ := C
  intro H locs ls hP hD hS hL
  exact lv_icmp_le hx hb hd ht (fun h => kt h H locs ls hP hD hS hL) (fun h => kf h H locs ls hP hD hS hL)
theorem r_if_eq (C : Cx g q ct) {x : Int32} {off : Int} (tgt : Nat) (hd : decode q.2.1 pc = .ok (.ifCond .eq off, 3)) (ht : (pc : Int) + off = (tgt : Int)) (kt : x = 0 → Az g q ct k n tgt L st w) (kf : ¬ (x = 0) → Az g q ct k n (pc + 3) L st w) : Az g q ct k n pc L (.int x :: st) w := by
  obtain ⟨p, l, e, s, m, args, below, meth, c, A, Q⟩ := ct
  obtain ⟨hx, hb, hml, hown, hts, hK, hZ, hA, hr, hlk⟩ := C
  intro H locs ls hP hD hS hL
  exact lv_if_eq hx hb hd ht (fun h => kt h H locs ls hP hD hS hL) (fun h => kf h H locs ls hP hD hS hL)
theorem r_if_ne (C : Cx g q ct) {x : Int32} {off : Int} (tgt : Nat) (hd : decode q.2.1 pc = .ok (.ifCond .ne off, 3)) (ht : (pc : Int) + off = (tgt : Int)) (kt : ¬ x = 0 → Az g q ct k n tgt L st w) (kf : x = 0 → Az g q ct k n (pc + 3) L st w) : Az g q ct k n pc L (.int x :: st) w := by
  obtain ⟨p, l, e, s, m, args, below, meth, c, A, Q⟩ := ct
  obtain ⟨hx, hb, hml, hown, hts, hK, hZ, hA, hr, hlk⟩ := C
  intro H locs ls hP hD hS hL
  exact lv_if_ne hx hb hd ht (fun h => kt h H locs ls hP hD hS hL) (fun h => kf h H locs ls hP hD hS hL)
theorem r_if_lt (C : Cx g q ct) {x : Int32} {off : Int} (tgt : Nat) (hd : decode q.2.1 pc = .ok (.ifCond .lt off, 3)) (ht : (pc : Int) + off = (tgt : Int)) (kt : x < 0 → Az g q ct k n tgt L st w) (kf : ¬ (x < 0) → Az g q ct k n (pc + 3) L st w) : Az g q ct k n pc L (.int x :: st) w := by
  obtain ⟨p, l, e, s, m, args, below, meth, c, A, Q⟩ := ct
  obtain ⟨hx, hb, hml, hown, hts, hK, hZ, hA, hr, hlk⟩ := C
  intro H locs ls hP hD hS hL
  exact lv_if_lt hx hb hd ht (fun h => kt h H locs ls hP hD hS hL) (fun h => kf h H locs ls hP hD hS hL)
theorem r_if_ge (C : Cx g q ct) {x : Int32} {off : Int} (tgt : Nat) (hd : decode q.2.1 pc = .ok (.ifCond .ge off, 3)) (ht : (pc : Int) + off = (tgt : Int)) (kt : 0 ≤ x → Az g q ct k n tgt L st w) (kf : ¬ (0 ≤ x) → Az g q ct k n (pc + 3) L st w) : Az g q ct k n pc L (.int x :: st) w := by
  obtain ⟨p, l, e, s, m, args, below, meth, c, A, Q⟩ := ct
  obtain ⟨hx, hb, hml, hown, hts, hK, hZ, hA, hr, hlk⟩ := C
  intro H locs ls hP hD hS hL
  exact lv_if_ge hx hb hd ht (fun h => kt h H locs ls hP hD hS hL) (fun h => kf h H locs ls hP hD hS hL)
theorem r_if_gt (C : Cx g q ct) {x : Int32} {off : Int} (tgt : Nat) (hd : decode q.2.1 pc = .ok (.ifCond .gt off, 3)) (ht : (pc : Int) + off = (tgt : Int)) (kt : 0 < x → Az g q ct k n tgt L st w) (kf : ¬ (0 < x) → Az g q ct k n (pc + 3) L st w) : Az g q ct k n pc L (.int x :: st) w := by
  obtain ⟨p, l, e, s, m, args, below, meth, c, A, Q⟩ := ct
  obtain ⟨hx, hb, hml, hown, hts, hK, hZ, hA, hr, hlk⟩ := C
  intro H locs ls hP hD hS hL
  exact lv_if_gt hx hb hd ht (fun h => kt h H locs ls hP hD hS hL) (fun h => kf h H locs ls hP hD hS hL)
theorem r_if_le (C : Cx g q ct) {x : Int32} {off : Int} (tgt : Nat) (hd : decode q.2.1 pc = .ok (.ifCond .le off, 3)) (ht : (pc : Int) + off = (tgt : Int)) (kt : x ≤ 0 → Az g q ct k n tgt L st w) (kf : ¬ (x ≤ 0) → Az g q ct k n (pc + 3) L st w) : Az g q ct k n pc L (.int x :: st) w := by
  obtain ⟨p, l, e, s, m, args, below, meth, c, A, Q⟩ := ct
  obtain ⟨hx, hb, hml, hown, hts, hK, hZ, hA, hr, hlk⟩ := C
  intro H locs ls hP hD hS hL
  exact lv_if_le hx hb hd ht (fun h => kt h H locs ls hP hD hS hL) (fun h => kf h H locs ls hP hD hS hL)
theorem r_goto (C : Cx g q ct) {off : Int} (tgt : Nat) (hd : decode q.2.1 pc = .ok (.goto off, 3)) (ht : (pc : Int) + off = (tgt : Int)) (kk : Az g q ct k n tgt L st w) : Az g q ct k n pc L st w := by
  obtain ⟨p, l, e, s, m, args, below, meth, c, A, Q⟩ := ct
  obtain ⟨hx, hb, hml, hown, hts, hK, hZ, hA, hr, hlk⟩ := C
  intro H locs ls hP hD hS hL
  exact lv_goto hx hb hd ht (kk H locs ls hP hD hS hL)
theorem r_tabOut (C : Cx g q ct) {dflt lo hi : Int} {offs : Array Int} {len : Nat} {x : Int32} (tgt : Nat) (hd : decode q.2.1 pc = .ok (.tableswitch dflt lo hi offs, len)) (h : x.toInt < lo ∨ hi < x.toInt) (ht : (pc : Int) + dflt = (tgt : Int)) (kk : Az g q ct k n tgt L st w) : Az g q ct k n pc L (.int x :: st) w := by
  obtain ⟨p, l, e, s, m, args, below, meth, c, A, Q⟩ := ct
  obtain ⟨hx, hb, hml, hown, hts, hK, hZ, hA, hr, hlk⟩ := C
  intro H locs ls hP hD hS hL
  exact lv_tableOut hx hb hd h ht (kk H locs ls hP hD hS hL)
theorem r_tabIn (C : Cx g q ct) {dflt lo hi : Int} {offs : Array Int} {len : Nat} {x : Int32} {off : Int} (tgt : Nat) (hd : decode q.2.1 pc = .ok (.tableswitch dflt lo hi offs, len)) (h1 : ¬ x.toInt < lo) (h2 : ¬ hi < x.toInt) (ho : offs[(x.toInt - lo).toNat]? = some off) (ht : (pc : Int) + off = (tgt : Int)) (kk : Az g q ct k n tgt L st w) : Az g q ct k n pc L (.int x :: st) w := by
  obtain ⟨p, l, e, s, m, args, below, meth, c, A, Q⟩ := ct
  obtain ⟨hx, hb, hml, hown, hts, hK, hZ, hA, hr, hlk⟩ := C
  intro H locs ls hP hD hS hL
  exact lv_tableIn hx hb hd h1 h2 ho ht (kk H locs ls hP hD hS hL)
theorem r_null (C : Cx g q ct) (hd : decode q.2.1 pc = .ok (.aconst_null, 1)) (kk : Az g q ct k n (pc + 1) L (.null :: st) w) : Az g q ct k n pc L (st) w := by
  obtain ⟨p, l, e, s, m, args, below, meth, c, A, Q⟩ := ct
  obtain ⟨hx, hb, hml, hown, hts, hK, hZ, hA, hr, hlk⟩ := C
  intro H locs ls hP hD hS hL
  exact lv_null hx hb hd (kk H locs ls hP hD hS hL)
theorem r_nonnull (C : Cx g q ct) {x : Nat} {off : Int} (tgt : Nat) (hd : decode q.2.1 pc = .ok (.ifnonnull off, 3)) (ht : (pc : Int) + off = (tgt : Int)) (kk : Az g q ct k n tgt L st w) : Az g q ct k n pc L (.ref x :: st) w := by
  obtain ⟨p, l, e, s, m, args, below, meth, c, A, Q⟩ := ct
  obtain ⟨hx, hb, hml, hown, hts, hK, hZ, hA, hr, hlk⟩ := C
  intro H locs ls hP hD hS hL
  exact lv_ifnonnull hx hb hd ht (kk H locs ls hP hD hS hL)
theorem r_nonnullN (C : Cx g q ct) {off : Int} (hd : decode q.2.1 pc = .ok (.ifnonnull off, 3)) (kk : Az g q ct k n (pc + 3) L st w) : Az g q ct k n pc L (.null :: st) w := by
  obtain ⟨p, l, e, s, m, args, below, meth, c, A, Q⟩ := ct
  obtain ⟨hx, hb, hml, hown, hts, hK, hZ, hA, hr, hlk⟩ := C
  intro H locs ls hP hD hS hL
  exact lv_ifnonnullN hx hb hd (kk H locs ls hP hD hS hL)

/-- field number j of class number ci, by the entry i of the pool of class own -/
def Fl (own : String) (i ci j : Nat) : Prop := ∃ (C : String) (T : u_T) (N : Nat), vwCl[ci]? = some (C, T, N) ∧ j < N ∧ (∀ w ∈ u_ws C T N, w ∈ tb_) ∧ Cond.fieldLink own i (T j).1 (T j).2.1 (T j).2.2.1 ∈ tb_
/-- and it may be written: not final, of type ty -/
def Fp (own : String) (i ci j : Nat) (ty : FieldType) : Prop := ∃ (C : String) (T : u_T) (N : Nat) (ty0 : Nat → FieldType), vwCl[ci]? = some (C, T, N) ∧ j < N ∧ (∀ w ∈ u_ws C T N, w ∈ tb_) ∧ Cond.fieldLink own i (T j).1 (T j).2.1 (T j).2.2.1 ∈ tb_ ∧ (T j).2.2.2 = false ∧ parseFieldDescriptor (T j).2.2.1 = some ty ∧ (∀ k, k < N → parseFieldDescriptor (T k).2.2.1 = some (ty0 k)) ∧ (∀ a, a < N → ∀ b, b < N → a ≠ b → (T a).2.1 ≠ (T b).2.1)

theorem r_get (C : Cx g q ct) {i ci j a : Nat} {fs : List Value} {v : Value} (hd : decode q.2.1 pc = .ok (.getfield i, 3)) (F : Fl q.1.cls i ci j) (ha : a < NW) (hw : w a = ob ci fs) (hv : fs[j]? = some v) (kk : Az g q ct k n (pc + 3) L (v :: st) w) : Az g q ct k n pc L (.ref a :: st) w := by
  obtain ⟨p, l, e, s, m, args, below, meth, c, A, Q⟩ := ct
  obtain ⟨hx, hb, hml, hown, hts, hK, hZ, hA, hr, hlk⟩ := C
  intro H locs ls hP hD hS hL
  obtain ⟨C, T, N, h1, h2, h3, h4⟩ := F
  exact va_get (v := cv g v) (fs := fs.map (cv g)) (ci := ci) hx hb hts h3 hown hK hP a (by rw [wl_get g w ha, hw]; rfl) h1 j h2 (hts _ h4) (fun _ h9 => h9) (by rw [List.getElem?_map, hv]; rfl) hd (kk H locs ls hP hD hS hL)
theorem r_put (C : Cx g q ct) {i ci j a : Nat} {fs fs' : List Value} {x : Int32} {ty : FieldType} (hd : decode q.2.1 pc = .ok (.putfield i, 3)) (F : Fp q.1.cls i ci j ty) (ha : a < NW) (hw : w a = ob ci fs) (hn : narrow ty (.int x) = .int x) (hfit : fits ty (.int x) = true) (hl : j < fs.length) (hf : fs.set j (.int x) = fs') (kk : Az g q ct k n (pc + 3) L st (wset w a (ob ci fs'))) : Az g q ct k n pc L (.int x :: .ref a :: st) w := by
  obtain ⟨p, l, e, s, m, args, below, meth, c, A, Q⟩ := ct
  obtain ⟨hx, hb, hml, hown, hts, hK, hZ, hA, hr, hlk⟩ := C
  intro H locs ls hP hD hS hL
  obtain ⟨C, T, N, ty0, h1, h2, h3, h4, h5, h6, h7, h8⟩ := F
  refine va_put (v := .int x) (fs := fs.map (cv g)) (ci := ci) hx hb hts h3 ty0 h7 h8 hown hK hP hD hS a (by rw [wl_get g w ha, hw]; rfl) h1 j h2 (hts _ h4) (fun _ h9 => h9) h5 h6 hn hfit (by rw [List.length_map]; exact hl) hd (fun H1 locs1 hP1 hD1 hS1 => ?_)
  have e : (wl g w).set a (g.1 a, .inr (ci, (fs.map (cv g)).set j (.int x))) = wl g (wset w a (ob ci fs')) := by
    rw [← wl_set g w (ob ci fs') ha, ← hf]
    simp only [ob, ce, List.map_set]
    rfl
  rw [e] at hP1 hD1
  exact kk H1 locs1 ls hP1 hD1 hS1 hL
theorem r_iald (C : Cx g q ct) {a N : Nat} {f : Nat → Int32} {i : Int32} (hd : decode q.2.1 pc = .ok (.iaload, 1)) (ha : a < NW) (hw : w a = ia N f) (hi : vp_in i N) (kk : Az g q ct k n (pc + 1) L (.int (f i.toNatClampNeg) :: st) w) : Az g q ct k n pc L (.int i :: .ref a :: st) w := by
  obtain ⟨p, l, e, s, m, args, below, meth, c, A, Q⟩ := ct
  obtain ⟨hx, hb, hml, hown, hts, hK, hZ, hA, hr, hlk⟩ := C
  intro H locs ls hP hD hS hL
  exact va_iald hx hb hK hP a 0 (by rw [wl_get g w ha, hw]; rfl) rfl hi hd (kk H locs ls hP hD hS hL)
theorem r_iast (C : Cx g q ct) {a N : Nat} {f : Nat → Int32} {i x : Int32} (hd : decode q.2.1 pc = .ok (.iastore, 1)) (ha : a < NW) (hw : w a = ia N f) (hi : vp_in i N) (kk : Az g q ct k n (pc + 1) L st (wset w a (ia N (upd f i.toNatClampNeg x)))) : Az g q ct k n pc L (.int x :: .int i :: .ref a :: st) w := by
  obtain ⟨p, l, e, s, m, args, below, meth, c, A, Q⟩ := ct
  obtain ⟨hx, hb, hml, hown, hts, hK, hZ, hA, hr, hlk⟩ := C
  intro H locs ls hP hD hS hL
  refine va_iast hx hb hK hP hD hS a 0 (by rw [wl_get g w ha, hw]; rfl) rfl hi hd (fun H1 locs1 hP1 hD1 hS1 => ?_)
  have e : (wl g w).set a (g.1 a, .inl (g.2.2.1, N, .inl (upd f i.toNatClampNeg x))) = wl g (wset w a (ia N (upd f i.toNatClampNeg x))) := wl_set g w (ia N (upd f i.toNatClampNeg x)) ha
  rw [e] at hP1 hD1
  exact kk H1 locs1 ls hP1 hD1 hS1 hL
theorem r_ialdN (C : Cx g q ct) {a N j : Nat} {f : Nat → Int32} {i : Int32} (hd : decode q.2.1 pc = .ok (.iaload, 1)) (ha : a < NW) (hw : w a = ia N f) (hi : i = nI j) (hj : j < N) (hN : N < 2 ^ 31) (kk : Az g q ct k n (pc + 1) L (.int (f j) :: st) w) : Az g q ct k n pc L (.int i :: .ref a :: st) w := by
  subst hi
  refine r_iald C hd ha hw (vp_in_nI hj hN) ?_
  rw [nI_clamp (Nat.lt_trans hj hN)]
  exact kk
theorem r_iastN (C : Cx g q ct) {a N j : Nat} {f : Nat → Int32} {i x : Int32} (hd : decode q.2.1 pc = .ok (.iastore, 1)) (ha : a < NW) (hw : w a = ia N f) (hi : i = nI j) (hj : j < N) (hN : N < 2 ^ 31) (kk : Az g q ct k n (pc + 1) L st (wset w a (ia N (upd f j x)))) : Az g q ct k n pc L (.int x :: .int i :: .ref a :: st) w := by
  subst hi
  refine r_iast C hd ha hw (vp_in_nI hj hN) ?_
  rw [nI_clamp (Nat.lt_trans hj hN)]
  exact kk
theorem r_alen (C : Cx g q ct) {a N : Nat} {f : Nat → Int32} (hd : decode q.2.1 pc = .ok (.arraylength, 1)) (ha : a < NW) (hw : w a = ia N f) (kk : Az g q ct k n (pc + 1) L (.int (nI N) :: st) w) : Az g q ct k n pc L (.ref a :: st) w := by
  obtain ⟨p, l, e, s, m, args, below, meth, c, A, Q⟩ := ct
  obtain ⟨hx, hb, hml, hown, hts, hK, hZ, hA, hr, hlk⟩ := C
  intro H locs ls hP hD hS hL
  exact va_alen hx hb hK hP a 0 (x := (N, .inl f)) (by rw [wl_get g w ha, hw]; rfl) rfl rfl hd (kk H locs ls hP hD hS hL)
-- static tables
theorem r_gets (C : Cx g q ct) {i j : Nat} {z : Zt} (hd : decode q.2.1 pc = .ok (.getstatic i, 3)) (hz : zts[j]? = some z) (hlk9 : Cond.fieldLink q.1.cls i z.1 z.2.1 "[I" ∈ tb_) (kk : Az g q ct k n (pc + 3) L (.ref (900 + j) :: st) w) : Az g q ct k n pc L st w := by
  obtain ⟨p, l, e, s, m, args, below, meth, c, A, Q⟩ := ct
  obtain ⟨hx, hb, hml, hown, hts, hK, hZ, hA, hr, hlk⟩ := C
  intro H locs ls hP hD hS hL
  exact va_gets hx hb (hZ j z hz).1 hS hown (hts _ hlk9) (fun _ h9 => h9) hd (kk H locs ls hP hD hS hL)
theorem r_tald (C : Cx g q ct) {j a t : Nat} {z : Zt} {i : Int32} (hd : decode q.2.1 pc = .ok (.iaload, 1)) (hz : zts[j]? = some z) (ha : a = 900 + j) (hi : i = nI t) (ht : t < z.2.2.1) (hN : z.2.2.1 < 2 ^ 31) (kk : Az g q ct k n (pc + 1) L (.int (z.2.2.2 t) :: st) w) : Az g q ct k n pc L (.int i :: .ref a :: st) w := by
  subst ha; subst hi
  obtain ⟨p, l, e, s, m, args, below, meth, c, A, Q⟩ := ct
  obtain ⟨hx, hb, hml, hown, hts, hK, hZ, hA, hr, hlk⟩ := C
  intro H locs ls hP hD hS hL
  exact va_ti hx hb (hZ j z hz).2 hS (vp_in_nI ht hN) (v := .int (z.2.2.2 t)) (by rw [nI_clamp (Nat.lt_trans ht hN)]) hd (kk H locs ls hP hD hS hL)
-- what the JDK gives
theorem r_min (C : Cx g q ct) {i : Nat} {x y : Int32} (hd : decode q.2.1 pc = .ok (.invokestatic i, 3)) (hl : Cond.methodLink q.1.cls i Lib.Math.min.name ∈ tb_) (hs9 : Cond.static Lib.Math.min.name ∈ tb_) (hi9 : Cond.initialized "java/lang/Math" ∈ tb_) (hc9 : Cond.code Lib.Math.min.name Lib.Math.min.code 2 (some .int) ∈ tb_) (hfr : 1 ≤ q.2.2.2.2.2.frames) (hlo : (st.map fun v => v.category).sum + 13 ≤ q.2.2.2.2.2.locals) (hkc : k ≤ q.2.2.2.2.2.cells) (hkn : n ≤ q.2.2.2.2.2.slots) (kk : Az g q ct k n (pc + 3) L (.int (if y < x then y else x) :: st) w) : Az g q ct k n pc L (.int y :: .int x :: st) w := by
  obtain ⟨p, l, e, s, m, args, below, meth, c, A, Q⟩ := ct
  obtain ⟨hx, hb, hml, hown, hts, hK, hZ, hA, hr, hlk⟩ := C
  intro H locs ls hP hD hS hL
  exact va_mmin hx hb (hml.trans hL.1.1.symm) hown (hts _ hl) (hts _ hs9) (hts _ hi9) (hts _ hc9) hfr (by rw [List.map_map]; simpa [Function.comp_def, cv_cat] using hlo) hkc hkn hd (kk H locs ls hP hD hS hL)
theorem r_copy (C : Cx g q ct) {i a b N M : Nat} {f h : Nat → Int32} {sp dp len : Int32} (hd : decode q.2.1 pc = .ok (.invokestatic i, 3)) (hl : Cond.methodLink q.1.cls i arraycopyName ∈ tb_) (hn9 : Cond.native arraycopyName ∈ tb_) (hs9 : Cond.static arraycopyName ∈ tb_) (hi9 : Cond.initialized "java/lang/System" ∈ tb_) (ha : a < NW) (hwa : w a = ia N f) (hb9 : b < NW) (hwb : w b = ia M h) (h1 : ¬ sp < 0) (h2 : ¬ dp < 0) (h3 : ¬ len < 0) (h4 : sp.toNatClampNeg + len.toNatClampNeg ≤ N) (h5 : dp.toNatClampNeg + len.toNatClampNeg ≤ M) (hfr : 1 ≤ q.2.2.2.2.2.frames) (hlo : (st.map fun v => v.category).sum + (nativeFrameWords "java/lang/System" "arraycopy" 5 + 11) ≤ q.2.2.2.2.2.locals) (kk : Az g q ct k n (pc + 3) L st (wset w b (ia M (va_cpy f h sp.toNatClampNeg dp.toNatClampNeg len.toNatClampNeg)))) : Az g q ct k n pc L (.int len :: .int dp :: .ref b :: .int sp :: .ref a :: st) w := by
  obtain ⟨p, l, e, s, m, args, below, meth, c, A, Q⟩ := ct
  obtain ⟨hx, hb, hml, hown, hts, hK, hZ, hA, hr, hlk⟩ := C
  intro H locs ls hP hD hS hL
  refine va_copyi hx hb (hml.trans hL.1.1.symm) hown (hts _ hl) (hts _ hn9) (hts _ hs9) (hts _ hi9) hK hP hD hS a b 0 0 (f := f) (g := h) (ty := .int) (by rw [wl_get g w ha, hwa]; rfl) (by rw [wl_get g w hb9, hwb]; rfl) rfl rfl rfl h1 h2 h3 h4 h5 (fun _ _ => rfl) hfr (by rw [List.map_map]; simpa [Function.comp_def, cv_cat] using hlo) hd (fun H1 locs1 hP1 hD1 hS1 => ?_)
  have e := wl_set g w (ia M (va_cpy f h sp.toNatClampNeg dp.toNatClampNeg len.toNatClampNeg)) hb9
  simp only [ia, ce] at e
  rw [e] at hP1 hD1
  exact kk H1 locs1 ls hP1 hD1 hS1 hL

-- contracts
def PP (g : Ge) (w : Wo) (sz : Nat) (U : State) : Prop := U.heap.size = sz ∧ va_P g.2.1 vwCl (wl g w) U.heap ∧ Kx g U ∧ va_D (fun _ => True) (wl g w) ∧ Zx g (va_A (wl g w) sz) U
def QQ (g : Ge) (w : Wo) (sz : Nat) (post : Option Value → Wo → Prop) : Array Value → State → Outcome → State → Prop := fun _ st oc t => (∃ (r : Option Value) (w' : Wo), oc = .returned (r.map (cv g)) ∧ post r w' ∧ va_P g.2.1 vwCl (wl g w') t.heap) ∧ va_F (va_A (wl g w) sz) st t
/-- method q, called with as in the world w, returns, and post holds of its answer and the world behind it; it makes nothing -/
def Ctr (q : Mi) (as : List Value) (w : Wo) (post : Option Value → Wo → Prop) : Prop := ∀ (l : Launch) (g : Ge) (sz : Nat), Met l q.1 (wsq q) q.2.2.2.2.2 (va_Pc (as.map (cv g)) (PP g w sz)) (QQ g w sz post) 0 0 (va_A (wl g w) sz)
/-- the context's end is the contract's -/
def Rt (g : Ge) (w0 : Wo) (post : Option Value → Wo → Prop) : Ct → Prop
  | (_, _, _, s, _, args, below, _, _, A, Q) => A = va_A (wl g w0) s.heap.size ∧ Q = MQ below (QQ g w0 s.heap.size post) args s 0 0 A
theorem Zx_moved {g : Ge} {A : Nat → Prop} {u U : State} (hvm : u.vm.Alike U.vm) (hh : U.heap = u.heap) (h : Zx g A u) : Zx g A U := fun j z hz => by
  obtain ⟨h1, h2⟩ := h j z hz
  rw [hh]
  exact ⟨h1.moved hvm, h2.moved hvm⟩
theorem PP_blind (g : Ge) (as : List Value) (w : Wo) (sz : Nat) : FrameBlind (va_Pc as (PP g w sz)) := fun a U gg mk h => by
  obtain ⟨h0, h1, h2, h3, h4, h5⟩ := h
  exact ⟨h0, h1, h2, va_K.moved (u := U) (U := U.calling gg mk a) (Vm.Alike.refl U.vm) h3, h4, Zx_moved (u := U) (U := U.calling gg mk a) (Vm.Alike.refl U.vm) rfl h5⟩
/-- entry: the arguments as locals -/
def lent (as : List Value) (nL : Nat) : Lo := as.map some ++ List.replicate (nL - as.length) none
def MiOk (q : Mi) : Prop := plainName q.1.cls = true ∧ Cond.code q.1 q.2.1 q.2.2.1 q.2.2.2.1 ∈ tb_ ∧ Cond.initialized q.1.cls ∈ tb_ ∧ (q.1.cls ≠ "java/lang/invoke/MethodHandle" ∧ q.1.cls ≠ "java/lang/invoke/VarHandle" ∧ (parseMethodDescriptor q.1.desc).map (fun d => d.parameters.length) = some q.2.2.2.2.1) ∧ q.2.2.2.2.2.cells = 0 ∧ q.2.2.2.2.2.slots = 0

theorem sl_map : ∀ (as : List Value), (∀ v ∈ as, v.category = 1) → lg_sl as = as.map Slot.val
  | [], _ => rfl
  | v :: t, h => by
    have h1 := h v List.mem_cons_self
    have h2 := sl_map t (fun u hu => h u (List.mem_cons_of_mem _ hu))
    unfold lg_sl at h2 ⊢
    rw [List.flatMap_cons, h2, if_neg (by omega)]
    rfl
theorem args_map : ∀ (as : List Value) (i : Nat), (∀ v ∈ as, v.category = 1) → ∀ (k : Nat) (v : Value), as[k]? = some v → (i + k, v) ∈ lv_args i as
  | [], i, _, k, v, h => by simp at h
  | u :: t, i, hc, k, v, h => by
    have h1 := hc u List.mem_cons_self
    unfold lv_args
    rw [if_neg (by omega)]
    cases k with
    | zero =>
      simp at h
      subst h
      exact List.mem_cons_self
    | succ k =>
      have := args_map t (i + 1) (fun u hu => hc u (List.mem_cons_of_mem _ hu)) k v (by simpa using h)
      rw [show i + (k + 1) = i + 1 + k by omega]
      exact List.mem_cons_of_mem _ this
theorem lent_at {as : List Value} {nL k : Nat} {v : Value} (h : (lent as nL)[k]? = some (some v)) : as[k]? = some v := by
  unfold lent at h
  by_cases hk : k < as.length
  · rw [List.getElem?_append_left (by rw [List.length_map]; exact hk), List.getElem?_map] at h
    cases e : as[k]? with
    | none => rw [e] at h; cases h
    | some u => rw [e] at h; simp at h; rw [h]
  · rw [List.getElem?_append_right (by rw [List.length_map]; omega)] at h
    have := List.mem_of_getElem? h
    have := List.eq_of_mem_replicate this
    cases this
theorem lh_entry (g : Ge) (as : List Value) (nL : Nat) (hc : ∀ v ∈ as, v.category = 1) (hn : as.length ≤ nL) : lh g ((lg_sl (as.map (cv g)) ++ List.replicate (nL - (lg_sl (as.map (cv g))).length) Slot.unset).toArray) nL (lent as nL) := by
  have hc' : ∀ v ∈ as.map (cv g), v.category = 1 := fun v hv => by
    obtain ⟨u, hu, rfl⟩ := List.mem_map.mp hv
    rw [cv_cat]
    exact hc u hu
  have hl := lv_entry (as.map (cv g)) (n := nL) (by rw [sl_map _ hc']; simpa using hn)
  refine ⟨⟨hl.1, hl.2.1, fun q hq => hl.2.2 q ?_⟩, fun k v hk => hc v (List.mem_of_getElem? (lent_at hk))⟩
  obtain ⟨k, v, h1, h2⟩ := (mem_lcv g _ 0 q).mp hq
  rw [h2]
  exact args_map _ 0 hc' k (cv g v) (by rw [List.getElem?_map, lent_at h1]; rfl)
def cat1 (as : List Value) : Bool := as.all (fun v => v.category == 1)
theorem Ctr_intro {q : Mi} {as : List Value} {w : Wo} {post : Option Value → Wo → Prop} (ok : MiOk q) (hc : cat1 as = true) (hn : as.length ≤ q.2.2.1) {L : Lo} (hL : lent as q.2.2.1 = L)
    (body : ∀ (g : Ge) (ct : Ct), Cx g q ct → Rt g w post ct → Az g q ct 0 0 0 L [] w) : Ctr q as w post := by
  intro l g sz
  refine Met.ofW (cc := q.2.1) (maxL := q.2.2.1) (ret := q.2.2.2.1) ok.1 rfl ?_
  intro p e s m args below meth c s₁ B hml hv
  obtain ⟨rfl, hsz, hP, hK, hD, hZ⟩ := hv
  subst hsz
  subst hL
  have hts0 := atoms_spec (ws := wsq q) B.pre
  have hb := body g (p, l, e, s, m, (as.map (cv g)).toArray, below, meth, c, va_A (wl g w) s.heap.size, MQ below (QQ g w s.heap.size post) (as.map (cv g)).toArray s 0 0 (va_A (wl g w) s.heap.size))
    ⟨B.exec, B.bytes, hml, findClass_of_methodNamed B.named, fun z hz => hts0 z (List.mem_cons_of_mem _ hz), hK, hZ, fun z hz => Or.inr hz, B.returns, B.notSynchronized⟩ ⟨rfl, rfl⟩
  rw [lg_entry_eq]
  exact hb s.heap [] _ hP hD.self va_S.rf (lh_entry g as q.2.2.1 (fun v hv => by have := List.all_eq_true.mp hc v hv; simpa using this) hn)
variable {w0 : Wo} {post : Option Value → Wo → Prop}
theorem r_ireturn (C : Cx g q ct) (T : Rt g w0 post ct) {x : Int32} {ty : FieldType} (hr9 : q.2.2.2.1 = some ty) (hn : narrow ty (.int x) = .int x) (hd : decode q.2.1 pc = .ok (.ireturn, 1)) (hp : post (some (.int x)) w) : Az g q ct 0 0 pc L [.int x] w := by
  obtain ⟨p, l, e, s, m, args, below, meth, c, A, Q⟩ := ct
  obtain ⟨hx, hb, hml, hown, hts, hK, hZ, hA, hr, hlk⟩ := C
  intro H locs ls hP hD hS hL
  obtain ⟨rfl, rfl⟩ := T
  exact W.zret hx hb (hr.trans hr9) hn (fun t ht hW => ⟨⟨some (.int x), w, rfl, hp, by rw [ht]; exact hP⟩, hS.F ht⟩) hS.2.2 hd hlk
theorem r_return (C : Cx g q ct) (T : Rt g w0 post ct) (hr9 : q.2.2.2.1 = none) (hd : decode q.2.1 pc = .ok (.return_, 1)) (hp : post none w) : Az g q ct 0 0 pc L [] w := by
  obtain ⟨p, l, e, s, m, args, below, meth, c, A, Q⟩ := ct
  obtain ⟨hx, hb, hml, hown, hts, hK, hZ, hA, hr, hlk⟩ := C
  intro H locs ls hP hD hS hL
  obtain ⟨rfl, rfl⟩ := T
  exact W.vret hx hb (hr.trans hr9) (fun t ht hW => ⟨⟨none, w, rfl, hp, by rw [ht]; exact hP⟩, hS.F ht⟩) hS.2.2 hd hlk
theorem r_areturn (C : Cx g q ct) (T : Rt g w0 post ct) {a : Nat} {c9 : String} (hr9 : q.2.2.2.1 = some (.object c9)) (hd : decode q.2.1 pc = .ok (.areturn, 1)) (hp : post (some (.ref a)) w) : Az g q ct 0 0 pc L [.ref a] w := by
  obtain ⟨p, l, e, s, m, args, below, meth, c, A, Q⟩ := ct
  obtain ⟨hx, hb, hml, hown, hts, hK, hZ, hA, hr, hlk⟩ := C
  intro H locs ls hP hD hS hL
  obtain ⟨rfl, rfl⟩ := T
  exact W.aret hx hb (hr.trans hr9) (Or.inl ⟨_, rfl⟩) (Or.inr ⟨_, rfl⟩) (fun t ht hW => ⟨⟨some (.ref a), w, rfl, hp, by rw [ht]; exact hP⟩, hS.F ht⟩) hS.2.2 hd hlk
theorem r_areturn0 (C : Cx g q ct) (T : Rt g w0 post ct) {c9 : String} (hr9 : q.2.2.2.1 = some (.object c9)) (hd : decode q.2.1 pc = .ok (.areturn, 1)) (hp : post (some .null) w) : Az g q ct 0 0 pc L [.null] w := by
  obtain ⟨p, l, e, s, m, args, below, meth, c, A, Q⟩ := ct
  obtain ⟨hx, hb, hml, hown, hts, hK, hZ, hA, hr, hlk⟩ := C
  intro H locs ls hP hD hS hL
  obtain ⟨rfl, rfl⟩ := T
  exact W.aret hx hb (hr.trans hr9) (Or.inl ⟨_, rfl⟩) (Or.inl rfl) (fun t ht hW => ⟨⟨some .null, w, rfl, hp, by rw [ht]; exact hP⟩, hS.F ht⟩) hS.2.2 hd hlk
theorem tb_good (q : Mi) (h : MiOk q) : GoodIn tb_ (wsq q) := by
  intro z hz
  rcases List.mem_cons.mp hz with rfl | hz
  · exact ⟨h.2.1, good_of_word (List.mem_filter.mp h.2.1).2⟩
  · exact ⟨hz, good_of_word (List.mem_filter.mp hz).2⟩
theorem callQ {p : Program} {l : Launch} {e : Env} {R : Room} {s : State} {m : MethodId} {args : Array Value} {below : List Frame} {meth : Method} {c : Code} {H : Heap} {locs : List Loc} {cells slots : Nat} {Q : State → Prop} {ls : Array Slot} {st0 rest : List Value} {A0 : Nat → Prop} {H0 : Heap} {a : Array Value}
    (hr : va_Run p l e R s m args below meth c H locs cells slots 0 0 (F0 m pc ls st0) rest (QQ g w H.size post a) (va_A (wl g w) H.size)) (hS : va_S A0 H0 H locs) (hf : ∀ z, va_A (wl g w) H.size z → A0 z)
    (kk : ∀ (r : Option Value) (w' : Wo) (H1 : Heap) (locs1 : List Loc), post r w' → va_P g.2.1 vwCl (wl g w') H1 → va_S A0 H0 H1 locs1 → W p l e R s m args below meth c H1 locs1 cells slots Q (F0 m (pc + 3) ls ((r.map (cv g)).toList ++ rest))) : W p l e R s m args below meth c H locs cells slots Q (F0 m pc ls st0) := by
  intro T hT X
  obtain ⟨v, st₀, t, T', Lc, h0, X', hL, e1, e2, ⟨⟨r, w', hv, hp, hb⟩, hz, hk⟩, stp⟩ := hr T hT X
  cases hv
  rw [h0] at hz hk
  obtain ⟨t2, a1, b1⟩ := kk r w' T'.heap (locs ++ Lc) hp (by rw [e1]; exact hb)
    ⟨Nat.le_trans hS.1 (by rw [e1]; exact hz), fun z h1 h2 => by rw [e1, hk z (Nat.lt_of_lt_of_le h1 hS.1) (fun y => h2 (hf z y))]; exact hS.2.1 z h1 h2, fun z hq => by
      rcases List.mem_append.mp hq with h | h
      · exact hS.2.2 z h
      · exact hf _ (hL z h)⟩ T' rfl X'
  exact ⟨t2, stp t2 a1, b1⟩
theorem A_free {A : Nat → Prop} {s : State} {H : Heap} {locs : List Loc} (hD : va_D A (wl g w)) (hS : va_S A s.heap H locs) (hA : ∀ z : Nat, s.heap.size ≤ z → A z) : ∀ z, va_A (wl g w) H.size z → A z := by
  intro z h
  rcases h with ⟨j, e, h⟩ | h
  · exact hD.2 j (z, e) h
  · exact hA z (Nat.le_trans hS.1 h)
theorem Zx_in {A : Nat → Prop} {s U : State} {H : Heap} {locs : List Loc} (hZ : Zx g A s) (hD : va_D A (wl g w)) (hS : va_S A s.heap H locs) (hA : ∀ z : Nat, s.heap.size ≤ z → A z) (hU : U.heap = H) (hvm : s.vm.Alike U.vm) : Zx g (va_A (wl g w) H.size) U := fun j z hz => by
  obtain ⟨h1, h2⟩ := hZ j z hz
  rw [hU]
  exact ⟨((h1.moved hvm).kept hS.2.1).narrow (A_free hD hS hA), ((h2.moved hvm).kept hS.2.1).narrow (A_free hD hS hA)⟩
/-- a call's room: the callee's in the caller's -/
def RmOk (q z : Mi) : Prop := z.2.2.2.2.2.frames + 1 ≤ q.2.2.2.2.2.frames ∧ 8 + (z.2.2.1 + 11) + z.2.2.2.2.2.locals ≤ q.2.2.2.2.2.locals
theorem st_sum (g : Ge) (rest : List Value) : ((rest.map (cv g)).map fun v => v.category).sum = (rest.map fun v => v.category).sum := by
  rw [List.map_map]
  congr 1
  apply List.map_congr_left
  intro v _
  exact cv_cat g v
theorem r_callS (C : Cx g q ct) {z : Mi} {i : Nat} {As rest st : List Value} (hM : Ctr z As w post) (ok : MiOk z) (hl : Cond.methodLink q.1.cls i z.1 ∈ tb_) (hs9 : Cond.static z.1 ∈ tb_) (hrm : RmOk q z) (hd : decode q.2.1 pc = .ok (.invokestatic i, 3)) (hst : st = As.reverse ++ rest) (hn : As.length = z.2.2.2.2.1) (hW : (rest.map fun v => v.category).sum ≤ 8) (hkc : k ≤ q.2.2.2.2.2.cells) (hkn : n ≤ q.2.2.2.2.2.slots)
    (kk : ∀ (r : Option Value) (w' : Wo), post r w' → Az g q ct k n (pc + 3) L (r.toList ++ rest) w') : Az g q ct k n pc L st w := by
  subst hst
  obtain ⟨p, l, e, s, m, args, below, meth, c, A, Q⟩ := ct
  obtain ⟨hx, hb, hml, hown, hts, hK, hZ, hA, hr, hlk⟩ := C
  intro H locs ls hP hD hS hL
  refine callQ (g := g) (w := w) (post := post) (va_runS (As := As.map (cv g)) (rest := rest.map (cv g)) ⟨hx, hb, hml, hown, hts⟩ (hM l g H.size)
    ⟨callB_of (n := z.2.2.2.2.1) hts (tb_good z ok) rfl ok.2.2.2.2.1 ok.2.2.2.2.2 (hts _ ok.2.2.1) (hts _ hl) ok.2.2.2.1 hrm, hts _ hs9⟩
    ⟨PP_blind g _ w H.size, fun U hU hW9 => ⟨rfl, by rw [hU], by rw [hU]; exact hP, va_K.moved hW9.alike hK, hD.weaken (fun _ _ _ _ => trivial), Zx_in hZ hD hS hA hU hW9.alike⟩⟩
    rfl (by rw [List.length_map]; exact hn) hL.1.1 (by simp [List.map_append, List.map_reverse]) (lv_room (by rw [st_sum]; exact hW)) hd ⟨by omega, by omega⟩) hS (A_free hD hS hA)
    (fun r w' H1 locs1 hp hP1 hS1 => ?_)
  have := kk r w' hp H1 locs1 ls hP1 (wl_D hD) hS1 hL
  rw [List.map_append] at this
  cases r <;> exact this
theorem r_callV (C : Cx g q ct) {z : Mi} {i a ci : Nat} {fs : List Value} {As rest st : List Value} {cq : vw_C} (hM : Ctr z (.ref a :: As) w post) (ok : MiOk z) (hl : Cond.methodLink q.1.cls i z.1 ∈ tb_) (hi9 : Cond.instanceMethod z.1 ∈ tb_) (hs9 : Cond.selects z.1.cls z.1 z.1 ∈ tb_) (hrm : RmOk q z) (hd : decode q.2.1 pc = .ok (.invokevirtual i, 3)) (hst : st = As.reverse ++ .ref a :: rest) (hn : As.length = z.2.2.2.2.1) (ha : a < NW) (hwa : w a = ob ci fs) (hc : vwCl[ci]? = some cq) (hcq : cq.1 = z.1.cls) (hW : (rest.map fun v => v.category).sum ≤ 8) (hkc : k ≤ q.2.2.2.2.2.cells) (hkn : n ≤ q.2.2.2.2.2.slots)
    (kk : ∀ (r : Option Value) (w' : Wo), post r w' → Az g q ct k n (pc + 3) L (r.toList ++ rest) w') : Az g q ct k n pc L st w := by
  subst hst
  obtain ⟨p, l, e, s, m, args, below, meth, c, A, Q⟩ := ct
  obtain ⟨hx, hb, hml, hown, hts, hK, hZ, hA, hr, hlk⟩ := C
  intro H locs ls hP hD hS hL
  refine callQ (g := g) (w := w) (post := post) (va_runV (C := z.1.cls) (b := g.1 a) (As := As.map (cv g)) (rest := rest.map (cv g)) ⟨hx, hb, hml, hown, hts⟩ (hM l g H.size)
    ⟨callB_of (n := z.2.2.2.2.1) hts (tb_good z ok) rfl ok.2.2.2.2.1 ok.2.2.2.2.2 (hts _ ok.2.2.1) (hts _ hl) ok.2.2.2.1 hrm, hts _ hi9, hts _ hs9⟩
    ⟨PP_blind g _ w H.size, by rw [← hcq]; exact va_recv hK hP hc (q0 := a) (fs := fs.map (cv g)) (ci := ci) (by rw [wl_get g w ha, hwa]; rfl), fun U hU hW9 => ⟨rfl, by rw [hU], by rw [hU]; exact hP, va_K.moved hW9.alike hK, hD.weaken (fun _ _ _ _ => trivial), Zx_in hZ hD hS hA hU hW9.alike⟩⟩
    rfl (by rw [List.length_map]; exact hn) hL.1.1 (by simp [List.map_append, List.map_reverse, cv]) (lv_room (by rw [st_sum]; exact hW)) hd ⟨by omega, by omega⟩) hS (A_free hD hS hA)
    (fun r w' H1 locs1 hp hP1 hS1 => ?_)
  have := kk r w' hp H1 locs1 ls hP1 (wl_D hD) hS1 hL
  rw [List.map_append] at this
  cases r <;> exact this


theorem nI_dec1 {a : Nat} (h : 1 ≤ a) : nI a + Int32.ofInt (-1) = nI (a - 1) := sb_m1 h
theorem r_copyN (C : Cx g q ct) {i a b N M sn dn ln : Nat} {f h : Nat → Int32} {sp dp len : Int32} (hd : decode q.2.1 pc = .ok (.invokestatic i, 3)) (hl : Cond.methodLink q.1.cls i arraycopyName ∈ tb_) (hn9 : Cond.native arraycopyName ∈ tb_) (hs9 : Cond.static arraycopyName ∈ tb_) (hi9 : Cond.initialized "java/lang/System" ∈ tb_) (ha : a < NW) (hwa : w a = ia N f) (hb9 : b < NW) (hwb : w b = ia M h) (e1 : sp = nI sn) (e2 : dp = nI dn) (e3 : len = nI ln) (s1 : sn + ln ≤ N) (s2 : dn + ln ≤ M) (s3 : sn < 2 ^ 31) (s4 : dn < 2 ^ 31) (s5 : ln < 2 ^ 31) (hfr : 1 ≤ q.2.2.2.2.2.frames) (hlo : (st.map fun v => v.category).sum + (nativeFrameWords "java/lang/System" "arraycopy" 5 + 11) ≤ q.2.2.2.2.2.locals) (kk : Az g q ct k n (pc + 3) L st (wset w b (ia M (va_cpy f h sn dn ln)))) : Az g q ct k n pc L (.int len :: .int dp :: .ref b :: .int sp :: .ref a :: st) w := by
  subst e1; subst e2; subst e3
  refine r_copy C hd hl hn9 hs9 hi9 ha hwa hb9 hwb (nI_pos s3) (nI_pos s4) (nI_pos s5) (by rw [nI_clamp s3, nI_clamp s5]; exact s1) (by rw [nI_clamp s4, nI_clamp s5]; exact s2) hfr hlo ?_
  rw [nI_clamp s3, nI_clamp s4, nI_clamp s5]
  exact kk
/-- the shapes of a post: nothing, an int, a cell -/
abbrev PV (p : Wo → Prop) : Option Value → Wo → Prop := fun r w' => r = none ∧ p w'
abbrev PI (p : Int32 → Wo → Prop) : Option Value → Wo → Prop := fun r w' => ∃ x, r = some (.int x) ∧ p x w'
abbrev PR (p : Nat → Wo → Prop) : Option Value → Wo → Prop := fun r w' => ∃ a, r = some (.ref a) ∧ p a w'
theorem r_callSv (C : Cx g q ct) {z : Mi} {i : Nat} {As rest st : List Value} {po : Wo → Prop} (hd : decode q.2.1 pc = .ok (.invokestatic i, 3)) (hM : Ctr z As w (PV po)) (ok : MiOk z) (hl : Cond.methodLink q.1.cls i z.1 ∈ tb_) (hs9 : Cond.static z.1 ∈ tb_) (hrm : RmOk q z) (hst : st = As.reverse ++ rest) (hn : As.length = z.2.2.2.2.1) (hW : (rest.map fun v => v.category).sum ≤ 8) (hkc : k ≤ q.2.2.2.2.2.cells) (hkn : n ≤ q.2.2.2.2.2.slots)
    (kk : ∀ (w' : Wo), po w' → Az g q ct k n (pc + 3) L (rest) w') : Az g q ct k n pc L st w := by
  refine r_callS C hM ok hl hs9 hrm hd hst hn hW hkc hkn (fun r w' h => ?_)
  obtain ⟨rfl, h9⟩ := h
  exact kk w' h9
theorem r_callVv (C : Cx g q ct) {z : Mi} {i a ci : Nat} {fs : List Value} {As rest st : List Value} {cq : vw_C} {po : Wo → Prop} (hd : decode q.2.1 pc = .ok (.invokevirtual i, 3)) (hM : Ctr z (.ref a :: As) w (PV po)) (ok : MiOk z) (hl : Cond.methodLink q.1.cls i z.1 ∈ tb_) (hi9 : Cond.instanceMethod z.1 ∈ tb_) (hs9 : Cond.selects z.1.cls z.1 z.1 ∈ tb_) (hrm : RmOk q z) (hst : st = As.reverse ++ .ref a :: rest) (hn : As.length = z.2.2.2.2.1) (ha : a < NW) (hwa : w a = ob ci fs) (hc : vwCl[ci]? = some cq) (hcq : cq.1 = z.1.cls) (hW : (rest.map fun v => v.category).sum ≤ 8) (hkc : k ≤ q.2.2.2.2.2.cells) (hkn : n ≤ q.2.2.2.2.2.slots)
    (kk : ∀ (w' : Wo), po w' → Az g q ct k n (pc + 3) L (rest) w') : Az g q ct k n pc L st w := by
  refine r_callV C hM ok hl hi9 hs9 hrm hd hst hn ha hwa hc hcq hW hkc hkn (fun r w' h => ?_)
  obtain ⟨rfl, h9⟩ := h
  exact kk w' h9
theorem r_callSi (C : Cx g q ct) {z : Mi} {i : Nat} {As rest st : List Value} {po : Int32 → Wo → Prop} (hd : decode q.2.1 pc = .ok (.invokestatic i, 3)) (hM : Ctr z As w (PI po)) (ok : MiOk z) (hl : Cond.methodLink q.1.cls i z.1 ∈ tb_) (hs9 : Cond.static z.1 ∈ tb_) (hrm : RmOk q z) (hst : st = As.reverse ++ rest) (hn : As.length = z.2.2.2.2.1) (hW : (rest.map fun v => v.category).sum ≤ 8) (hkc : k ≤ q.2.2.2.2.2.cells) (hkn : n ≤ q.2.2.2.2.2.slots)
    (kk : ∀ (x : Int32) (w' : Wo), po x w' → Az g q ct k n (pc + 3) L (.int x :: rest) w') : Az g q ct k n pc L st w := by
  refine r_callS C hM ok hl hs9 hrm hd hst hn hW hkc hkn (fun r w' h => ?_)
  obtain ⟨x, rfl, h9⟩ := h
  exact kk x w' h9
theorem r_callVi (C : Cx g q ct) {z : Mi} {i a ci : Nat} {fs : List Value} {As rest st : List Value} {cq : vw_C} {po : Int32 → Wo → Prop} (hd : decode q.2.1 pc = .ok (.invokevirtual i, 3)) (hM : Ctr z (.ref a :: As) w (PI po)) (ok : MiOk z) (hl : Cond.methodLink q.1.cls i z.1 ∈ tb_) (hi9 : Cond.instanceMethod z.1 ∈ tb_) (hs9 : Cond.selects z.1.cls z.1 z.1 ∈ tb_) (hrm : RmOk q z) (hst : st = As.reverse ++ .ref a :: rest) (hn : As.length = z.2.2.2.2.1) (ha : a < NW) (hwa : w a = ob ci fs) (hc : vwCl[ci]? = some cq) (hcq : cq.1 = z.1.cls) (hW : (rest.map fun v => v.category).sum ≤ 8) (hkc : k ≤ q.2.2.2.2.2.cells) (hkn : n ≤ q.2.2.2.2.2.slots)
    (kk : ∀ (x : Int32) (w' : Wo), po x w' → Az g q ct k n (pc + 3) L (.int x :: rest) w') : Az g q ct k n pc L st w := by
  refine r_callV C hM ok hl hi9 hs9 hrm hd hst hn ha hwa hc hcq hW hkc hkn (fun r w' h => ?_)
  obtain ⟨x, rfl, h9⟩ := h
  exact kk x w' h9
theorem r_callSr (C : Cx g q ct) {z : Mi} {i : Nat} {As rest st : List Value} {po : Nat → Wo → Prop} (hd : decode q.2.1 pc = .ok (.invokestatic i, 3)) (hM : Ctr z As w (PR po)) (ok : MiOk z) (hl : Cond.methodLink q.1.cls i z.1 ∈ tb_) (hs9 : Cond.static z.1 ∈ tb_) (hrm : RmOk q z) (hst : st = As.reverse ++ rest) (hn : As.length = z.2.2.2.2.1) (hW : (rest.map fun v => v.category).sum ≤ 8) (hkc : k ≤ q.2.2.2.2.2.cells) (hkn : n ≤ q.2.2.2.2.2.slots)
    (kk : ∀ (b : Nat) (w' : Wo), po b w' → Az g q ct k n (pc + 3) L (.ref b :: rest) w') : Az g q ct k n pc L st w := by
  refine r_callS C hM ok hl hs9 hrm hd hst hn hW hkc hkn (fun r w' h => ?_)
  obtain ⟨b, rfl, h9⟩ := h
  exact kk b w' h9
theorem r_callVr (C : Cx g q ct) {z : Mi} {i a ci : Nat} {fs : List Value} {As rest st : List Value} {cq : vw_C} {po : Nat → Wo → Prop} (hd : decode q.2.1 pc = .ok (.invokevirtual i, 3)) (hM : Ctr z (.ref a :: As) w (PR po)) (ok : MiOk z) (hl : Cond.methodLink q.1.cls i z.1 ∈ tb_) (hi9 : Cond.instanceMethod z.1 ∈ tb_) (hs9 : Cond.selects z.1.cls z.1 z.1 ∈ tb_) (hrm : RmOk q z) (hst : st = As.reverse ++ .ref a :: rest) (hn : As.length = z.2.2.2.2.1) (ha : a < NW) (hwa : w a = ob ci fs) (hc : vwCl[ci]? = some cq) (hcq : cq.1 = z.1.cls) (hW : (rest.map fun v => v.category).sum ≤ 8) (hkc : k ≤ q.2.2.2.2.2.cells) (hkn : n ≤ q.2.2.2.2.2.slots)
    (kk : ∀ (b : Nat) (w' : Wo), po b w' → Az g q ct k n (pc + 3) L (.ref b :: rest) w') : Az g q ct k n pc L st w := by
  refine r_callV C hM ok hl hi9 hs9 hrm hd hst hn ha hwa hc hcq hW hkc hkn (fun r w' h => ?_)
  obtain ⟨b, rfl, h9⟩ := h
  exact kk b w' h9
end Rows
