abbrev mo (fa sz rz rv ln pm lo ns os uz ik ms hsz : Int32) : Cel := ob 6 [.int fa, .int sz, .ref 36, .int rz, .ref 37, .int rv, .int ln, .int pm, .int lo, .ref 38, .ref 39, .int ns, .ref 40, .int os, .ref 41, .int uz, .ref 42, .int ik, .ref 43, .int ms, .ref 44, .ref 45, .ref 46, .ref 47, .ref 48, .ref 49, .int hsz, .ref 50, .ref 51, .ref 52, .ref 53, .ref 54, .ref 55, .ref 56, .ref 57, .ref 58]
set_option maxHeartbeats 4000000 in
set_option maxRecDepth 100000 in
theorem cX6_thrown9 {w : Wo} {fa sz rz rv ln pm lo ns os uz ik ms hsz : Int32} (w_35 : w 35 = mo fa sz rz rv ln pm lo ns os uz ik ms hsz) : Ctr mX6_thrown [.ref 35] w (PI fun r w' => w' = w ∧ r = fa) := by
  refine Ctr_intro okX6_thrown rfl (Nat.le_of_ble_eq_true rfl) (L := [some (.ref 35)]) rfl (fun g ct C T_ => ?_)
  refine r_aload_n C dX6_thrown_0 rfl ?_
  refine r_get C dX6_thrown_1 fgRX6_153 (Nat.le_of_ble_eq_true rfl) w_35 rfl ?_
  exact r_ireturn C T_ rfl rfl dX6_thrown_4 (⟨_, rfl, rfl, rfl⟩)
set_option maxHeartbeats 4000000 in
set_option maxRecDepth 100000 in
theorem cX6_refused9 {w : Wo} {fa sz rz rv ln pm lo ns os uz ik ms hsz : Int32} (w_35 : w 35 = mo fa sz rz rv ln pm lo ns os uz ik ms hsz) {p1 : Int32} : Ctr mX6_refused [.ref 35, .int p1] w (PI fun r w' => w' = wset w 35 (mo p1 sz rz rv ln pm lo ns os uz ik ms hsz) ∧ r = (if p1 ≤ 0 then 0 else 1)) := by
  refine Ctr_intro okX6_refused rfl (Nat.le_of_ble_eq_true rfl) (L := [some (.ref 35), some (.int p1)]) rfl (fun g ct C T_ => ?_)
  refine r_aload_n C dX6_refused_0 rfl ?_
  refine r_iload_n C dX6_refused_1 rfl ?_
  refine r_put C dX6_refused_2 fpRX6_153 (Nat.le_of_ble_eq_true rfl) w_35 rfl rfl (Nat.le_of_ble_eq_true rfl) (fs' := [.int p1, .int sz, .ref 36, .int rz, .ref 37, .int rv, .int ln, .int pm, .int lo, .ref 38, .ref 39, .int ns, .ref 40, .int os, .ref 41, .int uz, .ref 42, .int ik, .ref 43, .int ms, .ref 44, .ref 45, .ref 46, .ref 47, .ref 48, .ref 49, .int hsz, .ref 50, .ref 51, .ref 52, .ref 53, .ref 54, .ref 55, .ref 56, .ref 57, .ref 58]) rfl ?_
  refine r_iload_n C dX6_refused_5 rfl ?_
  refine r_if_le C 13 dX6_refused_6 (by decide) (fun c_6 => ?_) (fun c_6 => ?_)
  · skip
    refine r_iconst C dX6_refused_13 (v := 0) (by decide) ?_
    exact r_ireturn C T_ rfl (by decide) dX6_refused_14 (⟨_, rfl, rfl, by first | rw [if_pos c_6] | rw [if_neg c_6]⟩)
  · skip
    refine r_iconst C dX6_refused_9 (v := 1) (by decide) ?_
    refine r_goto C 14 dX6_refused_10 (by decide) ?_
    exact r_ireturn C T_ rfl (by decide) dX6_refused_14 (⟨_, rfl, rfl, by first | rw [if_pos c_6] | rw [if_neg c_6]⟩)
set_option maxHeartbeats 4000000 in
set_option maxRecDepth 100000 in
theorem cX6_say9 {w : Wo} {zs : List Nat} {fa sz rz rv ln pm lo ns os uz ik hsz : Int32} (w_35 : w 35 = mo fa sz rz rv ln pm lo ns os uz ik (nI zs.length) hsz) {fm : Nat → Int32} (w_44 : w 44 = ia 16512 fm) (h_zs : hs fm zs) {x : Int32} {y : Nat} (hy : x = nI y) (hk : zs.length < 16512) : Ctr mX6_say [.ref 35, .int x] w (PV fun w' => ∃ fm', w' = wset (wset w 44 (ia 16512 fm')) 35 (mo fa sz rz rv ln pm lo ns os uz ik (nI ((zs ++ [y]).length)) hsz) ∧ hs fm' (zs ++ [y])) := by
  refine Ctr_intro okX6_say rfl (Nat.le_of_ble_eq_true rfl) (L := [some (.ref 35), some (.int x)]) rfl (fun g ct C T_ => ?_)
  refine r_aload_n C dX6_say_0 rfl ?_
  refine r_get C dX6_say_1 fgRX6_44 (Nat.le_of_ble_eq_true rfl) w_35 rfl ?_
  refine r_aload_n C dX6_say_4 rfl ?_
  refine r_get C dX6_say_5 fgRX6_163 (Nat.le_of_ble_eq_true rfl) w_35 rfl ?_
  refine r_iload_n C dX6_say_8 rfl ?_
  refine r_iastN C dX6_say_9 (Nat.le_of_ble_eq_true rfl) w_44 (j := zs.length) rfl (by omega) (by decide) ?_
  refine r_aload_n C dX6_say_10 rfl ?_
  refine r_dup C dX6_say_11 rfl ?_
  refine r_get C dX6_say_12 fgRX6_163 (Nat.le_of_ble_eq_true rfl) (ws_ne (Nat.ne_of_beq_eq_false rfl) w_35) rfl ?_
  refine r_iconst C dX6_say_15 (v := 1) (by decide) ?_
  refine r_iadd C dX6_say_16 ?_
  refine r_top (y := nI (zs.length + 1)) (nI_add zs.length 1) ?_
  refine r_put C dX6_say_17 fpRX6_163 (Nat.le_of_ble_eq_true rfl) (ws_ne (Nat.ne_of_beq_eq_false rfl) w_35) rfl rfl (Nat.le_of_ble_eq_true rfl) (fs' := [.int fa, .int sz, .ref 36, .int rz, .ref 37, .int rv, .int ln, .int pm, .int lo, .ref 38, .ref 39, .int ns, .ref 40, .int os, .ref 41, .int uz, .ref 42, .int ik, .ref 43, .int (nI (zs.length + 1)), .ref 44, .ref 45, .ref 46, .ref 47, .ref 48, .ref 49, .int hsz, .ref 50, .ref 51, .ref 52, .ref 53, .ref 54, .ref 55, .ref 56, .ref 57, .ref 58]) rfl ?_
  exact r_return C T_ rfl dX6_say_20 (⟨rfl, _, by rw [len_push], hs_push h_zs hy⟩)
set_option maxHeartbeats 4000000 in
set_option maxRecDepth 100000 in
theorem cX6_turned9 {w : Wo} {v y : Int32} : Ctr mX6_turned [.int v, .int y] w (PI fun r w' => w' = w ∧ r = rotl v y) := by
  refine Ctr_intro okX6_turned rfl (Nat.le_of_ble_eq_true rfl) (L := [some (.int v), some (.int y)]) rfl (fun g ct C T_ => ?_)
  refine r_iload_n C dX6_turned_0 rfl ?_
  refine r_iload_n C dX6_turned_1 rfl ?_
  refine r_ishl C dX6_turned_2 ?_
  refine r_iload_n C dX6_turned_3 rfl ?_
  refine r_bipush C dX6_turned_4 (v := 32) (by decide) ?_
  refine r_iload_n C dX6_turned_6 rfl ?_
  refine r_isub C dX6_turned_7 ?_
  refine r_iushr C dX6_turned_8 ?_
  refine r_ior C dX6_turned_9 ?_
  exact r_ireturn C T_ rfl rfl dX6_turned_10 (⟨_, rfl, rfl, rfl⟩)
set_option maxHeartbeats 4000000 in
set_option maxRecDepth 100000 in
theorem cX6_word9 {w : Wo} {zs : List Nat} {fa sz rz rv ln pm lo ns os uz ik hsz : Int32} (w_35 : w 35 = mo fa sz rz rv ln pm lo ns os uz ik (nI zs.length) hsz) {fm : Nat → Int32} (w_44 : w 44 = ia 16512 fm) (h_zs : hs fm zs) (hz : zs.length ≤ 16512) {q : Nat} (hq : q + 3 < zs.length) : Ctr mX6_word [.ref 35, .int (nI q)] w (PI fun r w' => w' = w ∧ r = le4 (fun k => zs.getD k 0) q) := by
  refine Ctr_intro okX6_word rfl (Nat.le_of_ble_eq_true rfl) (L := [some (.ref 35), some (.int (nI q))]) rfl (fun g ct C T_ => ?_)
  refine r_aload_n C dX6_word_0 rfl ?_
  refine r_get C dX6_word_1 fgRX6_44 (Nat.le_of_ble_eq_true rfl) w_35 rfl ?_
  refine r_iload_n C dX6_word_4 rfl ?_
  refine r_ialdN C dX6_word_5 (Nat.le_of_ble_eq_true rfl) w_44 (j := q) rfl (by omega) (by decide) ?_
  refine r_top (y := nI (zs.getD q 0)) (h_zs _ (by omega)) ?_
  refine r_aload_n C dX6_word_6 rfl ?_
  refine r_get C dX6_word_7 fgRX6_44 (Nat.le_of_ble_eq_true rfl) w_35 rfl ?_
  refine r_iload_n C dX6_word_10 rfl ?_
  refine r_iconst C dX6_word_11 (v := 1) (by decide) ?_
  refine r_iadd C dX6_word_12 ?_
  refine r_top (y := nI (q + 1)) (nI_add q 1) ?_
  refine r_ialdN C dX6_word_13 (Nat.le_of_ble_eq_true rfl) w_44 (j := q + 1) rfl (by omega) (by decide) ?_
  refine r_top (y := nI (zs.getD (q + 1) 0)) (h_zs _ (by omega)) ?_
  refine r_bipush C dX6_word_14 (v := 8) (by decide) ?_
  refine r_ishl C dX6_word_16 ?_
  refine r_ior C dX6_word_17 ?_
  refine r_aload_n C dX6_word_18 rfl ?_
  refine r_get C dX6_word_19 fgRX6_44 (Nat.le_of_ble_eq_true rfl) w_35 rfl ?_
  refine r_iload_n C dX6_word_22 rfl ?_
  refine r_iconst C dX6_word_23 (v := 2) (by decide) ?_
  refine r_iadd C dX6_word_24 ?_
  refine r_top (y := nI (q + 2)) (nI_add q 2) ?_
  refine r_ialdN C dX6_word_25 (Nat.le_of_ble_eq_true rfl) w_44 (j := q + 2) rfl (by omega) (by decide) ?_
  refine r_top (y := nI (zs.getD (q + 2) 0)) (h_zs _ (by omega)) ?_
  refine r_bipush C dX6_word_26 (v := 16) (by decide) ?_
  refine r_ishl C dX6_word_28 ?_
  refine r_ior C dX6_word_29 ?_
  refine r_aload_n C dX6_word_30 rfl ?_
  refine r_get C dX6_word_31 fgRX6_44 (Nat.le_of_ble_eq_true rfl) w_35 rfl ?_
  refine r_iload_n C dX6_word_34 rfl ?_
  refine r_iconst C dX6_word_35 (v := 3) (by decide) ?_
  refine r_iadd C dX6_word_36 ?_
  refine r_top (y := nI (q + 3)) (nI_add q 3) ?_
  refine r_ialdN C dX6_word_37 (Nat.le_of_ble_eq_true rfl) w_44 (j := q + 3) rfl (by omega) (by decide) ?_
  refine r_top (y := nI (zs.getD (q + 3) 0)) (h_zs _ (by omega)) ?_
  refine r_bipush C dX6_word_38 (v := 24) (by decide) ?_
  refine r_ishl C dX6_word_40 ?_
  refine r_ior C dX6_word_41 ?_
  exact r_ireturn C T_ rfl rfl dX6_word_42 (⟨_, rfl, rfl, rfl⟩)
def q4f (a b c d : Int32) : Nat → Int32 := fun k => if k = 0 then a else if k = 1 then b else if k = 2 then c else if k = 3 then d else 0
theorem upd_q0 (a b c d x : Int32) : upd (q4f a b c d) 0 x = q4f x b c d := by
  funext k
  unfold upd q4f
  by_cases h : k = 0 <;> simp [h]
theorem upd_q1 (a b c d x : Int32) : upd (q4f a b c d) 1 x = q4f a x c d := by
  funext k
  unfold upd q4f
  by_cases h : k = 1 <;> simp [h]
theorem upd_q2 (a b c d x : Int32) : upd (q4f a b c d) 2 x = q4f a b x d := by
  funext k
  unfold upd q4f
  by_cases h : k = 2 <;> simp [h]
theorem upd_q3 (a b c d x : Int32) : upd (q4f a b c d) 3 x = q4f a b c x := by
  funext k
  unfold upd q4f
  by_cases h : k = 3 <;> simp [h]
set_option maxHeartbeats 4000000 in
set_option maxRecDepth 100000 in
theorem cX6_digestBlock9 {w : Wo} {zs : List Nat} {fa sz rz rv ln pm lo ns os uz ik hsz : Int32} (w_35 : w 35 = mo fa sz rz rv ln pm lo ns os uz ik (nI zs.length) hsz) {fm : Nat → Int32} (w_44 : w 44 = ia 16512 fm) (h_zs : hs fm zs) (hz : zs.length ≤ 16512) {vA vB vC vD : Int32} (w_46 : w 46 = ia 4 (q4f vA vB vC vD)) {fsn : Nat → Int32} (w_47 : w 47 = ia 64 fsn) (hsn : ∀ k, k < 64 → fsn k = tabf sinL k) {ftn : Nat → Int32} (w_48 : w 48 = ia 16 ftn) (htn : ∀ k, k < 16 → ftn k = tabf turL k) {q : Nat} (hq : q + 64 ≤ zs.length) : Ctr mX6_digestBlock [.ref 35, .int (nI q)] w (PV fun w' => w' = wset w 46 (ia 4 (q4f (mdC (fun j => le4 (fun k => zs.getD k 0) (q + 4 * j)) (vA, vB, vC, vD)).1 (mdC (fun j => le4 (fun k => zs.getD k 0) (q + 4 * j)) (vA, vB, vC, vD)).2.1 (mdC (fun j => le4 (fun k => zs.getD k 0) (q + 4 * j)) (vA, vB, vC, vD)).2.2.1 (mdC (fun j => le4 (fun k => zs.getD k 0) (q + 4 * j)) (vA, vB, vC, vD)).2.2.2))) := by
  refine Ctr_intro okX6_digestBlock rfl (Nat.le_of_ble_eq_true rfl) (L := [some (.ref 35), some (.int (nI q)), none, none, none, none, none, none, none, none]) rfl (fun g ct C T_ => ?_)
  refine r_aload_n C dX6_digestBlock_0 rfl ?_
  refine r_get C dX6_digestBlock_1 fgRX6_50 (Nat.le_of_ble_eq_true rfl) w_35 rfl ?_
  refine r_iconst C dX6_digestBlock_4 (v := 0) (by decide) ?_
  refine r_ialdN C dX6_digestBlock_5 (Nat.le_of_ble_eq_true rfl) w_46 (j := 0) rfl (by omega) (by decide) ?_
  refine r_top (y := vA) (rfl) ?_
  refine r_istore_n C dX6_digestBlock_6 (L' := [some (.ref 35), some (.int (nI q)), some (.int vA), none, none, none, none, none, none, none]) (by decide) rfl ?_
  refine r_aload_n C dX6_digestBlock_7 rfl ?_
  refine r_get C dX6_digestBlock_8 fgRX6_50 (Nat.le_of_ble_eq_true rfl) w_35 rfl ?_
  refine r_iconst C dX6_digestBlock_11 (v := 1) (by decide) ?_
  refine r_ialdN C dX6_digestBlock_12 (Nat.le_of_ble_eq_true rfl) w_46 (j := 1) rfl (by omega) (by decide) ?_
  refine r_top (y := vB) (rfl) ?_
  refine r_istore_n C dX6_digestBlock_13 (L' := [some (.ref 35), some (.int (nI q)), some (.int vA), some (.int vB), none, none, none, none, none, none]) (by decide) rfl ?_
  refine r_aload_n C dX6_digestBlock_14 rfl ?_
  refine r_get C dX6_digestBlock_15 fgRX6_50 (Nat.le_of_ble_eq_true rfl) w_35 rfl ?_
  refine r_iconst C dX6_digestBlock_18 (v := 2) (by decide) ?_
  refine r_ialdN C dX6_digestBlock_19 (Nat.le_of_ble_eq_true rfl) w_46 (j := 2) rfl (by omega) (by decide) ?_
  refine r_top (y := vC) (rfl) ?_
  refine r_istore C dX6_digestBlock_20 (L' := [some (.ref 35), some (.int (nI q)), some (.int vA), some (.int vB), some (.int vC), none, none, none, none, none]) (by decide) rfl ?_
  refine r_aload_n C dX6_digestBlock_22 rfl ?_
  refine r_get C dX6_digestBlock_23 fgRX6_50 (Nat.le_of_ble_eq_true rfl) w_35 rfl ?_
  refine r_iconst C dX6_digestBlock_26 (v := 3) (by decide) ?_
  refine r_ialdN C dX6_digestBlock_27 (Nat.le_of_ble_eq_true rfl) w_46 (j := 3) rfl (by omega) (by decide) ?_
  refine r_top (y := vD) (rfl) ?_
  refine r_istore C dX6_digestBlock_28 (L' := [some (.ref 35), some (.int (nI q)), some (.int vA), some (.int vB), some (.int vC), some (.int vD), none, none, none, none]) (by decide) rfl ?_
  refine r_iconst C dX6_digestBlock_30 (v := 0) (by decide) ?_
  refine r_istore C dX6_digestBlock_31 (L' := [some (.ref 35), some (.int (nI q)), some (.int vA), some (.int vB), some (.int vC), some (.int vD), some (.int 0), none, none, none]) (by decide) rfl ?_
  have loop_33 : ∀ (d9 : Nat) (i : Nat) (a : Int32) (b : Int32) (c : Int32) (d : Int32), 64 - i < d9 → i ≤ 64 → (a, b, c, d) = mdR (fun j => le4 (fun k => zs.getD k 0) (q + 4 * j)) i (vA, vB, vC, vD) → Az g mX6_digestBlock ct 0 0 33 [some (.ref 35), some (.int (nI q)), some (.int a), some (.int b), some (.int c), some (.int d), some (.int (nI i)), none, none, none] [] w := by
    intro d9
    induction d9 with
    | zero => intro i a b c d hd9; exact absurd hd9 (Nat.not_lt_zero _)
    | succ d9 ih_33 =>
      intro i a b c d hd9 hi he
      refine r_iload C dX6_digestBlock_33 rfl ?_
      refine r_bipush C dX6_digestBlock_35 (v := 64) (by decide) ?_
      refine r_icmp_ge C 233 dX6_digestBlock_37 (by decide) (fun c_37 => ?_) (fun c_37 => ?_)
      · skip
        have c_37 : 64 ≤ i := (nI_leI (a := 64) (b := i) (by omega) (by omega)).mp c_37
        refine r_aload_n C dX6_digestBlock_233 rfl ?_
        refine r_get C dX6_digestBlock_234 fgRX6_50 (Nat.le_of_ble_eq_true rfl) w_35 rfl ?_
        refine r_iconst C dX6_digestBlock_237 (v := 0) (by decide) ?_
        refine r_aload_n C dX6_digestBlock_238 rfl ?_
        refine r_get C dX6_digestBlock_239 fgRX6_50 (Nat.le_of_ble_eq_true rfl) w_35 rfl ?_
        refine r_iconst C dX6_digestBlock_242 (v := 0) (by decide) ?_
        refine r_ialdN C dX6_digestBlock_243 (Nat.le_of_ble_eq_true rfl) w_46 (j := 0) rfl (by omega) (by decide) ?_
        refine r_top (y := vA) (rfl) ?_
        refine r_iload_n C dX6_digestBlock_244 rfl ?_
        refine r_iadd C dX6_digestBlock_245 ?_
        refine r_iastN C dX6_digestBlock_246 (Nat.le_of_ble_eq_true rfl) w_46 (j := 0) rfl (by omega) (by decide) ?_
        rw [upd_q0]
        refine r_aload_n C dX6_digestBlock_247 rfl ?_
        refine r_get C dX6_digestBlock_248 fgRX6_50 (Nat.le_of_ble_eq_true rfl) (ws_ne (Nat.ne_of_beq_eq_false rfl) w_35) rfl ?_
        refine r_iconst C dX6_digestBlock_251 (v := 1) (by decide) ?_
        refine r_aload_n C dX6_digestBlock_252 rfl ?_
        refine r_get C dX6_digestBlock_253 fgRX6_50 (Nat.le_of_ble_eq_true rfl) (ws_ne (Nat.ne_of_beq_eq_false rfl) w_35) rfl ?_
        refine r_iconst C dX6_digestBlock_256 (v := 1) (by decide) ?_
        refine r_ialdN C dX6_digestBlock_257 (Nat.le_of_ble_eq_true rfl) ws_eq (j := 1) rfl (by omega) (by decide) ?_
        refine r_top (y := vB) (rfl) ?_
        refine r_iload_n C dX6_digestBlock_258 rfl ?_
        refine r_iadd C dX6_digestBlock_259 ?_
        refine r_iastN C dX6_digestBlock_260 (Nat.le_of_ble_eq_true rfl) ws_eq (j := 1) rfl (by omega) (by decide) ?_
        refine r_eq rfl rfl ws_same ?_
        rw [upd_q1]
        refine r_aload_n C dX6_digestBlock_261 rfl ?_
        refine r_get C dX6_digestBlock_262 fgRX6_50 (Nat.le_of_ble_eq_true rfl) (ws_ne (Nat.ne_of_beq_eq_false rfl) w_35) rfl ?_
        refine r_iconst C dX6_digestBlock_265 (v := 2) (by decide) ?_
        refine r_aload_n C dX6_digestBlock_266 rfl ?_
        refine r_get C dX6_digestBlock_267 fgRX6_50 (Nat.le_of_ble_eq_true rfl) (ws_ne (Nat.ne_of_beq_eq_false rfl) w_35) rfl ?_
        refine r_iconst C dX6_digestBlock_270 (v := 2) (by decide) ?_
        refine r_ialdN C dX6_digestBlock_271 (Nat.le_of_ble_eq_true rfl) ws_eq (j := 2) rfl (by omega) (by decide) ?_
        refine r_top (y := vC) (rfl) ?_
        refine r_iload C dX6_digestBlock_272 rfl ?_
        refine r_iadd C dX6_digestBlock_274 ?_
        refine r_iastN C dX6_digestBlock_275 (Nat.le_of_ble_eq_true rfl) ws_eq (j := 2) rfl (by omega) (by decide) ?_
        refine r_eq rfl rfl ws_same ?_
        rw [upd_q2]
        refine r_aload_n C dX6_digestBlock_276 rfl ?_
        refine r_get C dX6_digestBlock_277 fgRX6_50 (Nat.le_of_ble_eq_true rfl) (ws_ne (Nat.ne_of_beq_eq_false rfl) w_35) rfl ?_
        refine r_iconst C dX6_digestBlock_280 (v := 3) (by decide) ?_
        refine r_aload_n C dX6_digestBlock_281 rfl ?_
        refine r_get C dX6_digestBlock_282 fgRX6_50 (Nat.le_of_ble_eq_true rfl) (ws_ne (Nat.ne_of_beq_eq_false rfl) w_35) rfl ?_
        refine r_iconst C dX6_digestBlock_285 (v := 3) (by decide) ?_
        refine r_ialdN C dX6_digestBlock_286 (Nat.le_of_ble_eq_true rfl) ws_eq (j := 3) rfl (by omega) (by decide) ?_
        refine r_top (y := vD) (rfl) ?_
        refine r_iload C dX6_digestBlock_287 rfl ?_
        refine r_iadd C dX6_digestBlock_289 ?_
        refine r_iastN C dX6_digestBlock_290 (Nat.le_of_ble_eq_true rfl) ws_eq (j := 3) rfl (by omega) (by decide) ?_
        refine r_eq rfl rfl ws_same ?_
        rw [upd_q3]
        exact r_return C T_ rfl dX6_digestBlock_291 (⟨rfl, by unfold mdC; rw [show (64 : Nat) = i by omega, ← he]⟩)
      · skip
        have c_37 : ¬ (64 ≤ i) := fun h9 => c_37 ((nI_leI (a := 64) (b := i) (by omega) (by omega)).mpr h9)
        refine r_iload C dX6_digestBlock_40 rfl ?_
        refine r_bipush C dX6_digestBlock_42 (v := 16) (by decide) ?_
        refine r_idiv C dX6_digestBlock_44 (by decide) ?_
        refine r_top (y := nI (i / 16)) (pk_div (a := i) (d := 16) (by omega) (by omega) (by omega)) ?_
        refine r_istore C dX6_digestBlock_45 (L' := [some (.ref 35), some (.int (nI q)), some (.int a), some (.int b), some (.int c), some (.int d), some (.int (nI i)), some (.int (nI (i / 16))), none, none]) (by decide) rfl ?_
        refine r_iload C dX6_digestBlock_47 rfl ?_
        refine r_if_ne C 66 dX6_digestBlock_49 (by decide) (fun c_49 => ?_) (fun c_49 => ?_)
        · skip
          have c_49 : ¬ ((i / 16) = 0) := fun h9 => c_49 ((nI_eq (a := i / 16) (b := 0) (by omega) (by omega)).mpr h9)
          refine r_iload C dX6_digestBlock_66 rfl ?_
          refine r_iconst C dX6_digestBlock_68 (v := 1) (by decide) ?_
          refine r_icmp_ne C 87 dX6_digestBlock_69 (by decide) (fun c_69 => ?_) (fun c_69 => ?_)
          · skip
            have c_69 : ¬ ((i / 16) = 1) := fun h9 => c_69 ((nI_eq (a := i / 16) (b := 1) (by omega) (by omega)).mpr h9)
            refine r_iload C dX6_digestBlock_87 rfl ?_
            refine r_iconst C dX6_digestBlock_89 (v := 2) (by decide) ?_
            refine r_icmp_ne C 103 dX6_digestBlock_90 (by decide) (fun c_90 => ?_) (fun c_90 => ?_)
            · skip
              have c_90 : ¬ ((i / 16) = 2) := fun h9 => c_90 ((nI_eq (a := i / 16) (b := 2) (by omega) (by omega)).mpr h9)
              refine r_iload C dX6_digestBlock_103 rfl ?_
              refine r_iload_n C dX6_digestBlock_105 rfl ?_
              refine r_iload C dX6_digestBlock_106 rfl ?_
              refine r_iconst C dX6_digestBlock_108 (v := (-1)) (by decide) ?_
              refine r_ixor C dX6_digestBlock_109 ?_
              refine r_ior C dX6_digestBlock_110 ?_
              refine r_ixor C dX6_digestBlock_111 ?_
              refine r_istore C dX6_digestBlock_112 (L' := [some (.ref 35), some (.int (nI q)), some (.int a), some (.int b), some (.int c), some (.int d), some (.int (nI i)), some (.int (nI (i / 16))), some (.int (c ^^^ (b ||| (d ^^^ (-1))))), none]) (by decide) rfl ?_
              refine r_iload C dX6_digestBlock_114 rfl ?_
              refine r_if_ne C 124 dX6_digestBlock_116 (by decide) (fun c_116 => ?_) (fun c_116 => ?_)
              · skip
                have c_116 : ¬ ((i / 16) = 0) := fun h9 => c_116 ((nI_eq (a := i / 16) (b := 0) (by omega) (by omega)).mpr h9)
                refine r_iload C dX6_digestBlock_124 rfl ?_
                refine r_iconst C dX6_digestBlock_126 (v := 1) (by decide) ?_
                refine r_icmp_ne C 142 dX6_digestBlock_127 (by decide) (fun c_127 => ?_) (fun c_127 => ?_)
                · skip
                  have c_127 : ¬ ((i / 16) = 1) := fun h9 => c_127 ((nI_eq (a := i / 16) (b := 1) (by omega) (by omega)).mpr h9)
                  refine r_iload C dX6_digestBlock_142 rfl ?_
                  refine r_iconst C dX6_digestBlock_144 (v := 2) (by decide) ?_
                  refine r_icmp_ne C 160 dX6_digestBlock_145 (by decide) (fun c_145 => ?_) (fun c_145 => ?_)
                  · skip
                    have c_145 : ¬ ((i / 16) = 2) := fun h9 => c_145 ((nI_eq (a := i / 16) (b := 2) (by omega) (by omega)).mpr h9)
                    refine r_bipush C dX6_digestBlock_160 (v := 7) (by decide) ?_
                    refine r_iload C dX6_digestBlock_162 rfl ?_
                    refine r_imul C dX6_digestBlock_164 ?_
                    refine r_top (y := nI (7 * i)) (pk_mul 7 i) ?_
                    refine r_bipush C dX6_digestBlock_165 (v := 16) (by decide) ?_
                    refine r_irem C dX6_digestBlock_167 (by decide) ?_
                    refine r_top (y := nI ((7 * i) % 16)) (pk_rem (a := 7 * i) (d := 16) (by omega) (by omega) (by omega)) ?_
                    refine r_istore C dX6_digestBlock_168 (L' := [some (.ref 35), some (.int (nI q)), some (.int a), some (.int b), some (.int c), some (.int d), some (.int (nI i)), some (.int (nI (i / 16))), some (.int (c ^^^ (b ||| (d ^^^ (-1))))), some (.int (nI ((7 * i) % 16)))]) (by decide) rfl ?_
                    refine r_iload C dX6_digestBlock_170 rfl ?_
                    refine r_iload_n C dX6_digestBlock_172 rfl ?_
                    refine r_iadd C dX6_digestBlock_173 ?_
                    refine r_aload_n C dX6_digestBlock_174 rfl ?_
                    refine r_get C dX6_digestBlock_175 fgRX6_117 (Nat.le_of_ble_eq_true rfl) w_35 rfl ?_
                    refine r_iload C dX6_digestBlock_178 rfl ?_
                    refine r_ialdN C dX6_digestBlock_180 (Nat.le_of_ble_eq_true rfl) w_47 (j := i) rfl (by omega) (by decide) ?_
                    refine r_top (y := tabf sinL i) (hsn i (by omega)) ?_
                    refine r_iadd C dX6_digestBlock_181 ?_
                    refine r_aload_n C dX6_digestBlock_182 rfl ?_
                    refine r_iload_n C dX6_digestBlock_183 rfl ?_
                    refine r_iconst C dX6_digestBlock_184 (v := 4) (by decide) ?_
                    refine r_iload C dX6_digestBlock_185 rfl ?_
                    refine r_imul C dX6_digestBlock_187 ?_
                    refine r_top (y := nI (4 * ((7 * i) % 16))) (pk_mul 4 ((7 * i) % 16)) ?_
                    refine r_iadd C dX6_digestBlock_188 ?_
                    refine r_top (y := nI (q + (4 * ((7 * i) % 16)))) (nI_add q (4 * ((7 * i) % 16))) ?_
                    refine r_callVi C (As := [.int (nI (q + (4 * ((7 * i) % 16))))]) (rest := [.int (((c ^^^ (b ||| (d ^^^ (-1)))) + a) + (tabf sinL i))]) dX6_digestBlock_189 (cX6_word9 w_35 w_44 h_zs hz (q := q + (4 * ((7 * i) % 16))) (by omega)) okX6_word mlRX6_166 imX6_word seX6_word ⟨by decide, by decide⟩ rfl rfl (Nat.le_of_ble_eq_true rfl) w_35 rfl rfl (Nat.le_of_ble_eq_true rfl) (by decide) (by decide) (fun r_1 w9 h9 => ?_)
                    obtain ⟨e9, rfl⟩ := h9
                    have e9 := e9.symm
                    subst e9
                    refine r_iadd C dX6_digestBlock_192 ?_
                    obtain ⟨fv, hfv⟩ : ∃ z : Int32, z = (((c ^^^ (b ||| (d ^^^ (-1)))) + a) + (tabf sinL i)) + (le4 (fun k => zs.getD k 0) (q + (4 * ((7 * i) % 16)))) := ⟨_, rfl⟩
                    refine r_top hfv.symm ?_
                    refine r_istore C dX6_digestBlock_193 (L' := [some (.ref 35), some (.int (nI q)), some (.int a), some (.int b), some (.int c), some (.int d), some (.int (nI i)), some (.int (nI (i / 16))), some (.int fv), some (.int (nI ((7 * i) % 16)))]) (by decide) rfl ?_
                    refine r_iload C dX6_digestBlock_195 rfl ?_
                    refine r_istore_n C dX6_digestBlock_197 (L' := [some (.ref 35), some (.int (nI q)), some (.int d), some (.int b), some (.int c), some (.int d), some (.int (nI i)), some (.int (nI (i / 16))), some (.int fv), some (.int (nI ((7 * i) % 16)))]) (by decide) rfl ?_
                    refine r_iload C dX6_digestBlock_198 rfl ?_
                    refine r_istore C dX6_digestBlock_200 (L' := [some (.ref 35), some (.int (nI q)), some (.int d), some (.int b), some (.int c), some (.int c), some (.int (nI i)), some (.int (nI (i / 16))), some (.int fv), some (.int (nI ((7 * i) % 16)))]) (by decide) rfl ?_
                    refine r_iload_n C dX6_digestBlock_202 rfl ?_
                    refine r_istore C dX6_digestBlock_203 (L' := [some (.ref 35), some (.int (nI q)), some (.int d), some (.int b), some (.int b), some (.int c), some (.int (nI i)), some (.int (nI (i / 16))), some (.int fv), some (.int (nI ((7 * i) % 16)))]) (by decide) rfl ?_
                    refine r_iload_n C dX6_digestBlock_205 rfl ?_
                    refine r_iload C dX6_digestBlock_206 rfl ?_
                    refine r_aload_n C dX6_digestBlock_208 rfl ?_
                    refine r_get C dX6_digestBlock_209 fgRX6_120 (Nat.le_of_ble_eq_true rfl) w_35 rfl ?_
                    refine r_iconst C dX6_digestBlock_212 (v := 4) (by decide) ?_
                    refine r_iload C dX6_digestBlock_213 rfl ?_
                    refine r_imul C dX6_digestBlock_215 ?_
                    refine r_top (y := nI (4 * (i / 16))) (pk_mul 4 (i / 16)) ?_
                    refine r_iload C dX6_digestBlock_216 rfl ?_
                    refine r_iconst C dX6_digestBlock_218 (v := 4) (by decide) ?_
                    refine r_irem C dX6_digestBlock_219 (by decide) ?_
                    refine r_top (y := nI (i % 4)) (pk_rem (a := i) (d := 4) (by omega) (by omega) (by omega)) ?_
                    refine r_iadd C dX6_digestBlock_220 ?_
                    refine r_top (y := nI ((4 * (i / 16)) + (i % 4))) (nI_add (4 * (i / 16)) (i % 4)) ?_
                    refine r_ialdN C dX6_digestBlock_221 (Nat.le_of_ble_eq_true rfl) w_48 (j := (4 * (i / 16)) + (i % 4)) rfl (by omega) (by decide) ?_
                    refine r_top (y := tabf turL ((4 * (i / 16)) + (i % 4))) (htn _ (by omega)) ?_
                    have htix : 4 * (i / 16) + i % 4 = i / 16 * 4 + i % 4 := by omega
                    refine r_callSi C (As := [.int fv, .int (tabf turL ((4 * (i / 16)) + (i % 4)))]) (rest := [.int b]) dX6_digestBlock_222 (cX6_turned9 (v := fv) (y := tabf turL ((4 * (i / 16)) + (i % 4)))) okX6_turned mlRX6_170 stX6_turned ⟨by decide, by decide⟩ rfl rfl (Nat.le_of_ble_eq_true rfl) (by decide) (by decide) (fun r_2 w9 h9 => ?_)
                    obtain ⟨e9, rfl⟩ := h9
                    have e9 := e9.symm
                    subst e9
                    refine r_iadd C dX6_digestBlock_225 ?_
                    refine r_istore_n C dX6_digestBlock_226 (L' := [some (.ref 35), some (.int (nI q)), some (.int d), some (.int (b + (rotl fv (tabf turL ((4 * (i / 16)) + (i % 4)))))), some (.int b), some (.int c), some (.int (nI i)), some (.int (nI (i / 16))), some (.int fv), some (.int (nI ((7 * i) % 16)))]) (by decide) rfl ?_
                    refine r_iinc C dX6_digestBlock_227 (v := nI (i + 1)) (L' := [some (.ref 35), some (.int (nI q)), some (.int d), some (.int (b + (rotl fv (tabf turL ((4 * (i / 16)) + (i % 4)))))), some (.int b), some (.int c), some (.int (nI (i + 1))), some (.int (nI (i / 16))), some (.int fv), some (.int (nI ((7 * i) % 16)))]) rfl (nI_add i 1) (by decide) rfl ?_
                    refine r_goto C 33 dX6_digestBlock_230 (by decide) ?_
                    refine r_forget [some (.ref 35), some (.int (nI q)), some (.int d), some (.int (b + (rotl fv (tabf turL ((4 * (i / 16)) + (i % 4)))))), some (.int b), some (.int c), some (.int (nI (i + 1))), none, none, none] ⟨Or.inr rfl, Or.inr rfl, Or.inr rfl, Or.inr rfl, Or.inr rfl, Or.inr rfl, Or.inr rfl, Or.inl rfl, Or.inl rfl, Or.inl rfl, trivial⟩ ?_
                    exact ih_33 (i + 1) d (b + (rotl fv (tabf turL ((4 * (i / 16)) + (i % 4))))) b c (by omega) (by omega) (by rw [mdR, ← he]; simp only [mdS, mdf, mdF, mdG, mdT, if_neg (show ¬ i < 16 by omega), if_neg (show ¬ i < 32 by omega), if_neg (show ¬ i < 48 by omega)]; rw [hfv, htix]; simp only [Int32.add_assoc])
                  · skip
                    have c_145 : (i / 16) = 2 := (nI_eq (a := i / 16) (b := 2) (by omega) (by omega)).mp c_145
                    exact (by first | omega | exact absurd c_145 c_90 | exact absurd c_90 c_145)
                · skip
                  have c_127 : (i / 16) = 1 := (nI_eq (a := i / 16) (b := 1) (by omega) (by omega)).mp c_127
                  exact (by first | omega | exact absurd c_127 c_69 | exact absurd c_69 c_127)
              · skip
                have c_116 : (i / 16) = 0 := (nI_eq (a := i / 16) (b := 0) (by omega) (by omega)).mp c_116
                exact (by first | omega | exact absurd c_116 c_49 | exact absurd c_49 c_116)
            · skip
              have c_90 : (i / 16) = 2 := (nI_eq (a := i / 16) (b := 2) (by omega) (by omega)).mp c_90
              refine r_iload_n C dX6_digestBlock_93 rfl ?_
              refine r_iload C dX6_digestBlock_94 rfl ?_
              refine r_ixor C dX6_digestBlock_96 ?_
              refine r_iload C dX6_digestBlock_97 rfl ?_
              refine r_ixor C dX6_digestBlock_99 ?_
              refine r_goto C 112 dX6_digestBlock_100 (by decide) ?_
              refine r_istore C dX6_digestBlock_112 (L' := [some (.ref 35), some (.int (nI q)), some (.int a), some (.int b), some (.int c), some (.int d), some (.int (nI i)), some (.int (nI (i / 16))), some (.int ((b ^^^ c) ^^^ d)), none]) (by decide) rfl ?_
              refine r_iload C dX6_digestBlock_114 rfl ?_
              refine r_if_ne C 124 dX6_digestBlock_116 (by decide) (fun c_116 => ?_) (fun c_116 => ?_)
              · skip
                have c_116 : ¬ ((i / 16) = 0) := fun h9 => c_116 ((nI_eq (a := i / 16) (b := 0) (by omega) (by omega)).mpr h9)
                refine r_iload C dX6_digestBlock_124 rfl ?_
                refine r_iconst C dX6_digestBlock_126 (v := 1) (by decide) ?_
                refine r_icmp_ne C 142 dX6_digestBlock_127 (by decide) (fun c_127 => ?_) (fun c_127 => ?_)
                · skip
                  have c_127 : ¬ ((i / 16) = 1) := fun h9 => c_127 ((nI_eq (a := i / 16) (b := 1) (by omega) (by omega)).mpr h9)
                  refine r_iload C dX6_digestBlock_142 rfl ?_
                  refine r_iconst C dX6_digestBlock_144 (v := 2) (by decide) ?_
                  refine r_icmp_ne C 160 dX6_digestBlock_145 (by decide) (fun c_145 => ?_) (fun c_145 => ?_)
                  · skip
                    have c_145 : ¬ ((i / 16) = 2) := fun h9 => c_145 ((nI_eq (a := i / 16) (b := 2) (by omega) (by omega)).mpr h9)
                    exact (by first | omega | exact absurd c_145 c_90 | exact absurd c_90 c_145)
                  · skip
                    have c_145 : (i / 16) = 2 := (nI_eq (a := i / 16) (b := 2) (by omega) (by omega)).mp c_145
                    refine r_iconst C dX6_digestBlock_148 (v := 3) (by decide) ?_
                    refine r_iload C dX6_digestBlock_149 rfl ?_
                    refine r_imul C dX6_digestBlock_151 ?_
                    refine r_top (y := nI (3 * i)) (pk_mul 3 i) ?_
                    refine r_iconst C dX6_digestBlock_152 (v := 5) (by decide) ?_
                    refine r_iadd C dX6_digestBlock_153 ?_
                    refine r_top (y := nI ((3 * i) + 5)) (nI_add (3 * i) 5) ?_
                    refine r_bipush C dX6_digestBlock_154 (v := 16) (by decide) ?_
                    refine r_irem C dX6_digestBlock_156 (by decide) ?_
                    refine r_top (y := nI (((3 * i) + 5) % 16)) (pk_rem (a := (3 * i) + 5) (d := 16) (by omega) (by omega) (by omega)) ?_
                    refine r_goto C 168 dX6_digestBlock_157 (by decide) ?_
                    refine r_istore C dX6_digestBlock_168 (L' := [some (.ref 35), some (.int (nI q)), some (.int a), some (.int b), some (.int c), some (.int d), some (.int (nI i)), some (.int (nI (i / 16))), some (.int ((b ^^^ c) ^^^ d)), some (.int (nI (((3 * i) + 5) % 16)))]) (by decide) rfl ?_
                    refine r_iload C dX6_digestBlock_170 rfl ?_
                    refine r_iload_n C dX6_digestBlock_172 rfl ?_
                    refine r_iadd C dX6_digestBlock_173 ?_
                    refine r_aload_n C dX6_digestBlock_174 rfl ?_
                    refine r_get C dX6_digestBlock_175 fgRX6_117 (Nat.le_of_ble_eq_true rfl) w_35 rfl ?_
                    refine r_iload C dX6_digestBlock_178 rfl ?_
                    refine r_ialdN C dX6_digestBlock_180 (Nat.le_of_ble_eq_true rfl) w_47 (j := i) rfl (by omega) (by decide) ?_
                    refine r_top (y := tabf sinL i) (hsn i (by omega)) ?_
                    refine r_iadd C dX6_digestBlock_181 ?_
                    refine r_aload_n C dX6_digestBlock_182 rfl ?_
                    refine r_iload_n C dX6_digestBlock_183 rfl ?_
                    refine r_iconst C dX6_digestBlock_184 (v := 4) (by decide) ?_
                    refine r_iload C dX6_digestBlock_185 rfl ?_
                    refine r_imul C dX6_digestBlock_187 ?_
                    refine r_top (y := nI (4 * (((3 * i) + 5) % 16))) (pk_mul 4 (((3 * i) + 5) % 16)) ?_
                    refine r_iadd C dX6_digestBlock_188 ?_
                    refine r_top (y := nI (q + (4 * (((3 * i) + 5) % 16)))) (nI_add q (4 * (((3 * i) + 5) % 16))) ?_
                    refine r_callVi C (As := [.int (nI (q + (4 * (((3 * i) + 5) % 16))))]) (rest := [.int ((((b ^^^ c) ^^^ d) + a) + (tabf sinL i))]) dX6_digestBlock_189 (cX6_word9 w_35 w_44 h_zs hz (q := q + (4 * (((3 * i) + 5) % 16))) (by omega)) okX6_word mlRX6_166 imX6_word seX6_word ⟨by decide, by decide⟩ rfl rfl (Nat.le_of_ble_eq_true rfl) w_35 rfl rfl (Nat.le_of_ble_eq_true rfl) (by decide) (by decide) (fun r_3 w9 h9 => ?_)
                    obtain ⟨e9, rfl⟩ := h9
                    have e9 := e9.symm
                    subst e9
                    refine r_iadd C dX6_digestBlock_192 ?_
                    obtain ⟨fv, hfv⟩ : ∃ z : Int32, z = ((((b ^^^ c) ^^^ d) + a) + (tabf sinL i)) + (le4 (fun k => zs.getD k 0) (q + (4 * (((3 * i) + 5) % 16)))) := ⟨_, rfl⟩
                    refine r_top hfv.symm ?_
                    refine r_istore C dX6_digestBlock_193 (L' := [some (.ref 35), some (.int (nI q)), some (.int a), some (.int b), some (.int c), some (.int d), some (.int (nI i)), some (.int (nI (i / 16))), some (.int fv), some (.int (nI (((3 * i) + 5) % 16)))]) (by decide) rfl ?_
                    refine r_iload C dX6_digestBlock_195 rfl ?_
                    refine r_istore_n C dX6_digestBlock_197 (L' := [some (.ref 35), some (.int (nI q)), some (.int d), some (.int b), some (.int c), some (.int d), some (.int (nI i)), some (.int (nI (i / 16))), some (.int fv), some (.int (nI (((3 * i) + 5) % 16)))]) (by decide) rfl ?_
                    refine r_iload C dX6_digestBlock_198 rfl ?_
                    refine r_istore C dX6_digestBlock_200 (L' := [some (.ref 35), some (.int (nI q)), some (.int d), some (.int b), some (.int c), some (.int c), some (.int (nI i)), some (.int (nI (i / 16))), some (.int fv), some (.int (nI (((3 * i) + 5) % 16)))]) (by decide) rfl ?_
                    refine r_iload_n C dX6_digestBlock_202 rfl ?_
                    refine r_istore C dX6_digestBlock_203 (L' := [some (.ref 35), some (.int (nI q)), some (.int d), some (.int b), some (.int b), some (.int c), some (.int (nI i)), some (.int (nI (i / 16))), some (.int fv), some (.int (nI (((3 * i) + 5) % 16)))]) (by decide) rfl ?_
                    refine r_iload_n C dX6_digestBlock_205 rfl ?_
                    refine r_iload C dX6_digestBlock_206 rfl ?_
                    refine r_aload_n C dX6_digestBlock_208 rfl ?_
                    refine r_get C dX6_digestBlock_209 fgRX6_120 (Nat.le_of_ble_eq_true rfl) w_35 rfl ?_
                    refine r_iconst C dX6_digestBlock_212 (v := 4) (by decide) ?_
                    refine r_iload C dX6_digestBlock_213 rfl ?_
                    refine r_imul C dX6_digestBlock_215 ?_
                    refine r_top (y := nI (4 * (i / 16))) (pk_mul 4 (i / 16)) ?_
                    refine r_iload C dX6_digestBlock_216 rfl ?_
                    refine r_iconst C dX6_digestBlock_218 (v := 4) (by decide) ?_
                    refine r_irem C dX6_digestBlock_219 (by decide) ?_
                    refine r_top (y := nI (i % 4)) (pk_rem (a := i) (d := 4) (by omega) (by omega) (by omega)) ?_
                    refine r_iadd C dX6_digestBlock_220 ?_
                    refine r_top (y := nI ((4 * (i / 16)) + (i % 4))) (nI_add (4 * (i / 16)) (i % 4)) ?_
                    refine r_ialdN C dX6_digestBlock_221 (Nat.le_of_ble_eq_true rfl) w_48 (j := (4 * (i / 16)) + (i % 4)) rfl (by omega) (by decide) ?_
                    refine r_top (y := tabf turL ((4 * (i / 16)) + (i % 4))) (htn _ (by omega)) ?_
                    have htix : 4 * (i / 16) + i % 4 = i / 16 * 4 + i % 4 := by omega
                    refine r_callSi C (As := [.int fv, .int (tabf turL ((4 * (i / 16)) + (i % 4)))]) (rest := [.int b]) dX6_digestBlock_222 (cX6_turned9 (v := fv) (y := tabf turL ((4 * (i / 16)) + (i % 4)))) okX6_turned mlRX6_170 stX6_turned ⟨by decide, by decide⟩ rfl rfl (Nat.le_of_ble_eq_true rfl) (by decide) (by decide) (fun r_4 w9 h9 => ?_)
                    obtain ⟨e9, rfl⟩ := h9
                    have e9 := e9.symm
                    subst e9
                    refine r_iadd C dX6_digestBlock_225 ?_
                    refine r_istore_n C dX6_digestBlock_226 (L' := [some (.ref 35), some (.int (nI q)), some (.int d), some (.int (b + (rotl fv (tabf turL ((4 * (i / 16)) + (i % 4)))))), some (.int b), some (.int c), some (.int (nI i)), some (.int (nI (i / 16))), some (.int fv), some (.int (nI (((3 * i) + 5) % 16)))]) (by decide) rfl ?_
                    refine r_iinc C dX6_digestBlock_227 (v := nI (i + 1)) (L' := [some (.ref 35), some (.int (nI q)), some (.int d), some (.int (b + (rotl fv (tabf turL ((4 * (i / 16)) + (i % 4)))))), some (.int b), some (.int c), some (.int (nI (i + 1))), some (.int (nI (i / 16))), some (.int fv), some (.int (nI (((3 * i) + 5) % 16)))]) rfl (nI_add i 1) (by decide) rfl ?_
                    refine r_goto C 33 dX6_digestBlock_230 (by decide) ?_
                    refine r_forget [some (.ref 35), some (.int (nI q)), some (.int d), some (.int (b + (rotl fv (tabf turL ((4 * (i / 16)) + (i % 4)))))), some (.int b), some (.int c), some (.int (nI (i + 1))), none, none, none] ⟨Or.inr rfl, Or.inr rfl, Or.inr rfl, Or.inr rfl, Or.inr rfl, Or.inr rfl, Or.inr rfl, Or.inl rfl, Or.inl rfl, Or.inl rfl, trivial⟩ ?_
                    exact ih_33 (i + 1) d (b + (rotl fv (tabf turL ((4 * (i / 16)) + (i % 4))))) b c (by omega) (by omega) (by rw [mdR, ← he]; simp only [mdS, mdf, mdF, mdG, mdT, if_neg (show ¬ i < 16 by omega), if_neg (show ¬ i < 32 by omega), if_pos (show i < 48 by omega)]; rw [hfv, htix]; simp only [Int32.add_assoc])
                · skip
                  have c_127 : (i / 16) = 1 := (nI_eq (a := i / 16) (b := 1) (by omega) (by omega)).mp c_127
                  exact (by first | omega | exact absurd c_127 c_69 | exact absurd c_69 c_127)
              · skip
                have c_116 : (i / 16) = 0 := (nI_eq (a := i / 16) (b := 0) (by omega) (by omega)).mp c_116
                exact (by first | omega | exact absurd c_116 c_49 | exact absurd c_49 c_116)
          · skip
            have c_69 : (i / 16) = 1 := (nI_eq (a := i / 16) (b := 1) (by omega) (by omega)).mp c_69
            refine r_iload C dX6_digestBlock_72 rfl ?_
            refine r_iload_n C dX6_digestBlock_74 rfl ?_
            refine r_iand C dX6_digestBlock_75 ?_
            refine r_iload C dX6_digestBlock_76 rfl ?_
            refine r_iconst C dX6_digestBlock_78 (v := (-1)) (by decide) ?_
            refine r_ixor C dX6_digestBlock_79 ?_
            refine r_iload C dX6_digestBlock_80 rfl ?_
            refine r_iand C dX6_digestBlock_82 ?_
            refine r_ior C dX6_digestBlock_83 ?_
            refine r_goto C 112 dX6_digestBlock_84 (by decide) ?_
            refine r_istore C dX6_digestBlock_112 (L' := [some (.ref 35), some (.int (nI q)), some (.int a), some (.int b), some (.int c), some (.int d), some (.int (nI i)), some (.int (nI (i / 16))), some (.int ((d &&& b) ||| ((d ^^^ (-1)) &&& c))), none]) (by decide) rfl ?_
            refine r_iload C dX6_digestBlock_114 rfl ?_
            refine r_if_ne C 124 dX6_digestBlock_116 (by decide) (fun c_116 => ?_) (fun c_116 => ?_)
            · skip
              have c_116 : ¬ ((i / 16) = 0) := fun h9 => c_116 ((nI_eq (a := i / 16) (b := 0) (by omega) (by omega)).mpr h9)
              refine r_iload C dX6_digestBlock_124 rfl ?_
              refine r_iconst C dX6_digestBlock_126 (v := 1) (by decide) ?_
              refine r_icmp_ne C 142 dX6_digestBlock_127 (by decide) (fun c_127 => ?_) (fun c_127 => ?_)
              · skip
                have c_127 : ¬ ((i / 16) = 1) := fun h9 => c_127 ((nI_eq (a := i / 16) (b := 1) (by omega) (by omega)).mpr h9)
                exact (by first | omega | exact absurd c_127 c_69 | exact absurd c_69 c_127)
              · skip
                have c_127 : (i / 16) = 1 := (nI_eq (a := i / 16) (b := 1) (by omega) (by omega)).mp c_127
                refine r_iconst C dX6_digestBlock_130 (v := 5) (by decide) ?_
                refine r_iload C dX6_digestBlock_131 rfl ?_
                refine r_imul C dX6_digestBlock_133 ?_
                refine r_top (y := nI (5 * i)) (pk_mul 5 i) ?_
                refine r_iconst C dX6_digestBlock_134 (v := 1) (by decide) ?_
                refine r_iadd C dX6_digestBlock_135 ?_
                refine r_top (y := nI ((5 * i) + 1)) (nI_add (5 * i) 1) ?_
                refine r_bipush C dX6_digestBlock_136 (v := 16) (by decide) ?_
                refine r_irem C dX6_digestBlock_138 (by decide) ?_
                refine r_top (y := nI (((5 * i) + 1) % 16)) (pk_rem (a := (5 * i) + 1) (d := 16) (by omega) (by omega) (by omega)) ?_
                refine r_goto C 168 dX6_digestBlock_139 (by decide) ?_
                refine r_istore C dX6_digestBlock_168 (L' := [some (.ref 35), some (.int (nI q)), some (.int a), some (.int b), some (.int c), some (.int d), some (.int (nI i)), some (.int (nI (i / 16))), some (.int ((d &&& b) ||| ((d ^^^ (-1)) &&& c))), some (.int (nI (((5 * i) + 1) % 16)))]) (by decide) rfl ?_
                refine r_iload C dX6_digestBlock_170 rfl ?_
                refine r_iload_n C dX6_digestBlock_172 rfl ?_
                refine r_iadd C dX6_digestBlock_173 ?_
                refine r_aload_n C dX6_digestBlock_174 rfl ?_
                refine r_get C dX6_digestBlock_175 fgRX6_117 (Nat.le_of_ble_eq_true rfl) w_35 rfl ?_
                refine r_iload C dX6_digestBlock_178 rfl ?_
                refine r_ialdN C dX6_digestBlock_180 (Nat.le_of_ble_eq_true rfl) w_47 (j := i) rfl (by omega) (by decide) ?_
                refine r_top (y := tabf sinL i) (hsn i (by omega)) ?_
                refine r_iadd C dX6_digestBlock_181 ?_
                refine r_aload_n C dX6_digestBlock_182 rfl ?_
                refine r_iload_n C dX6_digestBlock_183 rfl ?_
                refine r_iconst C dX6_digestBlock_184 (v := 4) (by decide) ?_
                refine r_iload C dX6_digestBlock_185 rfl ?_
                refine r_imul C dX6_digestBlock_187 ?_
                refine r_top (y := nI (4 * (((5 * i) + 1) % 16))) (pk_mul 4 (((5 * i) + 1) % 16)) ?_
                refine r_iadd C dX6_digestBlock_188 ?_
                refine r_top (y := nI (q + (4 * (((5 * i) + 1) % 16)))) (nI_add q (4 * (((5 * i) + 1) % 16))) ?_
                refine r_callVi C (As := [.int (nI (q + (4 * (((5 * i) + 1) % 16))))]) (rest := [.int ((((d &&& b) ||| ((d ^^^ (-1)) &&& c)) + a) + (tabf sinL i))]) dX6_digestBlock_189 (cX6_word9 w_35 w_44 h_zs hz (q := q + (4 * (((5 * i) + 1) % 16))) (by omega)) okX6_word mlRX6_166 imX6_word seX6_word ⟨by decide, by decide⟩ rfl rfl (Nat.le_of_ble_eq_true rfl) w_35 rfl rfl (Nat.le_of_ble_eq_true rfl) (by decide) (by decide) (fun r_5 w9 h9 => ?_)
                obtain ⟨e9, rfl⟩ := h9
                have e9 := e9.symm
                subst e9
                refine r_iadd C dX6_digestBlock_192 ?_
                obtain ⟨fv, hfv⟩ : ∃ z : Int32, z = ((((d &&& b) ||| ((d ^^^ (-1)) &&& c)) + a) + (tabf sinL i)) + (le4 (fun k => zs.getD k 0) (q + (4 * (((5 * i) + 1) % 16)))) := ⟨_, rfl⟩
                refine r_top hfv.symm ?_
                refine r_istore C dX6_digestBlock_193 (L' := [some (.ref 35), some (.int (nI q)), some (.int a), some (.int b), some (.int c), some (.int d), some (.int (nI i)), some (.int (nI (i / 16))), some (.int fv), some (.int (nI (((5 * i) + 1) % 16)))]) (by decide) rfl ?_
                refine r_iload C dX6_digestBlock_195 rfl ?_
                refine r_istore_n C dX6_digestBlock_197 (L' := [some (.ref 35), some (.int (nI q)), some (.int d), some (.int b), some (.int c), some (.int d), some (.int (nI i)), some (.int (nI (i / 16))), some (.int fv), some (.int (nI (((5 * i) + 1) % 16)))]) (by decide) rfl ?_
                refine r_iload C dX6_digestBlock_198 rfl ?_
                refine r_istore C dX6_digestBlock_200 (L' := [some (.ref 35), some (.int (nI q)), some (.int d), some (.int b), some (.int c), some (.int c), some (.int (nI i)), some (.int (nI (i / 16))), some (.int fv), some (.int (nI (((5 * i) + 1) % 16)))]) (by decide) rfl ?_
                refine r_iload_n C dX6_digestBlock_202 rfl ?_
                refine r_istore C dX6_digestBlock_203 (L' := [some (.ref 35), some (.int (nI q)), some (.int d), some (.int b), some (.int b), some (.int c), some (.int (nI i)), some (.int (nI (i / 16))), some (.int fv), some (.int (nI (((5 * i) + 1) % 16)))]) (by decide) rfl ?_
                refine r_iload_n C dX6_digestBlock_205 rfl ?_
                refine r_iload C dX6_digestBlock_206 rfl ?_
                refine r_aload_n C dX6_digestBlock_208 rfl ?_
                refine r_get C dX6_digestBlock_209 fgRX6_120 (Nat.le_of_ble_eq_true rfl) w_35 rfl ?_
                refine r_iconst C dX6_digestBlock_212 (v := 4) (by decide) ?_
                refine r_iload C dX6_digestBlock_213 rfl ?_
                refine r_imul C dX6_digestBlock_215 ?_
                refine r_top (y := nI (4 * (i / 16))) (pk_mul 4 (i / 16)) ?_
                refine r_iload C dX6_digestBlock_216 rfl ?_
                refine r_iconst C dX6_digestBlock_218 (v := 4) (by decide) ?_
                refine r_irem C dX6_digestBlock_219 (by decide) ?_
                refine r_top (y := nI (i % 4)) (pk_rem (a := i) (d := 4) (by omega) (by omega) (by omega)) ?_
                refine r_iadd C dX6_digestBlock_220 ?_
                refine r_top (y := nI ((4 * (i / 16)) + (i % 4))) (nI_add (4 * (i / 16)) (i % 4)) ?_
                refine r_ialdN C dX6_digestBlock_221 (Nat.le_of_ble_eq_true rfl) w_48 (j := (4 * (i / 16)) + (i % 4)) rfl (by omega) (by decide) ?_
                refine r_top (y := tabf turL ((4 * (i / 16)) + (i % 4))) (htn _ (by omega)) ?_
                have htix : 4 * (i / 16) + i % 4 = i / 16 * 4 + i % 4 := by omega
                refine r_callSi C (As := [.int fv, .int (tabf turL ((4 * (i / 16)) + (i % 4)))]) (rest := [.int b]) dX6_digestBlock_222 (cX6_turned9 (v := fv) (y := tabf turL ((4 * (i / 16)) + (i % 4)))) okX6_turned mlRX6_170 stX6_turned ⟨by decide, by decide⟩ rfl rfl (Nat.le_of_ble_eq_true rfl) (by decide) (by decide) (fun r_6 w9 h9 => ?_)
                obtain ⟨e9, rfl⟩ := h9
                have e9 := e9.symm
                subst e9
                refine r_iadd C dX6_digestBlock_225 ?_
                refine r_istore_n C dX6_digestBlock_226 (L' := [some (.ref 35), some (.int (nI q)), some (.int d), some (.int (b + (rotl fv (tabf turL ((4 * (i / 16)) + (i % 4)))))), some (.int b), some (.int c), some (.int (nI i)), some (.int (nI (i / 16))), some (.int fv), some (.int (nI (((5 * i) + 1) % 16)))]) (by decide) rfl ?_
                refine r_iinc C dX6_digestBlock_227 (v := nI (i + 1)) (L' := [some (.ref 35), some (.int (nI q)), some (.int d), some (.int (b + (rotl fv (tabf turL ((4 * (i / 16)) + (i % 4)))))), some (.int b), some (.int c), some (.int (nI (i + 1))), some (.int (nI (i / 16))), some (.int fv), some (.int (nI (((5 * i) + 1) % 16)))]) rfl (nI_add i 1) (by decide) rfl ?_
                refine r_goto C 33 dX6_digestBlock_230 (by decide) ?_
                refine r_forget [some (.ref 35), some (.int (nI q)), some (.int d), some (.int (b + (rotl fv (tabf turL ((4 * (i / 16)) + (i % 4)))))), some (.int b), some (.int c), some (.int (nI (i + 1))), none, none, none] ⟨Or.inr rfl, Or.inr rfl, Or.inr rfl, Or.inr rfl, Or.inr rfl, Or.inr rfl, Or.inr rfl, Or.inl rfl, Or.inl rfl, Or.inl rfl, trivial⟩ ?_
                exact ih_33 (i + 1) d (b + (rotl fv (tabf turL ((4 * (i / 16)) + (i % 4))))) b c (by omega) (by omega) (by rw [mdR, ← he]; simp only [mdS, mdf, mdF, mdG, mdT, if_neg (show ¬ i < 16 by omega), if_pos (show i < 32 by omega)]; rw [hfv, htix]; simp only [Int32.add_assoc])
            · skip
              have c_116 : (i / 16) = 0 := (nI_eq (a := i / 16) (b := 0) (by omega) (by omega)).mp c_116
              exact (by first | omega | exact absurd c_116 c_49 | exact absurd c_49 c_116)
        · skip
          have c_49 : (i / 16) = 0 := (nI_eq (a := i / 16) (b := 0) (by omega) (by omega)).mp c_49
          refine r_iload_n C dX6_digestBlock_52 rfl ?_
          refine r_iload C dX6_digestBlock_53 rfl ?_
          refine r_iand C dX6_digestBlock_55 ?_
          refine r_iload_n C dX6_digestBlock_56 rfl ?_
          refine r_iconst C dX6_digestBlock_57 (v := (-1)) (by decide) ?_
          refine r_ixor C dX6_digestBlock_58 ?_
          refine r_iload C dX6_digestBlock_59 rfl ?_
          refine r_iand C dX6_digestBlock_61 ?_
          refine r_ior C dX6_digestBlock_62 ?_
          refine r_goto C 112 dX6_digestBlock_63 (by decide) ?_
          refine r_istore C dX6_digestBlock_112 (L' := [some (.ref 35), some (.int (nI q)), some (.int a), some (.int b), some (.int c), some (.int d), some (.int (nI i)), some (.int (nI (i / 16))), some (.int ((b &&& c) ||| ((b ^^^ (-1)) &&& d))), none]) (by decide) rfl ?_
          refine r_iload C dX6_digestBlock_114 rfl ?_
          refine r_if_ne C 124 dX6_digestBlock_116 (by decide) (fun c_116 => ?_) (fun c_116 => ?_)
          · skip
            have c_116 : ¬ ((i / 16) = 0) := fun h9 => c_116 ((nI_eq (a := i / 16) (b := 0) (by omega) (by omega)).mpr h9)
            exact (by first | omega | exact absurd c_116 c_49 | exact absurd c_49 c_116)
          · skip
            have c_116 : (i / 16) = 0 := (nI_eq (a := i / 16) (b := 0) (by omega) (by omega)).mp c_116
            refine r_iload C dX6_digestBlock_119 rfl ?_
            refine r_goto C 168 dX6_digestBlock_121 (by decide) ?_
            refine r_istore C dX6_digestBlock_168 (L' := [some (.ref 35), some (.int (nI q)), some (.int a), some (.int b), some (.int c), some (.int d), some (.int (nI i)), some (.int (nI (i / 16))), some (.int ((b &&& c) ||| ((b ^^^ (-1)) &&& d))), some (.int (nI i))]) (by decide) rfl ?_
            refine r_iload C dX6_digestBlock_170 rfl ?_
            refine r_iload_n C dX6_digestBlock_172 rfl ?_
            refine r_iadd C dX6_digestBlock_173 ?_
            refine r_aload_n C dX6_digestBlock_174 rfl ?_
            refine r_get C dX6_digestBlock_175 fgRX6_117 (Nat.le_of_ble_eq_true rfl) w_35 rfl ?_
            refine r_iload C dX6_digestBlock_178 rfl ?_
            refine r_ialdN C dX6_digestBlock_180 (Nat.le_of_ble_eq_true rfl) w_47 (j := i) rfl (by omega) (by decide) ?_
            refine r_top (y := tabf sinL i) (hsn i (by omega)) ?_
            refine r_iadd C dX6_digestBlock_181 ?_
            refine r_aload_n C dX6_digestBlock_182 rfl ?_
            refine r_iload_n C dX6_digestBlock_183 rfl ?_
            refine r_iconst C dX6_digestBlock_184 (v := 4) (by decide) ?_
            refine r_iload C dX6_digestBlock_185 rfl ?_
            refine r_imul C dX6_digestBlock_187 ?_
            refine r_top (y := nI (4 * i)) (pk_mul 4 i) ?_
            refine r_iadd C dX6_digestBlock_188 ?_
            refine r_top (y := nI (q + (4 * i))) (nI_add q (4 * i)) ?_
            refine r_callVi C (As := [.int (nI (q + (4 * i)))]) (rest := [.int ((((b &&& c) ||| ((b ^^^ (-1)) &&& d)) + a) + (tabf sinL i))]) dX6_digestBlock_189 (cX6_word9 w_35 w_44 h_zs hz (q := q + (4 * i)) (by omega)) okX6_word mlRX6_166 imX6_word seX6_word ⟨by decide, by decide⟩ rfl rfl (Nat.le_of_ble_eq_true rfl) w_35 rfl rfl (Nat.le_of_ble_eq_true rfl) (by decide) (by decide) (fun r_7 w9 h9 => ?_)
            obtain ⟨e9, rfl⟩ := h9
            have e9 := e9.symm
            subst e9
            refine r_iadd C dX6_digestBlock_192 ?_
            obtain ⟨fv, hfv⟩ : ∃ z : Int32, z = ((((b &&& c) ||| ((b ^^^ (-1)) &&& d)) + a) + (tabf sinL i)) + (le4 (fun k => zs.getD k 0) (q + (4 * i))) := ⟨_, rfl⟩
            refine r_top hfv.symm ?_
            refine r_istore C dX6_digestBlock_193 (L' := [some (.ref 35), some (.int (nI q)), some (.int a), some (.int b), some (.int c), some (.int d), some (.int (nI i)), some (.int (nI (i / 16))), some (.int fv), some (.int (nI i))]) (by decide) rfl ?_
            refine r_iload C dX6_digestBlock_195 rfl ?_
            refine r_istore_n C dX6_digestBlock_197 (L' := [some (.ref 35), some (.int (nI q)), some (.int d), some (.int b), some (.int c), some (.int d), some (.int (nI i)), some (.int (nI (i / 16))), some (.int fv), some (.int (nI i))]) (by decide) rfl ?_
            refine r_iload C dX6_digestBlock_198 rfl ?_
            refine r_istore C dX6_digestBlock_200 (L' := [some (.ref 35), some (.int (nI q)), some (.int d), some (.int b), some (.int c), some (.int c), some (.int (nI i)), some (.int (nI (i / 16))), some (.int fv), some (.int (nI i))]) (by decide) rfl ?_
            refine r_iload_n C dX6_digestBlock_202 rfl ?_
            refine r_istore C dX6_digestBlock_203 (L' := [some (.ref 35), some (.int (nI q)), some (.int d), some (.int b), some (.int b), some (.int c), some (.int (nI i)), some (.int (nI (i / 16))), some (.int fv), some (.int (nI i))]) (by decide) rfl ?_
            refine r_iload_n C dX6_digestBlock_205 rfl ?_
            refine r_iload C dX6_digestBlock_206 rfl ?_
            refine r_aload_n C dX6_digestBlock_208 rfl ?_
            refine r_get C dX6_digestBlock_209 fgRX6_120 (Nat.le_of_ble_eq_true rfl) w_35 rfl ?_
            refine r_iconst C dX6_digestBlock_212 (v := 4) (by decide) ?_
            refine r_iload C dX6_digestBlock_213 rfl ?_
            refine r_imul C dX6_digestBlock_215 ?_
            refine r_top (y := nI (4 * (i / 16))) (pk_mul 4 (i / 16)) ?_
            refine r_iload C dX6_digestBlock_216 rfl ?_
            refine r_iconst C dX6_digestBlock_218 (v := 4) (by decide) ?_
            refine r_irem C dX6_digestBlock_219 (by decide) ?_
            refine r_top (y := nI (i % 4)) (pk_rem (a := i) (d := 4) (by omega) (by omega) (by omega)) ?_
            refine r_iadd C dX6_digestBlock_220 ?_
            refine r_top (y := nI ((4 * (i / 16)) + (i % 4))) (nI_add (4 * (i / 16)) (i % 4)) ?_
            refine r_ialdN C dX6_digestBlock_221 (Nat.le_of_ble_eq_true rfl) w_48 (j := (4 * (i / 16)) + (i % 4)) rfl (by omega) (by decide) ?_
            refine r_top (y := tabf turL ((4 * (i / 16)) + (i % 4))) (htn _ (by omega)) ?_
            have htix : 4 * (i / 16) + i % 4 = i / 16 * 4 + i % 4 := by omega
            refine r_callSi C (As := [.int fv, .int (tabf turL ((4 * (i / 16)) + (i % 4)))]) (rest := [.int b]) dX6_digestBlock_222 (cX6_turned9 (v := fv) (y := tabf turL ((4 * (i / 16)) + (i % 4)))) okX6_turned mlRX6_170 stX6_turned ⟨by decide, by decide⟩ rfl rfl (Nat.le_of_ble_eq_true rfl) (by decide) (by decide) (fun r_8 w9 h9 => ?_)
            obtain ⟨e9, rfl⟩ := h9
            have e9 := e9.symm
            subst e9
            refine r_iadd C dX6_digestBlock_225 ?_
            refine r_istore_n C dX6_digestBlock_226 (L' := [some (.ref 35), some (.int (nI q)), some (.int d), some (.int (b + (rotl fv (tabf turL ((4 * (i / 16)) + (i % 4)))))), some (.int b), some (.int c), some (.int (nI i)), some (.int (nI (i / 16))), some (.int fv), some (.int (nI i))]) (by decide) rfl ?_
            refine r_iinc C dX6_digestBlock_227 (v := nI (i + 1)) (L' := [some (.ref 35), some (.int (nI q)), some (.int d), some (.int (b + (rotl fv (tabf turL ((4 * (i / 16)) + (i % 4)))))), some (.int b), some (.int c), some (.int (nI (i + 1))), some (.int (nI (i / 16))), some (.int fv), some (.int (nI i))]) rfl (nI_add i 1) (by decide) rfl ?_
            refine r_goto C 33 dX6_digestBlock_230 (by decide) ?_
            refine r_forget [some (.ref 35), some (.int (nI q)), some (.int d), some (.int (b + (rotl fv (tabf turL ((4 * (i / 16)) + (i % 4)))))), some (.int b), some (.int c), some (.int (nI (i + 1))), none, none, none] ⟨Or.inr rfl, Or.inr rfl, Or.inr rfl, Or.inr rfl, Or.inr rfl, Or.inr rfl, Or.inr rfl, Or.inl rfl, Or.inl rfl, Or.inl rfl, trivial⟩ ?_
            exact ih_33 (i + 1) d (b + (rotl fv (tabf turL ((4 * (i / 16)) + (i % 4))))) b c (by omega) (by omega) (by rw [mdR, ← he]; simp only [mdS, mdf, mdF, mdG, mdT, if_pos (show i < 16 by omega)]; rw [hfv, Nat.mod_eq_of_lt (show i < 16 by omega), htix]; simp only [Int32.add_assoc])
  exact loop_33 _ 0 vA vB vC vD (Nat.lt_succ_self _) (by omega) rfl
