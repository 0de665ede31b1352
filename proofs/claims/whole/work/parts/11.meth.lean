theorem mem_tb {w : Cond} (i : Nat) (h : lw_tbl[i]? = some w) (hg : goodWord w = true) : w ∈ tb_ := List.mem_filter.mpr ⟨List.mem_of_getElem? h, hg⟩
theorem tbX0 : ∀ w ∈ u_ws RX0 TX0 4, w ∈ tb_ := by
  intro w hw
  have h1 : (u_ws RX0 TX0 4).all (fun w => decide (w ∈ lw_tbl) && goodWord w) = true := by decide +kernel
  have h2 := List.all_eq_true.mp h1 w hw
  simp only [Bool.and_eq_true, decide_eq_true_eq] at h2
  exact List.mem_filter.mpr h2
theorem tbX1 : ∀ w ∈ u_ws RX1 TX1 17, w ∈ tb_ := by
  intro w hw
  have h1 : (u_ws RX1 TX1 17).all (fun w => decide (w ∈ lw_tbl) && goodWord w) = true := by decide +kernel
  have h2 := List.all_eq_true.mp h1 w hw
  simp only [Bool.and_eq_true, decide_eq_true_eq] at h2
  exact List.mem_filter.mpr h2
theorem tbX2 : ∀ w ∈ u_ws RX2 TX2 5, w ∈ tb_ := by
  intro w hw
  have h1 : (u_ws RX2 TX2 5).all (fun w => decide (w ∈ lw_tbl) && goodWord w) = true := by decide +kernel
  have h2 := List.all_eq_true.mp h1 w hw
  simp only [Bool.and_eq_true, decide_eq_true_eq] at h2
  exact List.mem_filter.mpr h2
theorem tbX3 : ∀ w ∈ u_ws RX3 TX3 2, w ∈ tb_ := by
  intro w hw
  have h1 : (u_ws RX3 TX3 2).all (fun w => decide (w ∈ lw_tbl) && goodWord w) = true := by decide +kernel
  have h2 := List.all_eq_true.mp h1 w hw
  simp only [Bool.and_eq_true, decide_eq_true_eq] at h2
  exact List.mem_filter.mpr h2
theorem tbX4 : ∀ w ∈ u_ws RX4 TX4 1, w ∈ tb_ := by
  intro w hw
  have h1 : (u_ws RX4 TX4 1).all (fun w => decide (w ∈ lw_tbl) && goodWord w) = true := by decide +kernel
  have h2 := List.all_eq_true.mp h1 w hw
  simp only [Bool.and_eq_true, decide_eq_true_eq] at h2
  exact List.mem_filter.mpr h2
theorem tbX5 : ∀ w ∈ u_ws RX5 TX5 3, w ∈ tb_ := by
  intro w hw
  have h1 : (u_ws RX5 TX5 3).all (fun w => decide (w ∈ lw_tbl) && goodWord w) = true := by decide +kernel
  have h2 := List.all_eq_true.mp h1 w hw
  simp only [Bool.and_eq_true, decide_eq_true_eq] at h2
  exact List.mem_filter.mpr h2
theorem tbX6 : ∀ w ∈ u_ws RX6 TX6 36, w ∈ tb_ := by
  intro w hw
  have h1 : (u_ws RX6 TX6 36).all (fun w => decide (w ∈ lw_tbl) && goodWord w) = true := by decide +kernel
  have h2 := List.all_eq_true.mp h1 w hw
  simp only [Bool.and_eq_true, decide_eq_true_eq] at h2
  exact List.mem_filter.mpr h2
abbrev mX0_expand : Mi := (yX0_expand, cX0_expand, 5, none, 1, { frames := 1, cells := 0, slots := 0, locals := 20 })
theorem okX0_expand : MiOk mX0_expand := ⟨by decide +kernel, mem_tb 564 (by decide +kernel) rfl, mem_tb 57 (by decide +kernel) rfl, by decide +kernel, rfl, rfl⟩
theorem imX0_expand : Cond.instanceMethod yX0_expand ∈ tb_ := mem_tb 562 (by decide +kernel) rfl
theorem seX0_expand : Cond.selects RX0 yX0_expand yX0_expand ∈ tb_ := mem_tb 563 (by decide +kernel) rfl
abbrev mX0_loadFrom : Mi := (yX0_loadFrom, cX0_loadFrom, 3, none, 2, { frames := 1, cells := 0, slots := 0, locals := 40 })
theorem okX0_loadFrom : MiOk mX0_loadFrom := ⟨by decide +kernel, mem_tb 575 (by decide +kernel) rfl, mem_tb 57 (by decide +kernel) rfl, by decide +kernel, rfl, rfl⟩
theorem imX0_loadFrom : Cond.instanceMethod yX0_loadFrom ∈ tb_ := mem_tb 573 (by decide +kernel) rfl
theorem seX0_loadFrom : Cond.selects RX0 yX0_loadFrom yX0_loadFrom ∈ tb_ := mem_tb 574 (by decide +kernel) rfl
abbrev mX0_addFrom : Mi := (yX0_addFrom, cX0_addFrom, 4, none, 2, { frames := 1, cells := 0, slots := 0, locals := 21 })
theorem okX0_addFrom : MiOk mX0_addFrom := ⟨by decide +kernel, mem_tb 603 (by decide +kernel) rfl, mem_tb 57 (by decide +kernel) rfl, by decide +kernel, rfl, rfl⟩
theorem imX0_addFrom : Cond.instanceMethod yX0_addFrom ∈ tb_ := mem_tb 601 (by decide +kernel) rfl
theorem seX0_addFrom : Cond.selects RX0 yX0_addFrom yX0_addFrom ∈ tb_ := mem_tb 602 (by decide +kernel) rfl
abbrev mX0_storeTo : Mi := (yX0_storeTo, cX0_storeTo, 3, none, 2, { frames := 1, cells := 0, slots := 0, locals := 40 })
theorem okX0_storeTo : MiOk mX0_storeTo := ⟨by decide +kernel, mem_tb 611 (by decide +kernel) rfl, mem_tb 57 (by decide +kernel) rfl, by decide +kernel, rfl, rfl⟩
theorem imX0_storeTo : Cond.instanceMethod yX0_storeTo ∈ tb_ := mem_tb 609 (by decide +kernel) rfl
theorem seX0_storeTo : Cond.selects RX0 yX0_storeTo yX0_storeTo ∈ tb_ := mem_tb 610 (by decide +kernel) rfl
abbrev mX0_fits : Mi := (yX0_fits, cX0_fits, 2, (some .boolean), 2, { frames := 0, cells := 0, slots := 0, locals := 0 })
theorem okX0_fits : MiOk mX0_fits := ⟨by decide +kernel, mem_tb 578 (by decide +kernel) rfl, mem_tb 57 (by decide +kernel) rfl, by decide +kernel, rfl, rfl⟩
theorem stX0_fits : Cond.static yX0_fits ∈ tb_ := mem_tb 577 (by decide +kernel) rfl
abbrev mX0_filling : Mi := (yX0_filling, cX0_filling, 3, (some .int), 0, { frames := 0, cells := 0, slots := 0, locals := 0 })
theorem okX0_filling : MiOk mX0_filling := ⟨by decide +kernel, mem_tb 607 (by decide +kernel) rfl, mem_tb 57 (by decide +kernel) rfl, by decide +kernel, rfl, rfl⟩
theorem imX0_filling : Cond.instanceMethod yX0_filling ∈ tb_ := mem_tb 605 (by decide +kernel) rfl
theorem seX0_filling : Cond.selects RX0 yX0_filling yX0_filling ∈ tb_ := mem_tb 606 (by decide +kernel) rfl
abbrev mX0_makeBlock : Mi := (yX0_makeBlock, cX0_makeBlock, 2, none, 0, { frames := 2, cells := 0, slots := 0, locals := 61 })
theorem okX0_makeBlock : MiOk mX0_makeBlock := ⟨by decide +kernel, mem_tb 638 (by decide +kernel) rfl, mem_tb 57 (by decide +kernel) rfl, by decide +kernel, rfl, rfl⟩
theorem imX0_makeBlock : Cond.instanceMethod yX0_makeBlock ∈ tb_ := mem_tb 636 (by decide +kernel) rfl
theorem seX0_makeBlock : Cond.selects RX0 yX0_makeBlock yX0_makeBlock ∈ tb_ := mem_tb 637 (by decide +kernel) rfl
abbrev mX0_unmakeBlock : Mi := (yX0_unmakeBlock, cX0_unmakeBlock, 2, none, 0, { frames := 3, cells := 0, slots := 0, locals := 69 })
theorem okX0_unmakeBlock : MiOk mX0_unmakeBlock := ⟨by decide +kernel, mem_tb 583 (by decide +kernel) rfl, mem_tb 57 (by decide +kernel) rfl, by decide +kernel, rfl, rfl⟩
theorem imX0_unmakeBlock : Cond.instanceMethod yX0_unmakeBlock ∈ tb_ := mem_tb 581 (by decide +kernel) rfl
theorem seX0_unmakeBlock : Cond.selects RX0 yX0_unmakeBlock yX0_unmakeBlock ∈ tb_ := mem_tb 582 (by decide +kernel) rfl
abbrev mX0_addColumns : Mi := (yX0_addColumns, cX0_addColumns, 4, none, 1, { frames := 0, cells := 0, slots := 0, locals := 0 })
theorem okX0_addColumns : MiOk mX0_addColumns := ⟨by decide +kernel, mem_tb 587 (by decide +kernel) rfl, mem_tb 57 (by decide +kernel) rfl, by decide +kernel, rfl, rfl⟩
theorem imX0_addColumns : Cond.instanceMethod yX0_addColumns ∈ tb_ := mem_tb 586 (by decide +kernel) rfl
theorem seX0_addColumns : Cond.selects RX0 yX0_addColumns yX0_addColumns ∈ tb_ := mem_tb 11 (by decide +kernel) rfl
abbrev mX0_swapAndTurn : Mi := (yX0_swapAndTurn, cX0_swapAndTurn, 2, none, 0, { frames := 1, cells := 0, slots := 0, locals := 40 })
theorem okX0_swapAndTurn : MiOk mX0_swapAndTurn := ⟨by decide +kernel, mem_tb 642 (by decide +kernel) rfl, mem_tb 57 (by decide +kernel) rfl, by decide +kernel, rfl, rfl⟩
theorem imX0_swapAndTurn : Cond.instanceMethod yX0_swapAndTurn ∈ tb_ := mem_tb 641 (by decide +kernel) rfl
theorem seX0_swapAndTurn : Cond.selects RX0 yX0_swapAndTurn yX0_swapAndTurn ∈ tb_ := mem_tb 18 (by decide +kernel) rfl
abbrev mX0_swapAndTurnBack : Mi := (yX0_swapAndTurnBack, cX0_swapAndTurnBack, 2, none, 0, { frames := 1, cells := 0, slots := 0, locals := 40 })
theorem okX0_swapAndTurnBack : MiOk mX0_swapAndTurnBack := ⟨by decide +kernel, mem_tb 599 (by decide +kernel) rfl, mem_tb 57 (by decide +kernel) rfl, by decide +kernel, rfl, rfl⟩
theorem imX0_swapAndTurnBack : Cond.instanceMethod yX0_swapAndTurnBack ∈ tb_ := mem_tb 598 (by decide +kernel) rfl
theorem seX0_swapAndTurnBack : Cond.selects RX0 yX0_swapAndTurnBack yX0_swapAndTurnBack ∈ tb_ := mem_tb 14 (by decide +kernel) rfl
abbrev mX0_mixColumns : Mi := (yX0_mixColumns, cX0_mixColumns, 7, none, 0, { frames := 1, cells := 0, slots := 0, locals := 20 })
theorem okX0_mixColumns : MiOk mX0_mixColumns := ⟨by decide +kernel, mem_tb 595 (by decide +kernel) rfl, mem_tb 57 (by decide +kernel) rfl, by decide +kernel, rfl, rfl⟩
theorem imX0_mixColumns : Cond.instanceMethod yX0_mixColumns ∈ tb_ := mem_tb 594 (by decide +kernel) rfl
theorem seX0_mixColumns : Cond.selects RX0 yX0_mixColumns yX0_mixColumns ∈ tb_ := mem_tb 13 (by decide +kernel) rfl
abbrev mX0_unmixColumns : Mi := (yX0_unmixColumns, cX0_unmixColumns, 4, none, 0, { frames := 2, cells := 0, slots := 0, locals := 46 })
theorem okX0_unmixColumns : MiOk mX0_unmixColumns := ⟨by decide +kernel, mem_tb 591 (by decide +kernel) rfl, mem_tb 57 (by decide +kernel) rfl, by decide +kernel, rfl, rfl⟩
theorem imX0_unmixColumns : Cond.instanceMethod yX0_unmixColumns ∈ tb_ := mem_tb 590 (by decide +kernel) rfl
theorem seX0_unmixColumns : Cond.selects RX0 yX0_unmixColumns yX0_unmixColumns ∈ tb_ := mem_tb 12 (by decide +kernel) rfl
abbrev mX0_twice : Mi := (yX0_twice, cX0_twice, 1, (some .int), 1, { frames := 0, cells := 0, slots := 0, locals := 0 })
theorem okX0_twice : MiOk mX0_twice := ⟨by decide +kernel, mem_tb 567 (by decide +kernel) rfl, mem_tb 57 (by decide +kernel) rfl, by decide +kernel, rfl, rfl⟩
theorem stX0_twice : Cond.static yX0_twice ∈ tb_ := mem_tb 566 (by decide +kernel) rfl
abbrev mX1_toldRow : Mi := (yX1_toldRow, cX1_toldRow, 2, (some (.object "SheetKeys$Row")), 1, { frames := 0, cells := 0, slots := 0, locals := 0 })
theorem okX1_toldRow : MiOk mX1_toldRow := ⟨by decide +kernel, mem_tb 503 (by decide +kernel) rfl, mem_tb 54 (by decide +kernel) rfl, by decide +kernel, rfl, rfl⟩
theorem imX1_toldRow : Cond.instanceMethod yX1_toldRow ∈ tb_ := mem_tb 501 (by decide +kernel) rfl
theorem seX1_toldRow : Cond.selects RX1 yX1_toldRow yX1_toldRow ∈ tb_ := mem_tb 502 (by decide +kernel) rfl
abbrev mX1_makeOwnerEntry : Mi := (yX1_makeOwnerEntry, cX1_makeOwnerEntry, 1, none, 0, { frames := 4, cells := 0, slots := 0, locals := 91 })
theorem okX1_makeOwnerEntry : MiOk mX1_makeOwnerEntry := ⟨by decide +kernel, mem_tb 532 (by decide +kernel) rfl, mem_tb 54 (by decide +kernel) rfl, by decide +kernel, rfl, rfl⟩
theorem imX1_makeOwnerEntry : Cond.instanceMethod yX1_makeOwnerEntry ∈ tb_ := mem_tb 530 (by decide +kernel) rfl
theorem seX1_makeOwnerEntry : Cond.selects RX1 yX1_makeOwnerEntry yX1_makeOwnerEntry ∈ tb_ := mem_tb 531 (by decide +kernel) rfl
abbrev mX1_makeUserEntry : Mi := (yX1_makeUserEntry, cX1_makeUserEntry, 1, none, 0, { frames := 4, cells := 0, slots := 0, locals := 97 })
theorem okX1_makeUserEntry : MiOk mX1_makeUserEntry := ⟨by decide +kernel, mem_tb 536 (by decide +kernel) rfl, mem_tb 54 (by decide +kernel) rfl, by decide +kernel, rfl, rfl⟩
theorem imX1_makeUserEntry : Cond.instanceMethod yX1_makeUserEntry ∈ tb_ := mem_tb 534 (by decide +kernel) rfl
theorem seX1_makeUserEntry : Cond.selects RX1 yX1_makeUserEntry yX1_makeUserEntry ∈ tb_ := mem_tb 535 (by decide +kernel) rfl
abbrev mX1_tryPassword : Mi := (yX1_tryPassword, cX1_tryPassword, 2, (some .int), 1, { frames := 5, cells := 0, slots := 0, locals := 117 })
theorem okX1_tryPassword : MiOk mX1_tryPassword := ⟨by decide +kernel, mem_tb 251 (by decide +kernel) rfl, mem_tb 54 (by decide +kernel) rfl, by decide +kernel, rfl, rfl⟩
theorem imX1_tryPassword : Cond.instanceMethod yX1_tryPassword ∈ tb_ := mem_tb 249 (by decide +kernel) rfl
theorem seX1_tryPassword : Cond.selects RX1 yX1_tryPassword yX1_tryPassword ∈ tb_ := mem_tb 250 (by decide +kernel) rfl
abbrev mX1_objectKey : Mi := (yX1_objectKey, cX1_objectKey, 4, (some (.object "SheetKeys$Row")), 3, { frames := 3, cells := 0, slots := 0, locals := 83 })
theorem okX1_objectKey : MiOk mX1_objectKey := ⟨by decide +kernel, mem_tb 558 (by decide +kernel) rfl, mem_tb 54 (by decide +kernel) rfl, by decide +kernel, rfl, rfl⟩
theorem imX1_objectKey : Cond.instanceMethod yX1_objectKey ∈ tb_ := mem_tb 556 (by decide +kernel) rfl
theorem seX1_objectKey : Cond.selects RX1 yX1_objectKey yX1_objectKey ∈ tb_ := mem_tb 557 (by decide +kernel) rfl
abbrev mX1_addPadded : Mi := (yX1_addPadded, cX1_addPadded, 4, none, 2, { frames := 1, cells := 0, slots := 0, locals := 24 })
theorem okX1_addPadded : MiOk mX1_addPadded := ⟨by decide +kernel, mem_tb 262 (by decide +kernel) rfl, mem_tb 54 (by decide +kernel) rfl, by decide +kernel, rfl, rfl⟩
theorem stX1_addPadded : Cond.static yX1_addPadded ∈ tb_ := mem_tb 261 (by decide +kernel) rfl
abbrev mX1_addPad : Mi := (yX1_addPad, cX1_addPad, 2, none, 1, { frames := 1, cells := 0, slots := 0, locals := 21 })
theorem okX1_addPad : MiOk mX1_addPad := ⟨by decide +kernel, mem_tb 324 (by decide +kernel) rfl, mem_tb 54 (by decide +kernel) rfl, by decide +kernel, rfl, rfl⟩
theorem stX1_addPad : Cond.static yX1_addPad ∈ tb_ := mem_tb 323 (by decide +kernel) rfl
abbrev mX1_deriveKey : Mi := (yX1_deriveKey, cX1_deriveKey, 3, none, 1, { frames := 3, cells := 0, slots := 0, locals := 69 })
theorem okX1_deriveKey : MiOk mX1_deriveKey := ⟨by decide +kernel, mem_tb 255 (by decide +kernel) rfl, mem_tb 54 (by decide +kernel) rfl, by decide +kernel, rfl, rfl⟩
theorem imX1_deriveKey : Cond.instanceMethod yX1_deriveKey ∈ tb_ := mem_tb 254 (by decide +kernel) rfl
theorem seX1_deriveKey : Cond.selects RX1 yX1_deriveKey yX1_deriveKey ∈ tb_ := mem_tb 0 (by decide +kernel) rfl
abbrev mX1_deriveOwnerKey : Mi := (yX1_deriveOwnerKey, cX1_deriveOwnerKey, 3, none, 1, { frames := 3, cells := 0, slots := 0, locals := 69 })
theorem okX1_deriveOwnerKey : MiOk mX1_deriveOwnerKey := ⟨by decide +kernel, mem_tb 349 (by decide +kernel) rfl, mem_tb 54 (by decide +kernel) rfl, by decide +kernel, rfl, rfl⟩
theorem imX1_deriveOwnerKey : Cond.instanceMethod yX1_deriveOwnerKey ∈ tb_ := mem_tb 348 (by decide +kernel) rfl
theorem seX1_deriveOwnerKey : Cond.selects RX1 yX1_deriveOwnerKey yX1_deriveOwnerKey ∈ tb_ := mem_tb 7 (by decide +kernel) rfl
abbrev mX1_streamEntry : Mi := (yX1_streamEntry, cX1_streamEntry, 4, none, 1, { frames := 2, cells := 0, slots := 0, locals := 54 })
theorem okX1_streamEntry : MiOk mX1_streamEntry := ⟨by decide +kernel, mem_tb 328 (by decide +kernel) rfl, mem_tb 54 (by decide +kernel) rfl, by decide +kernel, rfl, rfl⟩
theorem imX1_streamEntry : Cond.instanceMethod yX1_streamEntry ∈ tb_ := mem_tb 327 (by decide +kernel) rfl
theorem seX1_streamEntry : Cond.selects RX1 yX1_streamEntry yX1_streamEntry ∈ tb_ := mem_tb 5 (by decide +kernel) rfl
abbrev mX1_makeEntryByTried : Mi := (yX1_makeEntryByTried, cX1_makeEntryByTried, 1, none, 0, { frames := 3, cells := 0, slots := 0, locals := 77 })
theorem okX1_makeEntryByTried : MiOk mX1_makeEntryByTried := ⟨by decide +kernel, mem_tb 321 (by decide +kernel) rfl, mem_tb 54 (by decide +kernel) rfl, by decide +kernel, rfl, rfl⟩
theorem imX1_makeEntryByTried : Cond.instanceMethod yX1_makeEntryByTried ∈ tb_ := mem_tb 320 (by decide +kernel) rfl
theorem seX1_makeEntryByTried : Cond.selects RX1 yX1_makeEntryByTried yX1_makeEntryByTried ∈ tb_ := mem_tb 4 (by decide +kernel) rfl
abbrev mX1_isTriedTheUsers : Mi := (yX1_isTriedTheUsers, cX1_isTriedTheUsers, 1, (some .boolean), 0, { frames := 4, cells := 0, slots := 0, locals := 97 })
theorem okX1_isTriedTheUsers : MiOk mX1_isTriedTheUsers := ⟨by decide +kernel, mem_tb 317 (by decide +kernel) rfl, mem_tb 54 (by decide +kernel) rfl, by decide +kernel, rfl, rfl⟩
theorem imX1_isTriedTheUsers : Cond.instanceMethod yX1_isTriedTheUsers ∈ tb_ := mem_tb 316 (by decide +kernel) rfl
theorem seX1_isTriedTheUsers : Cond.selects RX1 yX1_isTriedTheUsers yX1_isTriedTheUsers ∈ tb_ := mem_tb 3 (by decide +kernel) rfl
abbrev mX2_hash : Mi := (yX2_hash, cX2_hash, 5, none, 2, { frames := 2, cells := 0, slots := 0, locals := 45 })
theorem okX2_hash : MiOk mX2_hash := ⟨by decide +kernel, mem_tb 288 (by decide +kernel) rfl, mem_tb 55 (by decide +kernel) rfl, by decide +kernel, rfl, rfl⟩
theorem imX2_hash : Cond.instanceMethod yX2_hash ∈ tb_ := mem_tb 286 (by decide +kernel) rfl
theorem seX2_hash : Cond.selects RX2 yX2_hash yX2_hash ∈ tb_ := mem_tb 287 (by decide +kernel) rfl
abbrev mX2_loadWords : Mi := (yX2_loadWords, cX2_loadWords, 5, none, 2, { frames := 1, cells := 0, slots := 0, locals := 21 })
theorem okX2_loadWords : MiOk mX2_loadWords := ⟨by decide +kernel, mem_tb 296 (by decide +kernel) rfl, mem_tb 55 (by decide +kernel) rfl, by decide +kernel, rfl, rfl⟩
theorem imX2_loadWords : Cond.instanceMethod yX2_loadWords ∈ tb_ := mem_tb 295 (by decide +kernel) rfl
theorem seX2_loadWords : Cond.selects RX2 yX2_loadWords yX2_loadWords ∈ tb_ := mem_tb 1 (by decide +kernel) rfl
abbrev mX2_endedByte : Mi := (yX2_endedByte, cX2_endedByte, 2, (some .int), 2, { frames := 0, cells := 0, slots := 0, locals := 0 })
theorem okX2_endedByte : MiOk mX2_endedByte := ⟨by decide +kernel, mem_tb 299 (by decide +kernel) rfl, mem_tb 55 (by decide +kernel) rfl, by decide +kernel, rfl, rfl⟩
theorem stX2_endedByte : Cond.static yX2_endedByte ∈ tb_ := mem_tb 298 (by decide +kernel) rfl
abbrev mX2_mixWords : Mi := (yX2_mixWords, cX2_mixWords, 9, none, 0, { frames := 0, cells := 0, slots := 0, locals := 0 })
theorem okX2_mixWords : MiOk mX2_mixWords := ⟨by decide +kernel, mem_tb 303 (by decide +kernel) rfl, mem_tb 55 (by decide +kernel) rfl, by decide +kernel, rfl, rfl⟩
theorem imX2_mixWords : Cond.instanceMethod yX2_mixWords ∈ tb_ := mem_tb 302 (by decide +kernel) rfl
theorem seX2_mixWords : Cond.selects RX2 yX2_mixWords yX2_mixWords ∈ tb_ := mem_tb 2 (by decide +kernel) rfl
abbrev mX3_byteAt : Mi := (yX3_byteAt, cX3_byteAt, 2, (some .int), 1, { frames := 0, cells := 0, slots := 0, locals := 0 })
theorem okX3_byteAt : MiOk mX3_byteAt := ⟨by decide +kernel, mem_tb 357 (by decide +kernel) rfl, mem_tb 53 (by decide +kernel) rfl, by decide +kernel, rfl, rfl⟩
theorem imX3_byteAt : Cond.instanceMethod yX3_byteAt ∈ tb_ := mem_tb 355 (by decide +kernel) rfl
theorem seX3_byteAt : Cond.selects RX3 yX3_byteAt yX3_byteAt ∈ tb_ := mem_tb 356 (by decide +kernel) rfl
abbrev mX3_clear : Mi := (yX3_clear, cX3_clear, 1, none, 0, { frames := 0, cells := 0, slots := 0, locals := 0 })
theorem okX3_clear : MiOk mX3_clear := ⟨by decide +kernel, mem_tb 259 (by decide +kernel) rfl, mem_tb 53 (by decide +kernel) rfl, by decide +kernel, rfl, rfl⟩
theorem imX3_clear : Cond.instanceMethod yX3_clear ∈ tb_ := mem_tb 257 (by decide +kernel) rfl
theorem seX3_clear : Cond.selects RX3 yX3_clear yX3_clear ∈ tb_ := mem_tb 258 (by decide +kernel) rfl
abbrev mX3_shorten : Mi := (yX3_shorten, cX3_shorten, 2, none, 1, { frames := 0, cells := 0, slots := 0, locals := 0 })
theorem okX3_shorten : MiOk mX3_shorten := ⟨by decide +kernel, mem_tb 313 (by decide +kernel) rfl, mem_tb 53 (by decide +kernel) rfl, by decide +kernel, rfl, rfl⟩
theorem imX3_shorten : Cond.instanceMethod yX3_shorten ∈ tb_ := mem_tb 311 (by decide +kernel) rfl
theorem seX3_shorten : Cond.selects RX3 yX3_shorten yX3_shorten ∈ tb_ := mem_tb 312 (by decide +kernel) rfl
abbrev mX3_add : Mi := (yX3_add, cX3_add, 2, none, 1, { frames := 0, cells := 0, slots := 0, locals := 0 })
theorem okX3_add : MiOk mX3_add := ⟨by decide +kernel, mem_tb 243 (by decide +kernel) rfl, mem_tb 53 (by decide +kernel) rfl, by decide +kernel, rfl, rfl⟩
theorem imX3_add : Cond.instanceMethod yX3_add ∈ tb_ := mem_tb 241 (by decide +kernel) rfl
theorem seX3_add : Cond.selects RX3 yX3_add yX3_add ∈ tb_ := mem_tb 242 (by decide +kernel) rfl
abbrev mX3_addTimes : Mi := (yX3_addTimes, cX3_addTimes, 4, none, 2, { frames := 1, cells := 0, slots := 0, locals := 21 })
theorem okX3_addTimes : MiOk mX3_addTimes := ⟨by decide +kernel, mem_tb 284 (by decide +kernel) rfl, mem_tb 53 (by decide +kernel) rfl, by decide +kernel, rfl, rfl⟩
theorem imX3_addTimes : Cond.instanceMethod yX3_addTimes ∈ tb_ := mem_tb 282 (by decide +kernel) rfl
theorem seX3_addTimes : Cond.selects RX3 yX3_addTimes yX3_addTimes ∈ tb_ := mem_tb 283 (by decide +kernel) rfl
abbrev mX3_addHighestFirst : Mi := (yX3_addHighestFirst, cX3_addHighestFirst, 2, none, 1, { frames := 1, cells := 0, slots := 0, locals := 21 })
theorem okX3_addHighestFirst : MiOk mX3_addHighestFirst := ⟨by decide +kernel, mem_tb 239 (by decide +kernel) rfl, mem_tb 53 (by decide +kernel) rfl, by decide +kernel, rfl, rfl⟩
theorem imX3_addHighestFirst : Cond.instanceMethod yX3_addHighestFirst ∈ tb_ := mem_tb 237 (by decide +kernel) rfl
theorem seX3_addHighestFirst : Cond.selects RX3 yX3_addHighestFirst yX3_addHighestFirst ∈ tb_ := mem_tb 238 (by decide +kernel) rfl
abbrev mX3_addLowestFirst : Mi := (yX3_addLowestFirst, cX3_addLowestFirst, 4, none, 2, { frames := 1, cells := 0, slots := 0, locals := 21 })
theorem okX3_addLowestFirst : MiOk mX3_addLowestFirst := ⟨by decide +kernel, mem_tb 280 (by decide +kernel) rfl, mem_tb 53 (by decide +kernel) rfl, by decide +kernel, rfl, rfl⟩
theorem imX3_addLowestFirst : Cond.instanceMethod yX3_addLowestFirst ∈ tb_ := mem_tb 278 (by decide +kernel) rfl
theorem seX3_addLowestFirst : Cond.selects RX3 yX3_addLowestFirst yX3_addLowestFirst ∈ tb_ := mem_tb 279 (by decide +kernel) rfl
abbrev mX3_addRow : Mi := (yX3_addRow, cX3_addRow, 3, none, 1, { frames := 1, cells := 0, slots := 0, locals := 40 })
theorem okX3_addRow : MiOk mX3_addRow := ⟨by decide +kernel, mem_tb 272 (by decide +kernel) rfl, mem_tb 53 (by decide +kernel) rfl, by decide +kernel, rfl, rfl⟩
theorem imX3_addRow : Cond.instanceMethod yX3_addRow ∈ tb_ := mem_tb 270 (by decide +kernel) rfl
theorem seX3_addRow : Cond.selects RX3 yX3_addRow yX3_addRow ∈ tb_ := mem_tb 271 (by decide +kernel) rfl
abbrev mX3_become : Mi := (yX3_become, cX3_become, 2, none, 1, { frames := 2, cells := 0, slots := 0, locals := 62 })
theorem okX3_become : MiOk mX3_become := ⟨by decide +kernel, mem_tb 344 (by decide +kernel) rfl, mem_tb 53 (by decide +kernel) rfl, by decide +kernel, rfl, rfl⟩
theorem imX3_become : Cond.instanceMethod yX3_become ∈ tb_ := mem_tb 342 (by decide +kernel) rfl
theorem seX3_become : Cond.selects RX3 yX3_become yX3_become ∈ tb_ := mem_tb 343 (by decide +kernel) rfl
abbrev mX3_beginsAs : Mi := (yX3_beginsAs, cX3_beginsAs, 4, (some .boolean), 2, { frames := 0, cells := 0, slots := 0, locals := 0 })
theorem okX3_beginsAs : MiOk mX3_beginsAs := ⟨by decide +kernel, mem_tb 340 (by decide +kernel) rfl, mem_tb 53 (by decide +kernel) rfl, by decide +kernel, rfl, rfl⟩
theorem imX3_beginsAs : Cond.instanceMethod yX3_beginsAs ∈ tb_ := mem_tb 338 (by decide +kernel) rfl
theorem seX3_beginsAs : Cond.selects RX3 yX3_beginsAs yX3_beginsAs ∈ tb_ := mem_tb 339 (by decide +kernel) rfl
abbrev mX4_stream : Mi := (yX4_stream, cX4_stream, 9, none, 3, { frames := 1, cells := 0, slots := 0, locals := 26 })
theorem okX4_stream : MiOk mX4_stream := ⟨by decide +kernel, mem_tb 332 (by decide +kernel) rfl, mem_tb 56 (by decide +kernel) rfl, by decide +kernel, rfl, rfl⟩
theorem imX4_stream : Cond.instanceMethod yX4_stream ∈ tb_ := mem_tb 330 (by decide +kernel) rfl
theorem seX4_stream : Cond.selects RX4 yX4_stream yX4_stream ∈ tb_ := mem_tb 331 (by decide +kernel) rfl
abbrev mX4_mixTable : Mi := (yX4_mixTable, cX4_mixTable, 7, none, 2, { frames := 0, cells := 0, slots := 0, locals := 0 })
theorem okX4_mixTable : MiOk mX4_mixTable := ⟨by decide +kernel, mem_tb 336 (by decide +kernel) rfl, mem_tb 56 (by decide +kernel) rfl, by decide +kernel, rfl, rfl⟩
theorem imX4_mixTable : Cond.instanceMethod yX4_mixTable ∈ tb_ := mem_tb 335 (by decide +kernel) rfl
theorem seX4_mixTable : Cond.selects RX4 yX4_mixTable yX4_mixTable ∈ tb_ := mem_tb 6 (by decide +kernel) rfl
abbrev mX5_feed : Mi := (yX5_feed, cX5_feed, 6, (some .int), 5, { frames := 2, cells := 0, slots := 0, locals := 42 })
theorem okX5_feed : MiOk mX5_feed := ⟨by decide +kernel, mem_tb 235 (by decide +kernel) rfl, mem_tb 52 (by decide +kernel) rfl, by decide +kernel, rfl, rfl⟩
theorem imX5_feed : Cond.instanceMethod yX5_feed ∈ tb_ := mem_tb 233 (by decide +kernel) rfl
theorem seX5_feed : Cond.selects RX5 yX5_feed yX5_feed ∈ tb_ := mem_tb 234 (by decide +kernel) rfl
abbrev mX5_open : Mi := (yX5_open, cX5_open, 1, (some .int), 0, { frames := 6, cells := 0, slots := 0, locals := 138 })
theorem okX5_open : MiOk mX5_open := ⟨by decide +kernel, mem_tb 247 (by decide +kernel) rfl, mem_tb 52 (by decide +kernel) rfl, by decide +kernel, rfl, rfl⟩
theorem imX5_open : Cond.instanceMethod yX5_open ∈ tb_ := mem_tb 245 (by decide +kernel) rfl
theorem seX5_open : Cond.selects RX5 yX5_open yX5_open ∈ tb_ := mem_tb 246 (by decide +kernel) rfl
abbrev mX5_key : Mi := (yX5_key, cX5_key, 2, (some .int), 1, { frames := 1, cells := 0, slots := 0, locals := 21 })
theorem okX5_key : MiOk mX5_key := ⟨by decide +kernel, mem_tb 353 (by decide +kernel) rfl, mem_tb 52 (by decide +kernel) rfl, by decide +kernel, rfl, rfl⟩
theorem imX5_key : Cond.instanceMethod yX5_key ∈ tb_ := mem_tb 351 (by decide +kernel) rfl
theorem seX5_key : Cond.selects RX5 yX5_key yX5_key ∈ tb_ := mem_tb 352 (by decide +kernel) rfl
abbrev mX5_digest : Mi := (yX5_digest, cX5_digest, 1, none, 0, { frames := 3, cells := 0, slots := 0, locals := 69 })
theorem okX5_digest : MiOk mX5_digest := ⟨by decide +kernel, mem_tb 361 (by decide +kernel) rfl, mem_tb 52 (by decide +kernel) rfl, by decide +kernel, rfl, rfl⟩
theorem imX5_digest : Cond.instanceMethod yX5_digest ∈ tb_ := mem_tb 359 (by decide +kernel) rfl
theorem seX5_digest : Cond.selects RX5 yX5_digest yX5_digest ∈ tb_ := mem_tb 360 (by decide +kernel) rfl
abbrev mX5_count : Mi := (yX5_count, cX5_count, 2, (some .int), 1, { frames := 0, cells := 0, slots := 0, locals := 0 })
theorem okX5_count : MiOk mX5_count := ⟨by decide +kernel, mem_tb 366 (by decide +kernel) rfl, mem_tb 52 (by decide +kernel) rfl, by decide +kernel, rfl, rfl⟩
theorem imX5_count : Cond.instanceMethod yX5_count ∈ tb_ := mem_tb 364 (by decide +kernel) rfl
theorem seX5_count : Cond.selects RX5 yX5_count yX5_count ∈ tb_ := mem_tb 365 (by decide +kernel) rfl
abbrev mX5_at : Mi := (yX5_at, cX5_at, 2, (some .int), 1, { frames := 1, cells := 0, slots := 0, locals := 21 })
theorem okX5_at : MiOk mX5_at := ⟨by decide +kernel, mem_tb 370 (by decide +kernel) rfl, mem_tb 52 (by decide +kernel) rfl, by decide +kernel, rfl, rfl⟩
theorem imX5_at : Cond.instanceMethod yX5_at ∈ tb_ := mem_tb 368 (by decide +kernel) rfl
theorem seX5_at : Cond.selects RX5 yX5_at yX5_at ∈ tb_ := mem_tb 369 (by decide +kernel) rfl
abbrev mX5_entry : Mi := (yX5_entry, cX5_entry, 3, (some .int), 2, { frames := 1, cells := 0, slots := 0, locals := 21 })
theorem okX5_entry : MiOk mX5_entry := ⟨by decide +kernel, mem_tb 374 (by decide +kernel) rfl, mem_tb 52 (by decide +kernel) rfl, by decide +kernel, rfl, rfl⟩
theorem imX5_entry : Cond.instanceMethod yX5_entry ∈ tb_ := mem_tb 372 (by decide +kernel) rfl
theorem seX5_entry : Cond.selects RX5 yX5_entry yX5_entry ∈ tb_ := mem_tb 373 (by decide +kernel) rfl
abbrev mX5_keep : Mi := (yX5_keep, cX5_keep, 1, (some .int), 0, { frames := 3, cells := 0, slots := 0, locals := 83 })
theorem okX5_keep : MiOk mX5_keep := ⟨by decide +kernel, mem_tb 378 (by decide +kernel) rfl, mem_tb 52 (by decide +kernel) rfl, by decide +kernel, rfl, rfl⟩
theorem imX5_keep : Cond.instanceMethod yX5_keep ∈ tb_ := mem_tb 376 (by decide +kernel) rfl
theorem seX5_keep : Cond.selects RX5 yX5_keep yX5_keep ∈ tb_ := mem_tb 377 (by decide +kernel) rfl
abbrev mX5_isObject : Mi := (yX5_isObject, cX5_isObject, 3, (some .boolean), 3, { frames := 0, cells := 0, slots := 0, locals := 0 })
theorem okX5_isObject : MiOk mX5_isObject := ⟨by decide +kernel, mem_tb 546 (by decide +kernel) rfl, mem_tb 52 (by decide +kernel) rfl, by decide +kernel, rfl, rfl⟩
theorem stX5_isObject : Cond.static yX5_isObject ∈ tb_ := mem_tb 545 (by decide +kernel) rfl
abbrev mX5_streamOrCopy : Mi := (yX5_streamOrCopy, cX5_streamOrCopy, 4, (some .int), 3, { frames := 4, cells := 0, slots := 0, locals := 106 })
theorem okX5_streamOrCopy : MiOk mX5_streamOrCopy := ⟨by decide +kernel, mem_tb 615 (by decide +kernel) rfl, mem_tb 52 (by decide +kernel) rfl, by decide +kernel, rfl, rfl⟩
theorem imX5_streamOrCopy : Cond.instanceMethod yX5_streamOrCopy ∈ tb_ := mem_tb 614 (by decide +kernel) rfl
theorem seX5_streamOrCopy : Cond.selects RX5 yX5_streamOrCopy yX5_streamOrCopy ∈ tb_ := mem_tb 15 (by decide +kernel) rfl
abbrev mX5_undoBlocks : Mi := (yX5_undoBlocks, cX5_undoBlocks, 7, (some .int), 2, { frames := 5, cells := 0, slots := 0, locals := 112 })
theorem okX5_undoBlocks : MiOk mX5_undoBlocks := ⟨by decide +kernel, mem_tb 554 (by decide +kernel) rfl, mem_tb 52 (by decide +kernel) rfl, by decide +kernel, rfl, rfl⟩
theorem imX5_undoBlocks : Cond.instanceMethod yX5_undoBlocks ∈ tb_ := mem_tb 553 (by decide +kernel) rfl
theorem seX5_undoBlocks : Cond.selects RX5 yX5_undoBlocks yX5_undoBlocks ∈ tb_ := mem_tb 9 (by decide +kernel) rfl
abbrev mX5_unchain : Mi := (yX5_unchain, cX5_unchain, 3, none, 2, { frames := 4, cells := 0, slots := 0, locals := 90 })
theorem okX5_unchain : MiOk mX5_unchain := ⟨by decide +kernel, mem_tb 571 (by decide +kernel) rfl, mem_tb 52 (by decide +kernel) rfl, by decide +kernel, rfl, rfl⟩
theorem imX5_unchain : Cond.instanceMethod yX5_unchain ∈ tb_ := mem_tb 570 (by decide +kernel) rfl
theorem seX5_unchain : Cond.selects RX5 yX5_unchain yX5_unchain ∈ tb_ := mem_tb 10 (by decide +kernel) rfl
abbrev mX5_fillingBytes : Mi := (yX5_fillingBytes, cX5_fillingBytes, 1, (some .int), 0, { frames := 0, cells := 0, slots := 0, locals := 0 })
theorem okX5_fillingBytes : MiOk mX5_fillingBytes := ⟨by decide +kernel, mem_tb 627 (by decide +kernel) rfl, mem_tb 52 (by decide +kernel) rfl, by decide +kernel, rfl, rfl⟩
theorem imX5_fillingBytes : Cond.instanceMethod yX5_fillingBytes ∈ tb_ := mem_tb 626 (by decide +kernel) rfl
theorem seX5_fillingBytes : Cond.selects RX5 yX5_fillingBytes yX5_fillingBytes ∈ tb_ := mem_tb 16 (by decide +kernel) rfl
abbrev mX5_sealBlocks : Mi := (yX5_sealBlocks, cX5_sealBlocks, 8, (some .int), 4, { frames := 4, cells := 0, slots := 0, locals := 106 })
theorem okX5_sealBlocks : MiOk mX5_sealBlocks := ⟨by decide +kernel, mem_tb 632 (by decide +kernel) rfl, mem_tb 52 (by decide +kernel) rfl, by decide +kernel, rfl, rfl⟩
theorem imX5_sealBlocks : Cond.instanceMethod yX5_sealBlocks ∈ tb_ := mem_tb 631 (by decide +kernel) rfl
theorem seX5_sealBlocks : Cond.selects RX5 yX5_sealBlocks yX5_sealBlocks ∈ tb_ := mem_tb 17 (by decide +kernel) rfl
abbrev mX6_thrown : Mi := (yX6_thrown, cX6_thrown, 1, (some .int), 0, { frames := 0, cells := 0, slots := 0, locals := 0 })
theorem okX6_thrown : MiOk mX6_thrown := ⟨by decide +kernel, mem_tb 825 (by decide +kernel) rfl, mem_tb 58 (by decide +kernel) rfl, by decide +kernel, rfl, rfl⟩
theorem imX6_thrown : Cond.instanceMethod yX6_thrown ∈ tb_ := mem_tb 823 (by decide +kernel) rfl
theorem seX6_thrown : Cond.selects RX6 yX6_thrown yX6_thrown ∈ tb_ := mem_tb 824 (by decide +kernel) rfl
abbrev mX6_refused : Mi := (yX6_refused, cX6_refused, 2, (some .boolean), 1, { frames := 0, cells := 0, slots := 0, locals := 0 })
theorem okX6_refused : MiOk mX6_refused := ⟨by decide +kernel, mem_tb 837 (by decide +kernel) rfl, mem_tb 58 (by decide +kernel) rfl, by decide +kernel, rfl, rfl⟩
theorem imX6_refused : Cond.instanceMethod yX6_refused ∈ tb_ := mem_tb 836 (by decide +kernel) rfl
theorem seX6_refused : Cond.selects RX6 yX6_refused yX6_refused ∈ tb_ := mem_tb 19 (by decide +kernel) rfl
abbrev mX6_feed : Mi := (yX6_feed, cX6_feed, 8, (some .int), 5, { frames := 0, cells := 0, slots := 0, locals := 0 })
theorem okX6_feed : MiOk mX6_feed := ⟨by decide +kernel, mem_tb 829 (by decide +kernel) rfl, mem_tb 58 (by decide +kernel) rfl, by decide +kernel, rfl, rfl⟩
theorem imX6_feed : Cond.instanceMethod yX6_feed ∈ tb_ := mem_tb 827 (by decide +kernel) rfl
theorem seX6_feed : Cond.selects RX6 yX6_feed yX6_feed ∈ tb_ := mem_tb 828 (by decide +kernel) rfl
abbrev mX6_put : Mi := (yX6_put, cX6_put, 4, (some .int), 2, { frames := 1, cells := 0, slots := 0, locals := 21 })
theorem okX6_put : MiOk mX6_put := ⟨by decide +kernel, mem_tb 833 (by decide +kernel) rfl, mem_tb 58 (by decide +kernel) rfl, by decide +kernel, rfl, rfl⟩
theorem imX6_put : Cond.instanceMethod yX6_put ∈ tb_ := mem_tb 831 (by decide +kernel) rfl
theorem seX6_put : Cond.selects RX6 yX6_put yX6_put ∈ tb_ := mem_tb 832 (by decide +kernel) rfl
abbrev mX6_cut : Mi := (yX6_cut, cX6_cut, 3, (some .int), 1, { frames := 1, cells := 0, slots := 0, locals := 21 })
theorem okX6_cut : MiOk mX6_cut := ⟨by decide +kernel, mem_tb 841 (by decide +kernel) rfl, mem_tb 58 (by decide +kernel) rfl, by decide +kernel, rfl, rfl⟩
theorem imX6_cut : Cond.instanceMethod yX6_cut ∈ tb_ := mem_tb 839 (by decide +kernel) rfl
theorem seX6_cut : Cond.selects RX6 yX6_cut yX6_cut ∈ tb_ := mem_tb 840 (by decide +kernel) rfl
abbrev mX6_say : Mi := (yX6_say, cX6_say, 2, none, 1, { frames := 0, cells := 0, slots := 0, locals := 0 })
theorem okX6_say : MiOk mX6_say := ⟨by decide +kernel, mem_tb 869 (by decide +kernel) rfl, mem_tb 58 (by decide +kernel) rfl, by decide +kernel, rfl, rfl⟩
theorem imX6_say : Cond.instanceMethod yX6_say ∈ tb_ := mem_tb 868 (by decide +kernel) rfl
theorem seX6_say : Cond.selects RX6 yX6_say yX6_say ∈ tb_ := mem_tb 23 (by decide +kernel) rfl
abbrev mX6_turned : Mi := (yX6_turned, cX6_turned, 2, (some .int), 2, { frames := 0, cells := 0, slots := 0, locals := 0 })
theorem okX6_turned : MiOk mX6_turned := ⟨by decide +kernel, mem_tb 888 (by decide +kernel) rfl, mem_tb 58 (by decide +kernel) rfl, by decide +kernel, rfl, rfl⟩
theorem stX6_turned : Cond.static yX6_turned ∈ tb_ := mem_tb 887 (by decide +kernel) rfl
abbrev mX6_word : Mi := (yX6_word, cX6_word, 2, (some .int), 1, { frames := 0, cells := 0, slots := 0, locals := 0 })
theorem okX6_word : MiOk mX6_word := ⟨by decide +kernel, mem_tb 885 (by decide +kernel) rfl, mem_tb 58 (by decide +kernel) rfl, by decide +kernel, rfl, rfl⟩
theorem imX6_word : Cond.instanceMethod yX6_word ∈ tb_ := mem_tb 884 (by decide +kernel) rfl
theorem seX6_word : Cond.selects RX6 yX6_word yX6_word ∈ tb_ := mem_tb 26 (by decide +kernel) rfl
abbrev mX6_digestBlock : Mi := (yX6_digestBlock, cX6_digestBlock, 10, none, 1, { frames := 1, cells := 0, slots := 0, locals := 21 })
theorem okX6_digestBlock : MiOk mX6_digestBlock := ⟨by decide +kernel, mem_tb 881 (by decide +kernel) rfl, mem_tb 58 (by decide +kernel) rfl, by decide +kernel, rfl, rfl⟩
theorem imX6_digestBlock : Cond.instanceMethod yX6_digestBlock ∈ tb_ := mem_tb 880 (by decide +kernel) rfl
theorem seX6_digestBlock : Cond.selects RX6 yX6_digestBlock yX6_digestBlock ∈ tb_ := mem_tb 25 (by decide +kernel) rfl
abbrev mX6_finish : Mi := (yX6_finish, cX6_finish, 3, none, 0, { frames := 2, cells := 0, slots := 0, locals := 50 })
theorem okX6_finish : MiOk mX6_finish := ⟨by decide +kernel, mem_tb 873 (by decide +kernel) rfl, mem_tb 58 (by decide +kernel) rfl, by decide +kernel, rfl, rfl⟩
theorem imX6_finish : Cond.instanceMethod yX6_finish ∈ tb_ := mem_tb 872 (by decide +kernel) rfl
theorem seX6_finish : Cond.selects RX6 yX6_finish yX6_finish ∈ tb_ := mem_tb 24 (by decide +kernel) rfl
abbrev mX6_again : Mi := (yX6_again, cX6_again, 5, none, 2, { frames := 3, cells := 0, slots := 0, locals := 72 })
theorem okX6_again : MiOk mX6_again := ⟨by decide +kernel, mem_tb 892 (by decide +kernel) rfl, mem_tb 58 (by decide +kernel) rfl, by decide +kernel, rfl, rfl⟩
theorem imX6_again : Cond.instanceMethod yX6_again ∈ tb_ := mem_tb 891 (by decide +kernel) rfl
theorem seX6_again : Cond.selects RX6 yX6_again yX6_again ∈ tb_ := mem_tb 27 (by decide +kernel) rfl
abbrev mX6_mix : Mi := (yX6_mix, cX6_mix, 5, none, 1, { frames := 0, cells := 0, slots := 0, locals := 0 })
theorem okX6_mix : MiOk mX6_mix := ⟨by decide +kernel, mem_tb 904 (by decide +kernel) rfl, mem_tb 58 (by decide +kernel) rfl, by decide +kernel, rfl, rfl⟩
theorem imX6_mix : Cond.instanceMethod yX6_mix ∈ tb_ := mem_tb 903 (by decide +kernel) rfl
theorem seX6_mix : Cond.selects RX6 yX6_mix yX6_mix ∈ tb_ := mem_tb 30 (by decide +kernel) rfl
abbrev mX6_stream : Mi := (yX6_stream, cX6_stream, 7, none, 2, { frames := 1, cells := 0, slots := 0, locals := 24 })
theorem okX6_stream : MiOk mX6_stream := ⟨by decide +kernel, mem_tb 900 (by decide +kernel) rfl, mem_tb 58 (by decide +kernel) rfl, by decide +kernel, rfl, rfl⟩
theorem imX6_stream : Cond.instanceMethod yX6_stream ∈ tb_ := mem_tb 899 (by decide +kernel) rfl
theorem seX6_stream : Cond.selects RX6 yX6_stream yX6_stream ∈ tb_ := mem_tb 29 (by decide +kernel) rfl
abbrev mX6_streamRow : Mi := (yX6_streamRow, cX6_streamRow, 5, none, 0, { frames := 1, cells := 0, slots := 0, locals := 24 })
theorem okX6_streamRow : MiOk mX6_streamRow := ⟨by decide +kernel, mem_tb 999 (by decide +kernel) rfl, mem_tb 58 (by decide +kernel) rfl, by decide +kernel, rfl, rfl⟩
theorem imX6_streamRow : Cond.instanceMethod yX6_streamRow ∈ tb_ := mem_tb 998 (by decide +kernel) rfl
theorem seX6_streamRow : Cond.selects RX6 yX6_streamRow yX6_streamRow ∈ tb_ := mem_tb 47 (by decide +kernel) rfl
abbrev mX6_padWord : Mi := (yX6_padWord, cX6_padWord, 4, none, 1, { frames := 0, cells := 0, slots := 0, locals := 0 })
theorem okX6_padWord : MiOk mX6_padWord := ⟨by decide +kernel, mem_tb 861 (by decide +kernel) rfl, mem_tb 58 (by decide +kernel) rfl, by decide +kernel, rfl, rfl⟩
theorem imX6_padWord : Cond.instanceMethod yX6_padWord ∈ tb_ := mem_tb 860 (by decide +kernel) rfl
theorem seX6_padWord : Cond.selects RX6 yX6_padWord yX6_padWord ∈ tb_ := mem_tb 21 (by decide +kernel) rfl
abbrev mX6_makeKey : Mi := (yX6_makeKey, cX6_makeKey, 2, none, 0, { frames := 4, cells := 0, slots := 0, locals := 96 })
theorem okX6_makeKey : MiOk mX6_makeKey := ⟨by decide +kernel, mem_tb 908 (by decide +kernel) rfl, mem_tb 58 (by decide +kernel) rfl, by decide +kernel, rfl, rfl⟩
theorem imX6_makeKey : Cond.instanceMethod yX6_makeKey ∈ tb_ := mem_tb 907 (by decide +kernel) rfl
theorem seX6_makeKey : Cond.selects RX6 yX6_makeKey yX6_makeKey ∈ tb_ := mem_tb 31 (by decide +kernel) rfl
abbrev mX6_takeHand : Mi := (yX6_takeHand, cX6_takeHand, 3, none, 1, { frames := 0, cells := 0, slots := 0, locals := 0 })
theorem okX6_takeHand : MiOk mX6_takeHand := ⟨by decide +kernel, mem_tb 896 (by decide +kernel) rfl, mem_tb 58 (by decide +kernel) rfl, by decide +kernel, rfl, rfl⟩
theorem imX6_takeHand : Cond.instanceMethod yX6_takeHand ∈ tb_ := mem_tb 895 (by decide +kernel) rfl
theorem seX6_takeHand : Cond.selects RX6 yX6_takeHand yX6_takeHand ∈ tb_ := mem_tb 28 (by decide +kernel) rfl
abbrev mX6_makeOwnerKey : Mi := (yX6_makeOwnerKey, cX6_makeOwnerKey, 2, none, 0, { frames := 4, cells := 0, slots := 0, locals := 96 })
theorem okX6_makeOwnerKey : MiOk mX6_makeOwnerKey := ⟨by decide +kernel, mem_tb 865 (by decide +kernel) rfl, mem_tb 58 (by decide +kernel) rfl, by decide +kernel, rfl, rfl⟩
theorem imX6_makeOwnerKey : Cond.instanceMethod yX6_makeOwnerKey ∈ tb_ := mem_tb 864 (by decide +kernel) rfl
theorem seX6_makeOwnerKey : Cond.selects RX6 yX6_makeOwnerKey yX6_makeOwnerKey ∈ tb_ := mem_tb 22 (by decide +kernel) rfl
abbrev mX6_makeUserEntry : Mi := (yX6_makeUserEntry, cX6_makeUserEntry, 2, none, 0, { frames := 3, cells := 0, slots := 0, locals := 72 })
theorem okX6_makeUserEntry : MiOk mX6_makeUserEntry := ⟨by decide +kernel, mem_tb 912 (by decide +kernel) rfl, mem_tb 58 (by decide +kernel) rfl, by decide +kernel, rfl, rfl⟩
theorem imX6_makeUserEntry : Cond.instanceMethod yX6_makeUserEntry ∈ tb_ := mem_tb 911 (by decide +kernel) rfl
theorem seX6_makeUserEntry : Cond.selects RX6 yX6_makeUserEntry yX6_makeUserEntry ∈ tb_ := mem_tb 32 (by decide +kernel) rfl
abbrev mX6_handler : Mi := (yX6_handler, cX6_handler, 6, none, 4, { frames := 1, cells := 0, slots := 0, locals := 21 })
theorem okX6_handler : MiOk mX6_handler := ⟨by decide +kernel, mem_tb 845 (by decide +kernel) rfl, mem_tb 58 (by decide +kernel) rfl, by decide +kernel, rfl, rfl⟩
theorem imX6_handler : Cond.instanceMethod yX6_handler ∈ tb_ := mem_tb 843 (by decide +kernel) rfl
theorem seX6_handler : Cond.selects RX6 yX6_handler yX6_handler ∈ tb_ := mem_tb 844 (by decide +kernel) rfl
abbrev mX6_take : Mi := (yX6_take, cX6_take, 5, (some .int), 1, { frames := 1, cells := 0, slots := 0, locals := 21 })
theorem okX6_take : MiOk mX6_take := ⟨by decide +kernel, mem_tb 849 (by decide +kernel) rfl, mem_tb 58 (by decide +kernel) rfl, by decide +kernel, rfl, rfl⟩
theorem imX6_take : Cond.instanceMethod yX6_take ∈ tb_ := mem_tb 847 (by decide +kernel) rfl
theorem seX6_take : Cond.selects RX6 yX6_take yX6_take ∈ tb_ := mem_tb 848 (by decide +kernel) rfl
abbrev mX6_makeOwnerEntry : Mi := (yX6_makeOwnerEntry, cX6_makeOwnerEntry, 2, none, 0, { frames := 5, cells := 0, slots := 0, locals := 117 })
theorem okX6_makeOwnerEntry : MiOk mX6_makeOwnerEntry := ⟨by decide +kernel, mem_tb 857 (by decide +kernel) rfl, mem_tb 58 (by decide +kernel) rfl, by decide +kernel, rfl, rfl⟩
theorem imX6_makeOwnerEntry : Cond.instanceMethod yX6_makeOwnerEntry ∈ tb_ := mem_tb 856 (by decide +kernel) rfl
theorem seX6_makeOwnerEntry : Cond.selects RX6 yX6_makeOwnerEntry yX6_makeOwnerEntry ∈ tb_ := mem_tb 20 (by decide +kernel) rfl
abbrev mX6_enter : Mi := (yX6_enter, cX6_enter, 3, none, 1, { frames := 6, cells := 0, slots := 0, locals := 138 })
theorem okX6_enter : MiOk mX6_enter := ⟨by decide +kernel, mem_tb 853 (by decide +kernel) rfl, mem_tb 58 (by decide +kernel) rfl, by decide +kernel, rfl, rfl⟩
theorem imX6_enter : Cond.instanceMethod yX6_enter ∈ tb_ := mem_tb 851 (by decide +kernel) rfl
theorem seX6_enter : Cond.selects RX6 yX6_enter yX6_enter ∈ tb_ := mem_tb 852 (by decide +kernel) rfl
abbrev mX6_isUsers : Mi := (yX6_isUsers, cX6_isUsers, 3, (some .boolean), 0, { frames := 5, cells := 0, slots := 0, locals := 117 })
theorem okX6_isUsers : MiOk mX6_isUsers := ⟨by decide +kernel, mem_tb 920 (by decide +kernel) rfl, mem_tb 58 (by decide +kernel) rfl, by decide +kernel, rfl, rfl⟩
theorem imX6_isUsers : Cond.instanceMethod yX6_isUsers ∈ tb_ := mem_tb 919 (by decide +kernel) rfl
theorem seX6_isUsers : Cond.selects RX6 yX6_isUsers yX6_isUsers ∈ tb_ := mem_tb 33 (by decide +kernel) rfl
abbrev mX6_know : Mi := (yX6_know, cX6_know, 2, none, 0, { frames := 0, cells := 0, slots := 0, locals := 0 })
theorem okX6_know : MiOk mX6_know := ⟨by decide +kernel, mem_tb 924 (by decide +kernel) rfl, mem_tb 58 (by decide +kernel) rfl, by decide +kernel, rfl, rfl⟩
theorem imX6_know : Cond.instanceMethod yX6_know ∈ tb_ := mem_tb 923 (by decide +kernel) rfl
theorem seX6_know : Cond.selects RX6 yX6_know yX6_know ∈ tb_ := mem_tb 34 (by decide +kernel) rfl
abbrev mX6_open : Mi := (yX6_open, cX6_open, 2, (some .int), 0, { frames := 6, cells := 0, slots := 0, locals := 139 })
theorem okX6_open : MiOk mX6_open := ⟨by decide +kernel, mem_tb 916 (by decide +kernel) rfl, mem_tb 58 (by decide +kernel) rfl, by decide +kernel, rfl, rfl⟩
theorem imX6_open : Cond.instanceMethod yX6_open ∈ tb_ := mem_tb 914 (by decide +kernel) rfl
theorem seX6_open : Cond.selects RX6 yX6_open yX6_open ∈ tb_ := mem_tb 915 (by decide +kernel) rfl
abbrev mX6_key : Mi := (yX6_key, cX6_key, 2, (some .int), 1, { frames := 0, cells := 0, slots := 0, locals := 0 })
theorem okX6_key : MiOk mX6_key := ⟨by decide +kernel, mem_tb 928 (by decide +kernel) rfl, mem_tb 58 (by decide +kernel) rfl, by decide +kernel, rfl, rfl⟩
theorem imX6_key : Cond.instanceMethod yX6_key ∈ tb_ := mem_tb 926 (by decide +kernel) rfl
theorem seX6_key : Cond.selects RX6 yX6_key yX6_key ∈ tb_ := mem_tb 927 (by decide +kernel) rfl
abbrev mX6_digest : Mi := (yX6_digest, cX6_digest, 2, none, 0, { frames := 3, cells := 0, slots := 0, locals := 72 })
theorem okX6_digest : MiOk mX6_digest := ⟨by decide +kernel, mem_tb 932 (by decide +kernel) rfl, mem_tb 58 (by decide +kernel) rfl, by decide +kernel, rfl, rfl⟩
theorem imX6_digest : Cond.instanceMethod yX6_digest ∈ tb_ := mem_tb 930 (by decide +kernel) rfl
theorem seX6_digest : Cond.selects RX6 yX6_digest yX6_digest ∈ tb_ := mem_tb 931 (by decide +kernel) rfl
abbrev mX6_doubled : Mi := (yX6_doubled, cX6_doubled, 1, (some .int), 1, { frames := 0, cells := 0, slots := 0, locals := 0 })
theorem okX6_doubled : MiOk mX6_doubled := ⟨by decide +kernel, mem_tb 967 (by decide +kernel) rfl, mem_tb 58 (by decide +kernel) rfl, by decide +kernel, rfl, rfl⟩
theorem stX6_doubled : Cond.static yX6_doubled ∈ tb_ := mem_tb 966 (by decide +kernel) rfl
abbrev mX6_product : Mi := (yX6_product, cX6_product, 5, (some .int), 2, { frames := 1, cells := 0, slots := 0, locals := 20 })
theorem okX6_product : MiOk mX6_product := ⟨by decide +kernel, mem_tb 964 (by decide +kernel) rfl, mem_tb 58 (by decide +kernel) rfl, by decide +kernel, rfl, rfl⟩
theorem stX6_product : Cond.static yX6_product ∈ tb_ := mem_tb 963 (by decide +kernel) rfl
abbrev mX6_swapped : Mi := (yX6_swapped, cX6_swapped, 4, (some .int), 1, { frames := 2, cells := 0, slots := 0, locals := 44 })
theorem okX6_swapped : MiOk mX6_swapped := ⟨by decide +kernel, mem_tb 961 (by decide +kernel) rfl, mem_tb 58 (by decide +kernel) rfl, by decide +kernel, rfl, rfl⟩
theorem stX6_swapped : Cond.static yX6_swapped ∈ tb_ := mem_tb 960 (by decide +kernel) rfl
abbrev mX6_unswapped : Mi := (yX6_unswapped, cX6_unswapped, 2, (some .int), 1, { frames := 0, cells := 0, slots := 0, locals := 0 })
theorem okX6_unswapped : MiOk mX6_unswapped := ⟨by decide +kernel, mem_tb 995 (by decide +kernel) rfl, mem_tb 58 (by decide +kernel) rfl, by decide +kernel, rfl, rfl⟩
theorem imX6_unswapped : Cond.instanceMethod yX6_unswapped ∈ tb_ := mem_tb 994 (by decide +kernel) rfl
theorem seX6_unswapped : Cond.selects RX6 yX6_unswapped yX6_unswapped ∈ tb_ := mem_tb 46 (by decide +kernel) rfl
abbrev mX6_makeSwaps : Mi := (yX6_makeSwaps, cX6_makeSwaps, 2, none, 0, { frames := 3, cells := 0, slots := 0, locals := 67 })
theorem okX6_makeSwaps : MiOk mX6_makeSwaps := ⟨by decide +kernel, mem_tb 958 (by decide +kernel) rfl, mem_tb 58 (by decide +kernel) rfl, by decide +kernel, rfl, rfl⟩
theorem imX6_makeSwaps : Cond.instanceMethod yX6_makeSwaps ∈ tb_ := mem_tb 957 (by decide +kernel) rfl
theorem seX6_makeSwaps : Cond.selects RX6 yX6_makeSwaps yX6_makeSwaps ∈ tb_ := mem_tb 39 (by decide +kernel) rfl
abbrev mX6_makeColumns : Mi := (yX6_makeColumns, cX6_makeColumns, 5, none, 0, { frames := 4, cells := 0, slots := 0, locals := 88 })
theorem okX6_makeColumns : MiOk mX6_makeColumns := ⟨by decide +kernel, mem_tb 954 (by decide +kernel) rfl, mem_tb 58 (by decide +kernel) rfl, by decide +kernel, rfl, rfl⟩
theorem imX6_makeColumns : Cond.instanceMethod yX6_makeColumns ∈ tb_ := mem_tb 953 (by decide +kernel) rfl
theorem seX6_makeColumns : Cond.selects RX6 yX6_makeColumns yX6_makeColumns ∈ tb_ := mem_tb 38 (by decide +kernel) rfl
abbrev mX6_addKey : Mi := (yX6_addKey, cX6_addKey, 3, none, 1, { frames := 0, cells := 0, slots := 0, locals := 0 })
theorem okX6_addKey : MiOk mX6_addKey := ⟨by decide +kernel, mem_tb 983 (by decide +kernel) rfl, mem_tb 58 (by decide +kernel) rfl, by decide +kernel, rfl, rfl⟩
theorem imX6_addKey : Cond.instanceMethod yX6_addKey ∈ tb_ := mem_tb 982 (by decide +kernel) rfl
theorem seX6_addKey : Cond.selects RX6 yX6_addKey yX6_addKey ∈ tb_ := mem_tb 43 (by decide +kernel) rfl
abbrev mX6_shift : Mi := (yX6_shift, cX6_shift, 4, none, 1, { frames := 0, cells := 0, slots := 0, locals := 0 })
theorem okX6_shift : MiOk mX6_shift := ⟨by decide +kernel, mem_tb 991 (by decide +kernel) rfl, mem_tb 58 (by decide +kernel) rfl, by decide +kernel, rfl, rfl⟩
theorem imX6_shift : Cond.instanceMethod yX6_shift ∈ tb_ := mem_tb 990 (by decide +kernel) rfl
theorem seX6_shift : Cond.selects RX6 yX6_shift yX6_shift ∈ tb_ := mem_tb 45 (by decide +kernel) rfl
abbrev mX6_mixColumns : Mi := (yX6_mixColumns, cX6_mixColumns, 8, none, 4, { frames := 2, cells := 0, slots := 0, locals := 44 })
theorem okX6_mixColumns : MiOk mX6_mixColumns := ⟨by decide +kernel, mem_tb 987 (by decide +kernel) rfl, mem_tb 58 (by decide +kernel) rfl, by decide +kernel, rfl, rfl⟩
theorem imX6_mixColumns : Cond.instanceMethod yX6_mixColumns ∈ tb_ := mem_tb 986 (by decide +kernel) rfl
theorem seX6_mixColumns : Cond.selects RX6 yX6_mixColumns yX6_mixColumns ∈ tb_ := mem_tb 44 (by decide +kernel) rfl
abbrev mX6_makeBlock : Mi := (yX6_makeBlock, cX6_makeBlock, 3, none, 0, { frames := 3, cells := 0, slots := 0, locals := 71 })
theorem okX6_makeBlock : MiOk mX6_makeBlock := ⟨by decide +kernel, mem_tb 1015 (by decide +kernel) rfl, mem_tb 58 (by decide +kernel) rfl, by decide +kernel, rfl, rfl⟩
theorem imX6_makeBlock : Cond.instanceMethod yX6_makeBlock ∈ tb_ := mem_tb 1014 (by decide +kernel) rfl
theorem seX6_makeBlock : Cond.selects RX6 yX6_makeBlock yX6_makeBlock ∈ tb_ := mem_tb 50 (by decide +kernel) rfl
abbrev mX6_undoBlock : Mi := (yX6_undoBlock, cX6_undoBlock, 3, none, 0, { frames := 3, cells := 0, slots := 0, locals := 71 })
theorem okX6_undoBlock : MiOk mX6_undoBlock := ⟨by decide +kernel, mem_tb 979 (by decide +kernel) rfl, mem_tb 58 (by decide +kernel) rfl, by decide +kernel, rfl, rfl⟩
theorem imX6_undoBlock : Cond.instanceMethod yX6_undoBlock ∈ tb_ := mem_tb 978 (by decide +kernel) rfl
theorem seX6_undoBlock : Cond.selects RX6 yX6_undoBlock yX6_undoBlock ∈ tb_ := mem_tb 42 (by decide +kernel) rfl
abbrev mX6_makeObjectKey : Mi := (yX6_makeObjectKey, cX6_makeObjectKey, 5, none, 3, { frames := 3, cells := 0, slots := 0, locals := 72 })
theorem okX6_makeObjectKey : MiOk mX6_makeObjectKey := ⟨by decide +kernel, mem_tb 946 (by decide +kernel) rfl, mem_tb 58 (by decide +kernel) rfl, by decide +kernel, rfl, rfl⟩
theorem imX6_makeObjectKey : Cond.instanceMethod yX6_makeObjectKey ∈ tb_ := mem_tb 945 (by decide +kernel) rfl
theorem seX6_makeObjectKey : Cond.selects RX6 yX6_makeObjectKey yX6_makeObjectKey ∈ tb_ := mem_tb 36 (by decide +kernel) rfl
abbrev mX6_isSound : Mi := (yX6_isSound, cX6_isSound, 4, (some .boolean), 3, { frames := 0, cells := 0, slots := 0, locals := 0 })
theorem okX6_isSound : MiOk mX6_isSound := ⟨by decide +kernel, mem_tb 940 (by decide +kernel) rfl, mem_tb 58 (by decide +kernel) rfl, by decide +kernel, rfl, rfl⟩
theorem imX6_isSound : Cond.instanceMethod yX6_isSound ∈ tb_ := mem_tb 939 (by decide +kernel) rfl
theorem seX6_isSound : Cond.selects RX6 yX6_isSound yX6_isSound ∈ tb_ := mem_tb 35 (by decide +kernel) rfl
abbrev mX6_copy : Mi := (yX6_copy, cX6_copy, 2, none, 0, { frames := 0, cells := 0, slots := 0, locals := 0 })
theorem okX6_copy : MiOk mX6_copy := ⟨by decide +kernel, mem_tb 1003 (by decide +kernel) rfl, mem_tb 58 (by decide +kernel) rfl, by decide +kernel, rfl, rfl⟩
theorem imX6_copy : Cond.instanceMethod yX6_copy ∈ tb_ := mem_tb 1002 (by decide +kernel) rfl
theorem seX6_copy : Cond.selects RX6 yX6_copy yX6_copy ∈ tb_ := mem_tb 48 (by decide +kernel) rfl
abbrev mX6_filling : Mi := (yX6_filling, cX6_filling, 4, (some .int), 0, { frames := 5, cells := 0, slots := 0, locals := 115 })
theorem okX6_filling : MiOk mX6_filling := ⟨by decide +kernel, mem_tb 971 (by decide +kernel) rfl, mem_tb 58 (by decide +kernel) rfl, by decide +kernel, rfl, rfl⟩
theorem imX6_filling : Cond.instanceMethod yX6_filling ∈ tb_ := mem_tb 970 (by decide +kernel) rfl
theorem seX6_filling : Cond.selects RX6 yX6_filling yX6_filling ∈ tb_ := mem_tb 40 (by decide +kernel) rfl
abbrev mX6_undoAt : Mi := (yX6_undoAt, cX6_undoAt, 3, none, 1, { frames := 4, cells := 0, slots := 0, locals := 93 })
theorem okX6_undoAt : MiOk mX6_undoAt := ⟨by decide +kernel, mem_tb 975 (by decide +kernel) rfl, mem_tb 58 (by decide +kernel) rfl, by decide +kernel, rfl, rfl⟩
theorem imX6_undoAt : Cond.instanceMethod yX6_undoAt ∈ tb_ := mem_tb 974 (by decide +kernel) rfl
theorem seX6_undoAt : Cond.selects RX6 yX6_undoAt yX6_undoAt ∈ tb_ := mem_tb 41 (by decide +kernel) rfl
abbrev mX6_undoBlocks : Mi := (yX6_undoBlocks, cX6_undoBlocks, 4, (some .int), 0, { frames := 6, cells := 0, slots := 0, locals := 138 })
theorem okX6_undoBlocks : MiOk mX6_undoBlocks := ⟨by decide +kernel, mem_tb 950 (by decide +kernel) rfl, mem_tb 58 (by decide +kernel) rfl, by decide +kernel, rfl, rfl⟩
theorem imX6_undoBlocks : Cond.instanceMethod yX6_undoBlocks ∈ tb_ := mem_tb 949 (by decide +kernel) rfl
theorem seX6_undoBlocks : Cond.selects RX6 yX6_undoBlocks yX6_undoBlocks ∈ tb_ := mem_tb 37 (by decide +kernel) rfl
abbrev mX6_undo : Mi := (yX6_undo, cX6_undo, 4, (some .int), 3, { frames := 7, cells := 0, slots := 0, locals := 161 })
theorem okX6_undo : MiOk mX6_undo := ⟨by decide +kernel, mem_tb 936 (by decide +kernel) rfl, mem_tb 58 (by decide +kernel) rfl, by decide +kernel, rfl, rfl⟩
theorem imX6_undo : Cond.instanceMethod yX6_undo ∈ tb_ := mem_tb 934 (by decide +kernel) rfl
theorem seX6_undo : Cond.selects RX6 yX6_undo yX6_undo ∈ tb_ := mem_tb 935 (by decide +kernel) rfl
abbrev mX6_sealBlocks : Mi := (yX6_sealBlocks, cX6_sealBlocks, 7, none, 2, { frames := 5, cells := 0, slots := 0, locals := 112 })
theorem okX6_sealBlocks : MiOk mX6_sealBlocks := ⟨by decide +kernel, mem_tb 1011 (by decide +kernel) rfl, mem_tb 58 (by decide +kernel) rfl, by decide +kernel, rfl, rfl⟩
theorem imX6_sealBlocks : Cond.instanceMethod yX6_sealBlocks ∈ tb_ := mem_tb 1010 (by decide +kernel) rfl
theorem seX6_sealBlocks : Cond.selects RX6 yX6_sealBlocks yX6_sealBlocks ∈ tb_ := mem_tb 49 (by decide +kernel) rfl
abbrev mX6_seal : Mi := (yX6_seal, cX6_seal, 7, (some .int), 5, { frames := 6, cells := 0, slots := 0, locals := 138 })
theorem okX6_seal : MiOk mX6_seal := ⟨by decide +kernel, mem_tb 1007 (by decide +kernel) rfl, mem_tb 58 (by decide +kernel) rfl, by decide +kernel, rfl, rfl⟩
theorem imX6_seal : Cond.instanceMethod yX6_seal ∈ tb_ := mem_tb 1005 (by decide +kernel) rfl
theorem seX6_seal : Cond.selects RX6 yX6_seal yX6_seal ∈ tb_ := mem_tb 1006 (by decide +kernel) rfl
abbrev mX6_count : Mi := (yX6_count, cX6_count, 2, (some .int), 1, { frames := 0, cells := 0, slots := 0, locals := 0 })
theorem okX6_count : MiOk mX6_count := ⟨by decide +kernel, mem_tb 1019 (by decide +kernel) rfl, mem_tb 58 (by decide +kernel) rfl, by decide +kernel, rfl, rfl⟩
theorem imX6_count : Cond.instanceMethod yX6_count ∈ tb_ := mem_tb 1017 (by decide +kernel) rfl
theorem seX6_count : Cond.selects RX6 yX6_count yX6_count ∈ tb_ := mem_tb 1018 (by decide +kernel) rfl
abbrev mX6_at : Mi := (yX6_at, cX6_at, 2, (some .int), 1, { frames := 0, cells := 0, slots := 0, locals := 0 })
theorem okX6_at : MiOk mX6_at := ⟨by decide +kernel, mem_tb 1023 (by decide +kernel) rfl, mem_tb 58 (by decide +kernel) rfl, by decide +kernel, rfl, rfl⟩
theorem imX6_at : Cond.instanceMethod yX6_at ∈ tb_ := mem_tb 1021 (by decide +kernel) rfl
theorem seX6_at : Cond.selects RX6 yX6_at yX6_at ∈ tb_ := mem_tb 1022 (by decide +kernel) rfl
abbrev mX6_entry : Mi := (yX6_entry, cX6_entry, 4, (some .int), 2, { frames := 0, cells := 0, slots := 0, locals := 0 })
theorem okX6_entry : MiOk mX6_entry := ⟨by decide +kernel, mem_tb 1027 (by decide +kernel) rfl, mem_tb 58 (by decide +kernel) rfl, by decide +kernel, rfl, rfl⟩
theorem imX6_entry : Cond.instanceMethod yX6_entry ∈ tb_ := mem_tb 1025 (by decide +kernel) rfl
theorem seX6_entry : Cond.selects RX6 yX6_entry yX6_entry ∈ tb_ := mem_tb 1026 (by decide +kernel) rfl
abbrev mX6_keep : Mi := (yX6_keep, cX6_keep, 2, (some .int), 0, { frames := 0, cells := 0, slots := 0, locals := 0 })
theorem okX6_keep : MiOk mX6_keep := ⟨by decide +kernel, mem_tb 1031 (by decide +kernel) rfl, mem_tb 58 (by decide +kernel) rfl, by decide +kernel, rfl, rfl⟩
theorem imX6_keep : Cond.instanceMethod yX6_keep ∈ tb_ := mem_tb 1029 (by decide +kernel) rfl
theorem seX6_keep : Cond.selects RX6 yX6_keep yX6_keep ∈ tb_ := mem_tb 1030 (by decide +kernel) rfl
theorem mlRX0_36 : Cond.methodLink RX0 36 yX0_twice ∈ tb_ := mem_tb 565 (by decide +kernel) rfl
theorem mlRX0_40 : Cond.methodLink RX0 40 yX0_fits ∈ tb_ := mem_tb 576 (by decide +kernel) rfl
theorem mlRX0_44 : Cond.methodLink RX0 44 arraycopyName ∈ tb_ := mem_tb 579 (by decide +kernel) rfl
theorem mlRX0_50 : Cond.methodLink RX0 50 yX0_addColumns ∈ tb_ := mem_tb 584 (by decide +kernel) rfl
theorem mlRX0_54 : Cond.methodLink RX0 54 yX0_swapAndTurn ∈ tb_ := mem_tb 639 (by decide +kernel) rfl
theorem mlRX0_57 : Cond.methodLink RX0 57 yX0_mixColumns ∈ tb_ := mem_tb 592 (by decide +kernel) rfl
theorem mlRX0_60 : Cond.methodLink RX0 60 yX0_unmixColumns ∈ tb_ := mem_tb 588 (by decide +kernel) rfl
theorem mlRX0_63 : Cond.methodLink RX0 63 yX0_swapAndTurnBack ∈ tb_ := mem_tb 596 (by decide +kernel) rfl
theorem mlRX1_85 : Cond.methodLink RX1 85 yX1_deriveOwnerKey ∈ tb_ := mem_tb 346 (by decide +kernel) rfl
theorem mlRX1_89 : Cond.methodLink RX1 89 yX3_clear ∈ tb_ := mem_tb 256 (by decide +kernel) rfl
theorem mlRX1_92 : Cond.methodLink RX1 92 yX1_addPadded ∈ tb_ := mem_tb 260 (by decide +kernel) rfl
theorem mlRX1_96 : Cond.methodLink RX1 96 yX1_streamEntry ∈ tb_ := mem_tb 325 (by decide +kernel) rfl
theorem mlRX1_99 : Cond.methodLink RX1 99 yX1_deriveKey ∈ tb_ := mem_tb 252 (by decide +kernel) rfl
theorem mlRX1_102 : Cond.methodLink RX1 102 yX1_makeEntryByTried ∈ tb_ := mem_tb 318 (by decide +kernel) rfl
theorem mlRX1_105 : Cond.methodLink RX1 105 yX3_become ∈ tb_ := mem_tb 341 (by decide +kernel) rfl
theorem mlRX1_108 : Cond.methodLink RX1 108 yX1_isTriedTheUsers ∈ tb_ := mem_tb 314 (by decide +kernel) rfl
theorem mlRX1_112 : Cond.methodLink RX1 112 yX3_addLowestFirst ∈ tb_ := mem_tb 277 (by decide +kernel) rfl
theorem mlRX1_117 : Cond.methodLink RX1 117 yX3_addHighestFirst ∈ tb_ := mem_tb 560 (by decide +kernel) rfl
theorem mlRX1_120 : Cond.methodLink RX1 120 yX2_hash ∈ tb_ := mem_tb 285 (by decide +kernel) rfl
theorem mlRX1_123 : Cond.methodLink RX1 123 yX3_shorten ∈ tb_ := mem_tb 310 (by decide +kernel) rfl
theorem mlRX1_126 : Cond.methodLink RX1 126 Lib.Math.min.name ∈ tb_ := mem_tb 263 (by decide +kernel) rfl
theorem mlRX1_136 : Cond.methodLink RX1 136 yX3_add ∈ tb_ := mem_tb 266 (by decide +kernel) rfl
theorem mlRX1_142 : Cond.methodLink RX1 142 yX3_addRow ∈ tb_ := mem_tb 269 (by decide +kernel) rfl
theorem mlRX1_145 : Cond.methodLink RX1 145 yX3_addTimes ∈ tb_ := mem_tb 281 (by decide +kernel) rfl
theorem mlRX1_148 : Cond.methodLink RX1 148 yX4_stream ∈ tb_ := mem_tb 329 (by decide +kernel) rfl
theorem mlRX1_152 : Cond.methodLink RX1 152 yX1_addPad ∈ tb_ := mem_tb 322 (by decide +kernel) rfl
theorem mlRX1_155 : Cond.methodLink RX1 155 yX3_beginsAs ∈ tb_ := mem_tb 337 (by decide +kernel) rfl
theorem mlRX2_35 : Cond.methodLink RX2 35 yX2_loadWords ∈ tb_ := mem_tb 293 (by decide +kernel) rfl
theorem mlRX2_39 : Cond.methodLink RX2 39 yX2_mixWords ∈ tb_ := mem_tb 300 (by decide +kernel) rfl
theorem mlRX2_42 : Cond.methodLink RX2 42 yX3_clear ∈ tb_ := mem_tb 308 (by decide +kernel) rfl
theorem mlRX2_45 : Cond.methodLink RX2 45 yX3_addLowestFirst ∈ tb_ := mem_tb 309 (by decide +kernel) rfl
theorem mlRX2_49 : Cond.methodLink RX2 49 yX2_endedByte ∈ tb_ := mem_tb 297 (by decide +kernel) rfl
theorem mlRX3_19 : Cond.methodLink RX3 19 yX3_add ∈ tb_ := mem_tb 240 (by decide +kernel) rfl
theorem mlRX3_23 : Cond.methodLink RX3 23 Lib.Math.min.name ∈ tb_ := mem_tb 273 (by decide +kernel) rfl
theorem mlRX3_29 : Cond.methodLink RX3 29 arraycopyName ∈ tb_ := mem_tb 274 (by decide +kernel) rfl
theorem mlRX3_35 : Cond.methodLink RX3 35 yX3_addRow ∈ tb_ := mem_tb 345 (by decide +kernel) rfl
theorem mlRX4_19 : Cond.methodLink RX4 19 yX4_mixTable ∈ tb_ := mem_tb 333 (by decide +kernel) rfl
theorem mlRX5_32 : Cond.methodLink RX5 32 yX3_addHighestFirst ∈ tb_ := mem_tb 236 (by decide +kernel) rfl
theorem mlRX5_53 : Cond.methodLink RX5 53 yX3_shorten ∈ tb_ := mem_tb 481 (by decide +kernel) rfl
theorem mlRX5_76 : Cond.methodLink RX5 76 yX3_clear ∈ tb_ := mem_tb 491 (by decide +kernel) rfl
theorem mlRX5_79 : Cond.methodLink RX5 79 yX1_toldRow ∈ tb_ := mem_tb 500 (by decide +kernel) rfl
theorem mlRX5_90 : Cond.methodLink RX5 90 yX3_become ∈ tb_ := mem_tb 379 (by decide +kernel) rfl
theorem mlRX5_96 : Cond.methodLink RX5 96 yX1_makeOwnerEntry ∈ tb_ := mem_tb 529 (by decide +kernel) rfl
theorem mlRX5_99 : Cond.methodLink RX5 99 yX1_makeUserEntry ∈ tb_ := mem_tb 533 (by decide +kernel) rfl
theorem mlRX5_102 : Cond.methodLink RX5 102 yX1_tryPassword ∈ tb_ := mem_tb 248 (by decide +kernel) rfl
theorem mlRX5_106 : Cond.methodLink RX5 106 yX3_byteAt ∈ tb_ := mem_tb 354 (by decide +kernel) rfl
theorem mlRX5_114 : Cond.methodLink RX5 114 yX2_hash ∈ tb_ := mem_tb 362 (by decide +kernel) rfl
theorem mlRX5_120 : Cond.methodLink RX5 120 yX5_isObject ∈ tb_ := mem_tb 544 (by decide +kernel) rfl
theorem mlRX5_128 : Cond.methodLink RX5 128 yX5_undoBlocks ∈ tb_ := mem_tb 551 (by decide +kernel) rfl
theorem mlRX5_132 : Cond.methodLink RX5 132 yX5_streamOrCopy ∈ tb_ := mem_tb 612 (by decide +kernel) rfl
theorem mlRX5_136 : Cond.methodLink RX5 136 yX5_fillingBytes ∈ tb_ := mem_tb 624 (by decide +kernel) rfl
theorem mlRX5_142 : Cond.methodLink RX5 142 yX5_sealBlocks ∈ tb_ := mem_tb 629 (by decide +kernel) rfl
theorem mlRX5_158 : Cond.methodLink RX5 158 yX1_objectKey ∈ tb_ := mem_tb 555 (by decide +kernel) rfl
theorem mlRX5_162 : Cond.methodLink RX5 162 yX4_stream ∈ tb_ := mem_tb 616 (by decide +kernel) rfl
theorem mlRX5_172 : Cond.methodLink RX5 172 yX0_expand ∈ tb_ := mem_tb 561 (by decide +kernel) rfl
theorem mlRX5_177 : Cond.methodLink RX5 177 yX5_unchain ∈ tb_ := mem_tb 568 (by decide +kernel) rfl
theorem mlRX5_181 : Cond.methodLink RX5 181 yX0_filling ∈ tb_ := mem_tb 604 (by decide +kernel) rfl
theorem mlRX5_184 : Cond.methodLink RX5 184 yX0_storeTo ∈ tb_ := mem_tb 608 (by decide +kernel) rfl
theorem mlRX5_188 : Cond.methodLink RX5 188 yX0_loadFrom ∈ tb_ := mem_tb 572 (by decide +kernel) rfl
theorem mlRX5_191 : Cond.methodLink RX5 191 yX0_unmakeBlock ∈ tb_ := mem_tb 580 (by decide +kernel) rfl
theorem mlRX5_194 : Cond.methodLink RX5 194 yX0_addFrom ∈ tb_ := mem_tb 600 (by decide +kernel) rfl
theorem mlRX5_197 : Cond.methodLink RX5 197 yX3_addRow ∈ tb_ := mem_tb 633 (by decide +kernel) rfl
theorem mlRX5_200 : Cond.methodLink RX5 200 yX3_addTimes ∈ tb_ := mem_tb 634 (by decide +kernel) rfl
theorem mlRX5_204 : Cond.methodLink RX5 204 yX0_makeBlock ∈ tb_ := mem_tb 635 (by decide +kernel) rfl
theorem mlRX6_159 : Cond.methodLink RX6 159 yX6_refused ∈ tb_ := mem_tb 834 (by decide +kernel) rfl
theorem mlRX6_166 : Cond.methodLink RX6 166 yX6_word ∈ tb_ := mem_tb 882 (by decide +kernel) rfl
theorem mlRX6_170 : Cond.methodLink RX6 170 yX6_turned ∈ tb_ := mem_tb 886 (by decide +kernel) rfl
theorem mlRX6_174 : Cond.methodLink RX6 174 yX6_say ∈ tb_ := mem_tb 866 (by decide +kernel) rfl
theorem mlRX6_182 : Cond.methodLink RX6 182 yX6_digestBlock ∈ tb_ := mem_tb 878 (by decide +kernel) rfl
theorem mlRX6_185 : Cond.methodLink RX6 185 yX6_finish ∈ tb_ := mem_tb 870 (by decide +kernel) rfl
theorem mlRX6_191 : Cond.methodLink RX6 191 yX6_mix ∈ tb_ := mem_tb 901 (by decide +kernel) rfl
theorem mlRX6_210 : Cond.methodLink RX6 210 yX6_again ∈ tb_ := mem_tb 889 (by decide +kernel) rfl
theorem mlRX6_214 : Cond.methodLink RX6 214 yX6_takeHand ∈ tb_ := mem_tb 893 (by decide +kernel) rfl
theorem mlRX6_217 : Cond.methodLink RX6 217 yX6_stream ∈ tb_ := mem_tb 897 (by decide +kernel) rfl
theorem mlRX6_223 : Cond.methodLink RX6 223 yX6_padWord ∈ tb_ := mem_tb 858 (by decide +kernel) rfl
theorem mlRX6_226 : Cond.methodLink RX6 226 yX6_makeOwnerKey ∈ tb_ := mem_tb 862 (by decide +kernel) rfl
theorem mlRX6_229 : Cond.methodLink RX6 229 yX6_makeOwnerEntry ∈ tb_ := mem_tb 854 (by decide +kernel) rfl
theorem mlRX6_232 : Cond.methodLink RX6 232 yX6_makeKey ∈ tb_ := mem_tb 905 (by decide +kernel) rfl
theorem mlRX6_235 : Cond.methodLink RX6 235 yX6_makeUserEntry ∈ tb_ := mem_tb 909 (by decide +kernel) rfl
theorem mlRX6_238 : Cond.methodLink RX6 238 yX6_isUsers ∈ tb_ := mem_tb 917 (by decide +kernel) rfl
theorem mlRX6_242 : Cond.methodLink RX6 242 yX6_know ∈ tb_ := mem_tb 921 (by decide +kernel) rfl
theorem mlRX6_245 : Cond.methodLink RX6 245 yX6_doubled ∈ tb_ := mem_tb 965 (by decide +kernel) rfl
theorem mlRX6_248 : Cond.methodLink RX6 248 yX6_product ∈ tb_ := mem_tb 962 (by decide +kernel) rfl
theorem mlRX6_251 : Cond.methodLink RX6 251 yX6_swapped ∈ tb_ := mem_tb 959 (by decide +kernel) rfl
theorem mlRX6_254 : Cond.methodLink RX6 254 yX6_makeSwaps ∈ tb_ := mem_tb 955 (by decide +kernel) rfl
theorem mlRX6_257 : Cond.methodLink RX6 257 yX6_addKey ∈ tb_ := mem_tb 980 (by decide +kernel) rfl
theorem mlRX6_260 : Cond.methodLink RX6 260 yX6_shift ∈ tb_ := mem_tb 988 (by decide +kernel) rfl
theorem mlRX6_263 : Cond.methodLink RX6 263 yX6_mixColumns ∈ tb_ := mem_tb 984 (by decide +kernel) rfl
theorem mlRX6_267 : Cond.methodLink RX6 267 yX6_unswapped ∈ tb_ := mem_tb 992 (by decide +kernel) rfl
theorem mlRX6_272 : Cond.methodLink RX6 272 yX6_undoAt ∈ tb_ := mem_tb 972 (by decide +kernel) rfl
theorem mlRX6_275 : Cond.methodLink RX6 275 yX6_undoBlock ∈ tb_ := mem_tb 976 (by decide +kernel) rfl
theorem mlRX6_278 : Cond.methodLink RX6 278 yX6_makeColumns ∈ tb_ := mem_tb 951 (by decide +kernel) rfl
theorem mlRX6_281 : Cond.methodLink RX6 281 yX6_filling ∈ tb_ := mem_tb 968 (by decide +kernel) rfl
theorem mlRX6_285 : Cond.methodLink RX6 285 yX6_isSound ∈ tb_ := mem_tb 937 (by decide +kernel) rfl
theorem mlRX6_289 : Cond.methodLink RX6 289 yX6_makeObjectKey ∈ tb_ := mem_tb 943 (by decide +kernel) rfl
theorem mlRX6_293 : Cond.methodLink RX6 293 yX6_undoBlocks ∈ tb_ := mem_tb 947 (by decide +kernel) rfl
theorem mlRX6_296 : Cond.methodLink RX6 296 yX6_streamRow ∈ tb_ := mem_tb 996 (by decide +kernel) rfl
theorem mlRX6_299 : Cond.methodLink RX6 299 yX6_copy ∈ tb_ := mem_tb 1000 (by decide +kernel) rfl
theorem mlRX6_302 : Cond.methodLink RX6 302 yX6_makeBlock ∈ tb_ := mem_tb 1012 (by decide +kernel) rfl
theorem mlRX6_305 : Cond.methodLink RX6 305 yX6_sealBlocks ∈ tb_ := mem_tb 1008 (by decide +kernel) rfl
theorem fgRX0_15 : Fl RX0 15 0 1 := ⟨RX0, TX0, 4, rfl, by decide, tbX0, mem_tb 148 (by decide +kernel) rfl⟩
theorem fgRX0_27 : Fl RX0 27 3 1 := ⟨RX3, TX3, 2, rfl, by decide, tbX3, mem_tb 91 (by decide +kernel) rfl⟩
theorem fgRX0_33 : Fl RX0 33 3 0 := ⟨RX3, TX3, 2, rfl, by decide, tbX3, mem_tb 82 (by decide +kernel) rfl⟩
theorem slRX0_24 : Cond.fieldLink RX0 24 "SheetKeys$Blocks" "SWAPS" "[I" ∈ tb_ := mem_tb 145 (by decide +kernel) rfl
theorem fgRX0_18 : Fl RX0 18 0 2 := ⟨RX0, TX0, 4, rfl, by decide, tbX0, mem_tb 149 (by decide +kernel) rfl⟩
theorem fgRX0_21 : Fl RX0 21 0 3 := ⟨RX0, TX0, 4, rfl, by decide, tbX0, mem_tb 150 (by decide +kernel) rfl⟩
theorem fgRX0_9 : Fl RX0 9 0 0 := ⟨RX0, TX0, 4, rfl, by decide, tbX0, mem_tb 147 (by decide +kernel) rfl⟩
theorem fgRX1_30 : Fl RX1 30 1 4 := ⟨RX1, TX1, 17, rfl, by decide, tbX1, mem_tb 168 (by decide +kernel) rfl⟩
theorem fgRX1_34 : Fl RX1 34 1 5 := ⟨RX1, TX1, 17, rfl, by decide, tbX1, mem_tb 170 (by decide +kernel) rfl⟩
theorem fgRX1_37 : Fl RX1 37 1 6 := ⟨RX1, TX1, 17, rfl, by decide, tbX1, mem_tb 172 (by decide +kernel) rfl⟩
theorem fgRX1_40 : Fl RX1 40 1 7 := ⟨RX1, TX1, 17, rfl, by decide, tbX1, mem_tb 173 (by decide +kernel) rfl⟩
theorem fgRX1_43 : Fl RX1 43 1 8 := ⟨RX1, TX1, 17, rfl, by decide, tbX1, mem_tb 174 (by decide +kernel) rfl⟩
theorem fgRX1_76 : Fl RX1 76 1 15 := ⟨RX1, TX1, 17, rfl, by decide, tbX1, mem_tb 185 (by decide +kernel) rfl⟩
theorem fgRX1_46 : Fl RX1 46 1 9 := ⟨RX1, TX1, 17, rfl, by decide, tbX1, mem_tb 175 (by decide +kernel) rfl⟩
theorem fgRX1_73 : Fl RX1 73 1 14 := ⟨RX1, TX1, 17, rfl, by decide, tbX1, mem_tb 184 (by decide +kernel) rfl⟩
theorem fgRX1_79 : Fl RX1 79 1 16 := ⟨RX1, TX1, 17, rfl, by decide, tbX1, mem_tb 186 (by decide +kernel) rfl⟩
theorem fgRX1_70 : Fl RX1 70 1 13 := ⟨RX1, TX1, 17, rfl, by decide, tbX1, mem_tb 183 (by decide +kernel) rfl⟩
theorem fgRX1_52 : Fl RX1 52 1 10 := ⟨RX1, TX1, 17, rfl, by decide, tbX1, mem_tb 177 (by decide +kernel) rfl⟩
theorem fgRX1_15 : Fl RX1 15 1 1 := ⟨RX1, TX1, 17, rfl, by decide, tbX1, mem_tb 162 (by decide +kernel) rfl⟩
theorem fgRX1_82 : Fl RX1 82 3 1 := ⟨RX3, TX3, 2, rfl, by decide, tbX3, mem_tb 87 (by decide +kernel) rfl⟩
theorem fgRX1_132 : Fl RX1 132 3 0 := ⟨RX3, TX3, 2, rfl, by decide, tbX3, mem_tb 86 (by decide +kernel) rfl⟩
theorem slRX1_139 : Cond.fieldLink RX1 139 "SheetKeys$Handler" "PAD" "[I" ∈ tb_ := mem_tb 267 (by decide +kernel) rfl
theorem fgRX1_18 : Fl RX1 18 1 2 := ⟨RX1, TX1, 17, rfl, by decide, tbX1, mem_tb 164 (by decide +kernel) rfl⟩
theorem fgRX1_9 : Fl RX1 9 1 0 := ⟨RX1, TX1, 17, rfl, by decide, tbX1, mem_tb 160 (by decide +kernel) rfl⟩
theorem fgRX1_21 : Fl RX1 21 1 3 := ⟨RX1, TX1, 17, rfl, by decide, tbX1, mem_tb 166 (by decide +kernel) rfl⟩
theorem fgRX1_59 : Fl RX1 59 1 11 := ⟨RX1, TX1, 17, rfl, by decide, tbX1, mem_tb 179 (by decide +kernel) rfl⟩
theorem fpRX2_14 : Fp RX2 14 2 1 .int := ⟨RX2, TX2, 5, tyX2, rfl, by decide, tbX2, mem_tb 114 (by decide +kernel) rfl, rfl, by decide +kernel, tyX2_ok, nmX2⟩
theorem fpRX2_19 : Fp RX2 19 2 2 .int := ⟨RX2, TX2, 5, tyX2, rfl, by decide, tbX2, mem_tb 115 (by decide +kernel) rfl, rfl, by decide +kernel, tyX2_ok, nmX2⟩
theorem fpRX2_23 : Fp RX2 23 2 3 .int := ⟨RX2, TX2, 5, tyX2, rfl, by decide, tbX2, mem_tb 116 (by decide +kernel) rfl, rfl, by decide +kernel, tyX2_ok, nmX2⟩
theorem fpRX2_27 : Fp RX2 27 2 4 .int := ⟨RX2, TX2, 5, tyX2, rfl, by decide, tbX2, mem_tb 117 (by decide +kernel) rfl, rfl, by decide +kernel, tyX2_ok, nmX2⟩
theorem fgRX2_30 : Fl RX2 30 3 1 := ⟨RX3, TX3, 2, rfl, by decide, tbX3, mem_tb 92 (by decide +kernel) rfl⟩
theorem fgRX2_7 : Fl RX2 7 2 0 := ⟨RX2, TX2, 5, rfl, by decide, tbX2, mem_tb 113 (by decide +kernel) rfl⟩
theorem fgRX2_14 : Fl RX2 14 2 1 := ⟨RX2, TX2, 5, rfl, by decide, tbX2, mem_tb 114 (by decide +kernel) rfl⟩
theorem fgRX2_19 : Fl RX2 19 2 2 := ⟨RX2, TX2, 5, rfl, by decide, tbX2, mem_tb 115 (by decide +kernel) rfl⟩
theorem fgRX2_23 : Fl RX2 23 2 3 := ⟨RX2, TX2, 5, rfl, by decide, tbX2, mem_tb 116 (by decide +kernel) rfl⟩
theorem fgRX2_27 : Fl RX2 27 2 4 := ⟨RX2, TX2, 5, rfl, by decide, tbX2, mem_tb 117 (by decide +kernel) rfl⟩
theorem fgRX2_53 : Fl RX2 53 3 0 := ⟨RX3, TX3, 2, rfl, by decide, tbX3, mem_tb 85 (by decide +kernel) rfl⟩
theorem slRX2_56 : Cond.fieldLink RX2 56 "SheetKeys$Hasher" "SINES" "[I" ∈ tb_ := mem_tb 304 (by decide +kernel) rfl
theorem slRX2_59 : Cond.fieldLink RX2 59 "SheetKeys$Hasher" "TURNS" "[I" ∈ tb_ := mem_tb 306 (by decide +kernel) rfl
theorem fgRX3_15 : Fl RX3 15 3 1 := ⟨RX3, TX3, 2, rfl, by decide, tbX3, mem_tb 90 (by decide +kernel) rfl⟩
theorem fgRX3_9 : Fl RX3 9 3 0 := ⟨RX3, TX3, 2, rfl, by decide, tbX3, mem_tb 81 (by decide +kernel) rfl⟩
theorem fpRX3_15 : Fp RX3 15 3 1 .int := ⟨RX3, TX3, 2, tyX3, rfl, by decide, tbX3, mem_tb 90 (by decide +kernel) rfl, rfl, by decide +kernel, tyX3_ok, nmX3⟩
theorem fgRX4_13 : Fl RX4 13 3 1 := ⟨RX3, TX3, 2, rfl, by decide, tbX3, mem_tb 88 (by decide +kernel) rfl⟩
theorem fgRX4_7 : Fl RX4 7 4 0 := ⟨RX4, TX4, 1, rfl, by decide, tbX4, mem_tb 135 (by decide +kernel) rfl⟩
theorem fgRX4_23 : Fl RX4 23 3 0 := ⟨RX3, TX3, 2, rfl, by decide, tbX3, mem_tb 83 (by decide +kernel) rfl⟩
theorem fgRX5_14 : Fl RX5 14 5 0 := ⟨RX5, TX5, 3, rfl, by decide, tbX5, mem_tb 222 (by decide +kernel) rfl⟩
theorem fgRX5_28 : Fl RX5 28 3 1 := ⟨RX3, TX3, 2, rfl, by decide, tbX3, mem_tb 89 (by decide +kernel) rfl⟩
theorem fgRX5_47 : Fl RX5 47 3 0 := ⟨RX3, TX3, 2, rfl, by decide, tbX3, mem_tb 84 (by decide +kernel) rfl⟩
theorem fgRX5_24 : Fl RX5 24 5 2 := ⟨RX5, TX5, 3, rfl, by decide, tbX5, mem_tb 224 (by decide +kernel) rfl⟩
theorem fpRX5_60 : Fp RX5 60 1 0 .int := ⟨RX1, TX1, 17, tyX1, rfl, by decide, tbX1, mem_tb 161 (by decide +kernel) rfl, rfl, by decide +kernel, tyX1_ok, nmX1⟩
theorem fpRX5_63 : Fp RX5 63 1 1 .int := ⟨RX1, TX1, 17, tyX1, rfl, by decide, tbX1, mem_tb 163 (by decide +kernel) rfl, rfl, by decide +kernel, tyX1_ok, nmX1⟩
theorem fpRX5_66 : Fp RX5 66 1 2 .int := ⟨RX1, TX1, 17, tyX1, rfl, by decide, tbX1, mem_tb 165 (by decide +kernel) rfl, rfl, by decide +kernel, tyX1_ok, nmX1⟩
theorem fpRX5_69 : Fp RX5 69 1 3 .boolean := ⟨RX1, TX1, 17, tyX1, rfl, by decide, tbX1, mem_tb 167 (by decide +kernel) rfl, rfl, by decide +kernel, tyX1_ok, nmX1⟩
theorem fgRX5_73 : Fl RX5 73 1 9 := ⟨RX1, TX1, 17, rfl, by decide, tbX1, mem_tb 176 (by decide +kernel) rfl⟩
theorem fgRX5_110 : Fl RX5 110 1 10 := ⟨RX1, TX1, 17, rfl, by decide, tbX1, mem_tb 178 (by decide +kernel) rfl⟩
theorem fgRX5_18 : Fl RX5 18 5 1 := ⟨RX5, TX5, 3, rfl, by decide, tbX5, mem_tb 223 (by decide +kernel) rfl⟩
theorem fgRX5_146 : Fl RX5 146 1 4 := ⟨RX1, TX1, 17, rfl, by decide, tbX1, mem_tb 169 (by decide +kernel) rfl⟩
theorem fgRX5_149 : Fl RX5 149 1 5 := ⟨RX1, TX1, 17, rfl, by decide, tbX1, mem_tb 171 (by decide +kernel) rfl⟩
theorem fgRX5_154 : Fl RX5 154 1 11 := ⟨RX1, TX1, 17, rfl, by decide, tbX1, mem_tb 180 (by decide +kernel) rfl⟩
theorem fgRX5_168 : Fl RX5 168 1 12 := ⟨RX1, TX1, 17, rfl, by decide, tbX1, mem_tb 182 (by decide +kernel) rfl⟩
theorem fpRX5_28 : Fp RX5 28 3 1 .int := ⟨RX3, TX3, 2, tyX3, rfl, by decide, tbX3, mem_tb 89 (by decide +kernel) rfl, rfl, by decide +kernel, tyX3_ok, nmX3⟩
theorem fgRX6_153 : Fl RX6 153 6 0 := ⟨RX6, TX6, 36, rfl, by decide, tbX6, mem_tb 713 (by decide +kernel) rfl⟩
theorem fpRX6_153 : Fp RX6 153 6 0 .int := ⟨RX6, TX6, 36, tyX6, rfl, by decide, tbX6, mem_tb 713 (by decide +kernel) rfl, rfl, by decide +kernel, tyX6_ok, nmX6⟩
theorem fgRX6_156 : Fl RX6 156 6 1 := ⟨RX6, TX6, 36, rfl, by decide, tbX6, mem_tb 714 (by decide +kernel) rfl⟩
theorem fgRX6_7 : Fl RX6 7 6 2 := ⟨RX6, TX6, 36, rfl, by decide, tbX6, mem_tb 715 (by decide +kernel) rfl⟩
theorem fpRX6_156 : Fp RX6 156 6 1 .int := ⟨RX6, TX6, 36, tyX6, rfl, by decide, tbX6, mem_tb 714 (by decide +kernel) rfl, rfl, by decide +kernel, tyX6_ok, nmX6⟩
theorem fgRX6_44 : Fl RX6 44 6 20 := ⟨RX6, TX6, 36, rfl, by decide, tbX6, mem_tb 733 (by decide +kernel) rfl⟩
theorem fgRX6_163 : Fl RX6 163 6 19 := ⟨RX6, TX6, 36, rfl, by decide, tbX6, mem_tb 732 (by decide +kernel) rfl⟩
theorem fpRX6_163 : Fp RX6 163 6 19 .int := ⟨RX6, TX6, 36, tyX6, rfl, by decide, tbX6, mem_tb 732 (by decide +kernel) rfl, rfl, by decide +kernel, tyX6_ok, nmX6⟩
theorem fgRX6_50 : Fl RX6 50 6 22 := ⟨RX6, TX6, 36, rfl, by decide, tbX6, mem_tb 735 (by decide +kernel) rfl⟩
theorem fgRX6_117 : Fl RX6 117 6 23 := ⟨RX6, TX6, 36, rfl, by decide, tbX6, mem_tb 736 (by decide +kernel) rfl⟩
theorem fgRX6_120 : Fl RX6 120 6 24 := ⟨RX6, TX6, 36, rfl, by decide, tbX6, mem_tb 737 (by decide +kernel) rfl⟩
theorem fgRX6_47 : Fl RX6 47 6 21 := ⟨RX6, TX6, 36, rfl, by decide, tbX6, mem_tb 734 (by decide +kernel) rfl⟩
theorem fgRX6_129 : Fl RX6 129 6 28 := ⟨RX6, TX6, 36, rfl, by decide, tbX6, mem_tb 741 (by decide +kernel) rfl⟩
theorem fgRX6_126 : Fl RX6 126 6 27 := ⟨RX6, TX6, 36, rfl, by decide, tbX6, mem_tb 740 (by decide +kernel) rfl⟩
theorem fgRX6_188 : Fl RX6 188 6 26 := ⟨RX6, TX6, 36, rfl, by decide, tbX6, mem_tb 739 (by decide +kernel) rfl⟩
theorem fgRX6_132 : Fl RX6 132 6 29 := ⟨RX6, TX6, 36, rfl, by decide, tbX6, mem_tb 742 (by decide +kernel) rfl⟩
theorem fgRX6_13 : Fl RX6 13 6 4 := ⟨RX6, TX6, 36, rfl, by decide, tbX6, mem_tb 717 (by decide +kernel) rfl⟩
theorem fpRX6_194 : Fp RX6 194 6 3 .int := ⟨RX6, TX6, 36, tyX6, rfl, by decide, tbX6, mem_tb 716 (by decide +kernel) rfl, rfl, by decide +kernel, tyX6_ok, nmX6⟩
theorem fgRX6_197 : Fl RX6 197 6 13 := ⟨RX6, TX6, 36, rfl, by decide, tbX6, mem_tb 726 (by decide +kernel) rfl⟩
theorem fgRX6_200 : Fl RX6 200 6 15 := ⟨RX6, TX6, 36, rfl, by decide, tbX6, mem_tb 728 (by decide +kernel) rfl⟩
theorem fgRX6_135 : Fl RX6 135 6 30 := ⟨RX6, TX6, 36, rfl, by decide, tbX6, mem_tb 743 (by decide +kernel) rfl⟩
theorem fgRX6_123 : Fl RX6 123 6 25 := ⟨RX6, TX6, 36, rfl, by decide, tbX6, mem_tb 738 (by decide +kernel) rfl⟩
theorem fgRX6_35 : Fl RX6 35 6 14 := ⟨RX6, TX6, 36, rfl, by decide, tbX6, mem_tb 727 (by decide +kernel) rfl⟩
theorem fgRX6_38 : Fl RX6 38 6 16 := ⟨RX6, TX6, 36, rfl, by decide, tbX6, mem_tb 729 (by decide +kernel) rfl⟩
theorem fgRX6_26 : Fl RX6 26 6 9 := ⟨RX6, TX6, 36, rfl, by decide, tbX6, mem_tb 722 (by decide +kernel) rfl⟩
theorem fgRX6_23 : Fl RX6 23 6 7 := ⟨RX6, TX6, 36, rfl, by decide, tbX6, mem_tb 720 (by decide +kernel) rfl⟩
theorem fgRX6_203 : Fl RX6 203 6 11 := ⟨RX6, TX6, 36, rfl, by decide, tbX6, mem_tb 724 (by decide +kernel) rfl⟩
theorem fgRX6_32 : Fl RX6 32 6 12 := ⟨RX6, TX6, 36, rfl, by decide, tbX6, mem_tb 725 (by decide +kernel) rfl⟩
theorem fgRX6_16 : Fl RX6 16 6 5 := ⟨RX6, TX6, 36, rfl, by decide, tbX6, mem_tb 718 (by decide +kernel) rfl⟩
theorem fgRX6_206 : Fl RX6 206 6 8 := ⟨RX6, TX6, 36, rfl, by decide, tbX6, mem_tb 721 (by decide +kernel) rfl⟩
theorem fgRX6_20 : Fl RX6 20 6 6 := ⟨RX6, TX6, 36, rfl, by decide, tbX6, mem_tb 719 (by decide +kernel) rfl⟩
theorem fpRX6_188 : Fp RX6 188 6 26 .int := ⟨RX6, TX6, 36, tyX6, rfl, by decide, tbX6, mem_tb 739 (by decide +kernel) rfl, rfl, by decide +kernel, tyX6_ok, nmX6⟩
theorem fpRX6_16 : Fp RX6 16 6 5 .int := ⟨RX6, TX6, 36, tyX6, rfl, by decide, tbX6, mem_tb 718 (by decide +kernel) rfl, rfl, by decide +kernel, tyX6_ok, nmX6⟩
theorem fpRX6_20 : Fp RX6 20 6 6 .int := ⟨RX6, TX6, 36, tyX6, rfl, by decide, tbX6, mem_tb 719 (by decide +kernel) rfl, rfl, by decide +kernel, tyX6_ok, nmX6⟩
theorem fpRX6_23 : Fp RX6 23 6 7 .int := ⟨RX6, TX6, 36, tyX6, rfl, by decide, tbX6, mem_tb 720 (by decide +kernel) rfl, rfl, by decide +kernel, tyX6_ok, nmX6⟩
theorem fpRX6_206 : Fp RX6 206 6 8 .boolean := ⟨RX6, TX6, 36, tyX6, rfl, by decide, tbX6, mem_tb 721 (by decide +kernel) rfl, rfl, by decide +kernel, tyX6_ok, nmX6⟩
theorem fpRX6_220 : Fp RX6 220 6 17 .boolean := ⟨RX6, TX6, 36, tyX6, rfl, by decide, tbX6, mem_tb 730 (by decide +kernel) rfl, rfl, by decide +kernel, tyX6_ok, nmX6⟩
theorem fpRX6_203 : Fp RX6 203 6 11 .int := ⟨RX6, TX6, 36, tyX6, rfl, by decide, tbX6, mem_tb 724 (by decide +kernel) rfl, rfl, by decide +kernel, tyX6_ok, nmX6⟩
theorem fpRX6_197 : Fp RX6 197 6 13 .int := ⟨RX6, TX6, 36, tyX6, rfl, by decide, tbX6, mem_tb 726 (by decide +kernel) rfl, rfl, by decide +kernel, tyX6_ok, nmX6⟩
theorem fpRX6_200 : Fp RX6 200 6 15 .int := ⟨RX6, TX6, 36, tyX6, rfl, by decide, tbX6, mem_tb 728 (by decide +kernel) rfl, rfl, by decide +kernel, tyX6_ok, nmX6⟩
theorem fgRX6_220 : Fl RX6 220 6 17 := ⟨RX6, TX6, 36, rfl, by decide, tbX6, mem_tb 730 (by decide +kernel) rfl⟩
theorem fgRX6_29 : Fl RX6 29 6 10 := ⟨RX6, TX6, 36, rfl, by decide, tbX6, mem_tb 723 (by decide +kernel) rfl⟩
theorem fgRX6_41 : Fl RX6 41 6 18 := ⟨RX6, TX6, 36, rfl, by decide, tbX6, mem_tb 731 (by decide +kernel) rfl⟩
theorem fgRX6_150 : Fl RX6 150 6 35 := ⟨RX6, TX6, 36, rfl, by decide, tbX6, mem_tb 748 (by decide +kernel) rfl⟩
theorem fgRX6_147 : Fl RX6 147 6 34 := ⟨RX6, TX6, 36, rfl, by decide, tbX6, mem_tb 747 (by decide +kernel) rfl⟩
theorem fgRX6_138 : Fl RX6 138 6 31 := ⟨RX6, TX6, 36, rfl, by decide, tbX6, mem_tb 744 (by decide +kernel) rfl⟩
theorem fgRX6_141 : Fl RX6 141 6 32 := ⟨RX6, TX6, 36, rfl, by decide, tbX6, mem_tb 745 (by decide +kernel) rfl⟩
theorem fgRX6_144 : Fl RX6 144 6 33 := ⟨RX6, TX6, 36, rfl, by decide, tbX6, mem_tb 746 (by decide +kernel) rfl⟩
theorem fgRX6_194 : Fl RX6 194 6 3 := ⟨RX6, TX6, 36, rfl, by decide, tbX6, mem_tb 716 (by decide +kernel) rfl⟩
theorem cnRX1_116 : Cond.constant RX1 116 (1933667412 : Int32) ∈ tb_ := mem_tb 559 (by decide +kernel) rfl
theorem cnRX2_13 : Cond.constant RX2 13 (1732584193 : Int32) ∈ tb_ := mem_tb 289 (by decide +kernel) rfl
theorem cnRX2_18 : Cond.constant RX2 18 (-271733879 : Int32) ∈ tb_ := mem_tb 290 (by decide +kernel) rfl
theorem cnRX2_22 : Cond.constant RX2 22 (-1732584194 : Int32) ∈ tb_ := mem_tb 291 (by decide +kernel) rfl
theorem cnRX2_26 : Cond.constant RX2 26 (271733878 : Int32) ∈ tb_ := mem_tb 292 (by decide +kernel) rfl
theorem cnRX5_152 : Cond.constant RX5 152 (8388607 : Int32) ∈ tb_ := mem_tb 547 (by decide +kernel) rfl
theorem cnRX5_153 : Cond.constant RX5 153 (65535 : Int32) ∈ tb_ := mem_tb 548 (by decide +kernel) rfl
theorem cnRX6_178 : Cond.constant RX6 178 (1732584193 : Int32) ∈ tb_ := mem_tb 874 (by decide +kernel) rfl
theorem cnRX6_179 : Cond.constant RX6 179 (-271733879 : Int32) ∈ tb_ := mem_tb 875 (by decide +kernel) rfl
theorem cnRX6_180 : Cond.constant RX6 180 (-1732584194 : Int32) ∈ tb_ := mem_tb 876 (by decide +kernel) rfl
theorem cnRX6_181 : Cond.constant RX6 181 (271733878 : Int32) ∈ tb_ := mem_tb 877 (by decide +kernel) rfl
theorem jn_min_static : Cond.static Lib.Math.min.name ∈ tb_ := mem_tb 264 (by decide +kernel) rfl
theorem jn_min_init : Cond.initialized "java/lang/Math" ∈ tb_ := mem_tb 65 (by decide +kernel) rfl
theorem jn_min_code : Cond.code Lib.Math.min.name Lib.Math.min.code 2 (some .int) ∈ tb_ := mem_tb 265 (by decide +kernel) rfl
theorem jn_copy_native : Cond.native arraycopyName ∈ tb_ := mem_tb 276 (by decide +kernel) rfl
theorem jn_copy_static : Cond.static arraycopyName ∈ tb_ := mem_tb 275 (by decide +kernel) rfl
theorem jn_sys_init : Cond.initialized "java/lang/System" ∈ tb_ := mem_tb 66 (by decide +kernel) rfl
